theorem d_Model_spiltBy_0 : decode prog_13_method_97_code 0 = .ok (.aload_n 0, 1) := by decide +kernel
theorem d_Model_spiltBy_1 : decode prog_13_method_97_code 1 = .ok (.invokevirtual 510, 3) := by decide +kernel
theorem d_Model_spiltBy_4 : decode prog_13_method_97_code 4 = .ok (.aload_n 0, 1) := by decide +kernel
theorem d_Model_spiltBy_5 : decode prog_13_method_97_code 5 = .ok (.iload_n 1, 1) := by decide +kernel
theorem d_Model_spiltBy_6 : decode prog_13_method_97_code 6 = .ok (.iconst (-1), 1) := by decide +kernel
theorem d_Model_spiltBy_7 : decode prog_13_method_97_code 7 = .ok (.invokevirtual 454, 3) := by decide +kernel
theorem d_Model_spiltBy_10 : decode prog_13_method_97_code 10 = .ok (.aload_n 0, 1) := by decide +kernel
theorem d_Model_spiltBy_11 : decode prog_13_method_97_code 11 = .ok (.iload_n 2, 1) := by decide +kernel
theorem d_Model_spiltBy_12 : decode prog_13_method_97_code 12 = .ok (.invokevirtual 488, 3) := by decide +kernel
theorem d_Model_spiltBy_15 : decode prog_13_method_97_code 15 = .ok (.aload_n 0, 1) := by decide +kernel
theorem d_Model_spiltBy_16 : decode prog_13_method_97_code 16 = .ok (.invokevirtual 495, 3) := by decide +kernel
theorem d_Model_spiltBy_19 : decode prog_13_method_97_code 19 = .ok (.aload_n 0, 1) := by decide +kernel
theorem d_Model_spiltBy_20 : decode prog_13_method_97_code 20 = .ok (.getfield 441, 3) := by decide +kernel
theorem d_Model_spiltBy_23 : decode prog_13_method_97_code 23 = .ok (.ireturn, 1) := by decide +kernel
set_option maxHeartbeats 4000000 in
set_option maxRecDepth 100000 in
theorem c_M_spiltBy (l : Launch) (D : va_G) (y : Nat → ClassId) (mo : Nat) (ma : Nat → Nat) (t1 : Nat) (i2 : Int32) (i3 : Int32) (i4 : Int32) (i5 : Int32) (i6 : Int32) (i7 : Int32) (i8 : Int32) (i42 : Int32) (i49 : Int32) (i51 : Int32) (i53 : Int32) (i54 : Int32) (i59 : Int32) (i61 : Int32) (i64 : Int32) (i66 : Int32) (t67 : Nat) (i76 : Int64) (i78 : Int32) (g43 : Nat → Int32) (g45 : Nat → Int32) (g46 : Nat → Int32) (g48 : Nat → Int32) (g50 : Nat → Int32) (g55 : Nat → Int32) (g56 : Nat → Int32) (g57 : Nat → Int32) (g58 : Nat → Int32) (g60 : Nat → Int64) (g62 : Nat → Int32) (g63 : Nat → Int32) (g68 : Nat → Int32) (j : Nat) (v : Int32) (c0 : Nat) (c1 : Nat) (c2 : Nat) (c3 : Nat) (dy : Nat) (hc0 : g43 4 = nI c0) (bc0 : c0 ≤ 9) (hc1 : g43 5 = nI c1) (bc1 : c1 ≤ 6) (hc2 : g43 6 = nI c2) (bc2 : c2 ≤ 16) (hc3 : g43 7 = nI c3) (bc3 : c3 ≤ 8) (hL : ¬ g45 7 = 0) (hS : ∀ j, j < 9 → g46 (54 + 6 * j) = 2 → ¬ g46 (54 + 6 * j + 1) = 0) (hG : ∀ j, j < 9 → g46 (54 + 6 * j + 5) = -1 ∨ ∃ q, q < 9 ∧ g46 (54 + 6 * j + 5) = nI q) (hTh : ∀ j, j < 16 → (∃ q, q < 6 ∧ g48 (112 + 7 * j) = nI q) ∧ ∃ q, q < 9 ∧ g48 (112 + 7 * j + 1) = nI q) (hC : ∀ k, 8 ≤ k → k < 8 + c3 → ∃ a b c, g56 k = nI a ∧ g57 k = nI b ∧ g58 k = nI c ∧ a ≤ b ∧ b ≤ c ∧ c ≤ 1600 ∧ (∃ q, dp g50 (1600 + a) (b - a) = some q) ∧ (∃ q, dp g50 (1600 + b) (c - b) = some q)) (hD : g62 0 = nI dy) (bD : dy ≤ 999) (hj : j < 9) : CT l D y ⟨"NineBoardsModel", "spiltBy", "(II)I"⟩ prog_13_method_97_code 3 (some .int) ({ frames := 5, cells := 0, slots := 0, locals := 129 } : Room) [.ref mo, .int (nI j), .int v] [MB mo ma (nI t1) i2 i3 i4 i5 i6 i7 i8 i42 i49 i51 i53 i54 i59 i61 i64 i66 (nI t67) i76 i78, (ma 43, .inl (y 0, 8, .inl g43)), (ma 45, .inl (y 0, 14, .inl g45)), (ma 46, .inl (y 0, 108, .inl g46)), (ma 48, .inl (y 0, 224, .inl g48)), (ma 50, .inl (y 0, 3200, .inl g50)), (ma 55, .inl (y 2, 16, .inl g55)), (ma 56, .inl (y 0, 16, .inl g56)), (ma 57, .inl (y 0, 16, .inl g57)), (ma 58, .inl (y 0, 16, .inl g58)), (ma 60, .inl (y 1, 1700, .inr (.inl g60))), (ma 62, .inl (y 0, 63, .inl g62)), (ma 63, .inl (y 0, 9, .inl g63)), (ma 68, .inl (y 0, 63, .inl g68))] (QI D [MB mo ma (nI t1) i2 i3 i4 i5 i6 i7 i8 i42 i49 i51 i53 i54 i59 i61 i64 i66 (nI t67) i76 i78, (ma 43, .inl (y 0, 8, .inl g43)), (ma 45, .inl (y 0, 14, .inl g45)), (ma 46, .inl (y 0, 108, .inl g46)), (ma 48, .inl (y 0, 224, .inl g48)), (ma 50, .inl (y 0, 3200, .inl g50)), (ma 55, .inl (y 2, 16, .inl g55)), (ma 56, .inl (y 0, 16, .inl g56)), (ma 57, .inl (y 0, 16, .inl g57)), (ma 58, .inl (y 0, 16, .inl g58)), (ma 60, .inl (y 1, 1700, .inr (.inl g60))), (ma 62, .inl (y 0, 63, .inl g62)), (ma 63, .inl (y 0, 9, .inl g63)), (ma 68, .inl (y 0, 63, .inl g68))] (fun (r : Int32) (u : Int32 × Int32 × (Nat → Int64) × (Nat → Int32) × (Nat → Int32) × (Nat → Int32)) => u.2.2.2.1 0 = nI dy) (fun u => [MB mo ma (nI t1) i2 i3 i4 i5 i6 i7 i8 i42 i49 i51 i53 i54 i59 u.1 u.2.1 i66 (nI t67) i76 i78, (ma 43, .inl (y 0, 8, .inl g43)), (ma 45, .inl (y 0, 14, .inl g45)), (ma 46, .inl (y 0, 108, .inl g46)), (ma 48, .inl (y 0, 224, .inl g48)), (ma 50, .inl (y 0, 3200, .inl g50)), (ma 55, .inl (y 2, 16, .inl g55)), (ma 56, .inl (y 0, 16, .inl g56)), (ma 57, .inl (y 0, 16, .inl g57)), (ma 58, .inl (y 0, 16, .inl g58)), (ma 60, .inl (y 1, 1700, .inr (.inl u.2.2.1))), (ma 62, .inl (y 0, 63, .inl u.2.2.2.1)), (ma 63, .inl (y 0, 9, .inl u.2.2.2.2.1)), (ma 68, .inl (y 0, 63, .inl u.2.2.2.2.2))])) := by
  refine CT.of (by decide) (nb rfl) ?_
  intro p e s m args below meth c C hr
  refine j_lv (lv' := [(0, .ref mo), (1, .int (nI j)), (2, .int v)]) rfl ?_
  refine j_aload_n (pc := 0) C d_Model_spiltBy_0 rfl 0 rfl ?_
  refine j_callVv (pc := 1) C (c_M_putsAside l D y mo ma t1 i2 i3 i4 i5 i6 i7 i8 i42 i49 i51 i53 i54 i59 i61 i64 i66 t67 i76 i78 g62 g68 dy hD) kw_Model_510 kv_Model_putsAside 0 10 rfl rfl ⟨by decide, by decide⟩ ⟨by decide, by decide⟩ (wr := [(ma 43, .inl (y 0, 8, .inl g43)), (ma 45, .inl (y 0, 14, .inl g45)), (ma 46, .inl (y 0, 108, .inl g46)), (ma 48, .inl (y 0, 224, .inl g48)), (ma 50, .inl (y 0, 3200, .inl g50)), (ma 55, .inl (y 2, 16, .inl g55)), (ma 56, .inl (y 0, 16, .inl g56)), (ma 57, .inl (y 0, 16, .inl g57)), (ma 58, .inl (y 0, 16, .inl g58)), (ma 60, .inl (y 1, 1700, .inr (.inl g60))), (ma 63, .inl (y 0, 9, .inl g63))]) [0, 11, 13] [1, 2, 3, 4, 5, 6, 7, 8, 9, 10, 12] rfl rfl (by decide) (by decide) (by decide) (As := []) (rest := []) rfl (nb rfl) rfl d_Model_spiltBy_1 (fun u1 hu2 => ?_)
  have xh3 := hu2
  refine j_ws (ws' := [(ma 43, .inl (y 0, 8, .inl g43)), (ma 45, .inl (y 0, 14, .inl g45)), (ma 46, .inl (y 0, 108, .inl g46)), (ma 48, .inl (y 0, 224, .inl g48)), (ma 50, .inl (y 0, 3200, .inl g50)), (ma 55, .inl (y 2, 16, .inl g55)), (ma 56, .inl (y 0, 16, .inl g56)), (ma 57, .inl (y 0, 16, .inl g57)), (ma 58, .inl (y 0, 16, .inl g58)), (ma 60, .inl (y 1, 1700, .inr (.inl g60))), (ma 63, .inl (y 0, 9, .inl g63)), MB mo ma (nI t1) i2 i3 i4 i5 i6 i7 i8 i42 i49 i51 i53 i54 i59 i61 i64 i66 (nI t67) i76 i78, (ma 62, .inl (y 0, 63, .inl g62)), (ma 68, .inl (y 0, 63, .inl u1))]) rfl ?_
  refine j_aload_n (pc := 4) C d_Model_spiltBy_4 rfl 0 rfl ?_
  refine j_iload_n (pc := 5) C d_Model_spiltBy_5 rfl 1 rfl ?_
  refine j_iconst (pc := 6) C (v := (-1)) d_Model_spiltBy_6 (by decide) ?_
  refine j_callVv (pc := 7) C (c_M_alters l D y mo ma t1 i2 i3 i4 i5 i6 i7 i8 i42 i49 i51 i53 i54 i59 i61 i64 i66 t67 i76 i78 g46 g62 j (-1) dy hG hj hD) kw_Model_454 kv_Model_alters 0 10 rfl rfl ⟨by decide, by decide⟩ ⟨by decide, by decide⟩ (wr := [(ma 43, .inl (y 0, 8, .inl g43)), (ma 45, .inl (y 0, 14, .inl g45)), (ma 48, .inl (y 0, 224, .inl g48)), (ma 50, .inl (y 0, 3200, .inl g50)), (ma 55, .inl (y 2, 16, .inl g55)), (ma 56, .inl (y 0, 16, .inl g56)), (ma 57, .inl (y 0, 16, .inl g57)), (ma 58, .inl (y 0, 16, .inl g58)), (ma 60, .inl (y 1, 1700, .inr (.inl g60))), (ma 63, .inl (y 0, 9, .inl g63)), (ma 68, .inl (y 0, 63, .inl u1))]) [11, 2, 12] [0, 1, 3, 4, 5, 6, 7, 8, 9, 10, 13] rfl rfl (by decide) (by decide) (by decide) (As := [.int (nI j), .int (-1)]) (rest := []) rfl (nb rfl) rfl d_Model_spiltBy_7 (fun u4 hu5 => ?_)
  have xh6 := hu5
  refine j_ws (ws' := [(ma 43, .inl (y 0, 8, .inl g43)), (ma 45, .inl (y 0, 14, .inl g45)), (ma 48, .inl (y 0, 224, .inl g48)), (ma 50, .inl (y 0, 3200, .inl g50)), (ma 55, .inl (y 2, 16, .inl g55)), (ma 56, .inl (y 0, 16, .inl g56)), (ma 57, .inl (y 0, 16, .inl g57)), (ma 58, .inl (y 0, 16, .inl g58)), (ma 60, .inl (y 1, 1700, .inr (.inl g60))), (ma 63, .inl (y 0, 9, .inl g63)), (ma 68, .inl (y 0, 63, .inl u1)), MB mo ma (nI t1) i2 i3 i4 i5 i6 i7 i8 i42 i49 i51 i53 i54 i59 i61 i64 i66 (nI t67) i76 i78, (ma 46, .inl (y 0, 108, .inl g46)), (ma 62, .inl (y 0, 63, .inl u4))]) rfl ?_
  refine j_aload_n (pc := 10) C d_Model_spiltBy_10 rfl 0 rfl ?_
  refine j_iload_n (pc := 11) C d_Model_spiltBy_11 rfl 2 rfl ?_
  refine j_callVv (pc := 12) C (c_M_goesBy l D y mo ma t1 i2 i3 i4 i5 i6 i7 i8 i42 i49 i51 i53 i54 i59 i61 i64 i66 t67 i76 i78 g43 g45 g46 g48 g50 g55 g56 g57 g58 g60 u4 g63 v c0 c1 c2 c3 dy hc0 bc0 hc1 bc1 hc2 bc2 hc3 bc3 hL hS hTh hC xh6 (by omega)) kw_Model_488 kv_Model_goesBy 0 10 rfl rfl ⟨by decide, by decide⟩ ⟨by decide, by decide⟩ (wr := [(ma 68, .inl (y 0, 63, .inl u1))]) [11, 0, 1, 12, 2, 3, 4, 5, 6, 7, 8, 13, 9] [10] rfl rfl (by decide) (by decide) (by decide) (As := [.int v]) (rest := []) rfl (nb rfl) rfl d_Model_spiltBy_12 (fun u7 hu8 => ?_)
  have xh9 := hu8
  refine j_ws (ws' := [(ma 68, .inl (y 0, 63, .inl u1)), MB mo ma (nI t1) i2 i3 i4 i5 i6 i7 i8 i42 i49 i51 i53 i54 i59 u7.1 u7.2.1 i66 (nI t67) i76 i78, (ma 43, .inl (y 0, 8, .inl g43)), (ma 45, .inl (y 0, 14, .inl g45)), (ma 46, .inl (y 0, 108, .inl g46)), (ma 48, .inl (y 0, 224, .inl g48)), (ma 50, .inl (y 0, 3200, .inl g50)), (ma 55, .inl (y 2, 16, .inl g55)), (ma 56, .inl (y 0, 16, .inl g56)), (ma 57, .inl (y 0, 16, .inl g57)), (ma 58, .inl (y 0, 16, .inl g58)), (ma 60, .inl (y 1, 1700, .inr (.inl u7.2.2.1))), (ma 62, .inl (y 0, 63, .inl u7.2.2.2.1)), (ma 63, .inl (y 0, 9, .inl u7.2.2.2.2))]) rfl ?_
  refine j_aload_n (pc := 15) C d_Model_spiltBy_15 rfl 0 rfl ?_
  refine j_callVv (pc := 16) C (c_M_takesBack l D y mo ma t1 i2 i3 i4 i5 i6 i7 i8 i42 i49 i51 i53 i54 i59 u7.1 u7.2.1 i66 t67 i76 i78 u7.2.2.2.1 u1 dy xh3) kw_Model_495 kv_Model_takesBack 0 10 rfl rfl ⟨by decide, by decide⟩ ⟨by decide, by decide⟩ (wr := [(ma 43, .inl (y 0, 8, .inl g43)), (ma 45, .inl (y 0, 14, .inl g45)), (ma 46, .inl (y 0, 108, .inl g46)), (ma 48, .inl (y 0, 224, .inl g48)), (ma 50, .inl (y 0, 3200, .inl g50)), (ma 55, .inl (y 2, 16, .inl g55)), (ma 56, .inl (y 0, 16, .inl g56)), (ma 57, .inl (y 0, 16, .inl g57)), (ma 58, .inl (y 0, 16, .inl g58)), (ma 60, .inl (y 1, 1700, .inr (.inl u7.2.2.1))), (ma 63, .inl (y 0, 9, .inl u7.2.2.2.2))]) [1, 12, 0] [2, 3, 4, 5, 6, 7, 8, 9, 10, 11, 13] rfl rfl (by decide) (by decide) (by decide) (As := []) (rest := []) rfl (nb rfl) rfl d_Model_spiltBy_16 (fun u10 hu11 => ?_)
  have xh12 := hu11
  refine j_ws (ws' := [(ma 43, .inl (y 0, 8, .inl g43)), (ma 45, .inl (y 0, 14, .inl g45)), (ma 46, .inl (y 0, 108, .inl g46)), (ma 48, .inl (y 0, 224, .inl g48)), (ma 50, .inl (y 0, 3200, .inl g50)), (ma 55, .inl (y 2, 16, .inl g55)), (ma 56, .inl (y 0, 16, .inl g56)), (ma 57, .inl (y 0, 16, .inl g57)), (ma 58, .inl (y 0, 16, .inl g58)), (ma 60, .inl (y 1, 1700, .inr (.inl u7.2.2.1))), (ma 63, .inl (y 0, 9, .inl u7.2.2.2.2)), MB mo ma (nI t1) i2 i3 i4 i5 i6 i7 i8 i42 i49 i51 i53 i54 i59 u7.1 u7.2.1 i66 (nI t67) i76 i78, (ma 62, .inl (y 0, 63, .inl u10)), (ma 68, .inl (y 0, 63, .inl u1))]) rfl ?_
  refine j_aload_n (pc := 19) C d_Model_spiltBy_19 rfl 0 rfl ?_
  refine j_get (pc := 20) C gf_Model_441 11 rfl rfl d_Model_spiltBy_20 ?_
  exact j_iret (pc := 23) C hr rfl (u7.1, u7.2.1, u7.2.2.1, u10, u7.2.2.2.2, u1) xh12 [11, 0, 1, 2, 3, 4, 5, 6, 7, 8, 9, 12, 10, 13] rfl (by decide) (by decide) (by decide) d_Model_spiltBy_23
theorem d_Model_first_0 : decode prog_13_method_98_code 0 = .ok (.iload_n 1, 1) := by decide +kernel
theorem d_Model_first_1 : decode prog_13_method_98_code 1 = .ok (.i2l, 1) := by decide +kernel
theorem d_Model_first_2 : decode prog_13_method_98_code 2 = .ok (.lconst 0, 1) := by decide +kernel
theorem d_Model_first_3 : decode prog_13_method_98_code 3 = .ok (.ldc2_w 413, 3) := by decide +kernel
theorem d_Model_first_6 : decode prog_13_method_98_code 6 = .ok (.invokestatic 240, 3) := by decide +kernel
theorem d_Model_first_9 : decode prog_13_method_98_code 9 = .ok (.ifCond .eq 27, 3) := by decide +kernel
theorem d_Model_first_36 : decode prog_13_method_98_code 36 = .ok (.iconst (-1), 1) := by decide +kernel
theorem d_Model_first_37 : decode prog_13_method_98_code 37 = .ok (.ireturn, 1) := by decide +kernel
theorem d_Model_first_12 : decode prog_13_method_98_code 12 = .ok (.iload_n 2, 1) := by decide +kernel
theorem d_Model_first_13 : decode prog_13_method_98_code 13 = .ok (.i2l, 1) := by decide +kernel
theorem d_Model_first_14 : decode prog_13_method_98_code 14 = .ok (.lconst 0, 1) := by decide +kernel
theorem d_Model_first_15 : decode prog_13_method_98_code 15 = .ok (.ldc2_w 531, 3) := by decide +kernel
theorem d_Model_first_18 : decode prog_13_method_98_code 18 = .ok (.invokestatic 240, 3) := by decide +kernel
theorem d_Model_first_21 : decode prog_13_method_98_code 21 = .ok (.ifCond .eq 15, 3) := by decide +kernel
theorem d_Model_first_24 : decode prog_13_method_98_code 24 = .ok (.aload_n 0, 1) := by decide +kernel
theorem d_Model_first_25 : decode prog_13_method_98_code 25 = .ok (.getfield 158, 3) := by decide +kernel
theorem d_Model_first_28 : decode prog_13_method_98_code 28 = .ok (.iconst 0, 1) := by decide +kernel
theorem d_Model_first_29 : decode prog_13_method_98_code 29 = .ok (.iaload, 1) := by decide +kernel
theorem d_Model_first_30 : decode prog_13_method_98_code 30 = .ok (.sipush 999, 3) := by decide +kernel
theorem d_Model_first_33 : decode prog_13_method_98_code 33 = .ok (.if_icmp .ne 5, 3) := by decide +kernel
theorem d_Model_first_38 : decode prog_13_method_98_code 38 = .ok (.iconst (-1), 1) := by decide +kernel
theorem d_Model_first_39 : decode prog_13_method_98_code 39 = .ok (.istore_n 3, 1) := by decide +kernel
theorem d_Model_first_40 : decode prog_13_method_98_code 40 = .ok (.iconst 0, 1) := by decide +kernel
theorem d_Model_first_41 : decode prog_13_method_98_code 41 = .ok (.istore 4, 2) := by decide +kernel
theorem d_Model_first_43 : decode prog_13_method_98_code 43 = .ok (.iconst 0, 1) := by decide +kernel
theorem d_Model_first_44 : decode prog_13_method_98_code 44 = .ok (.istore 5, 2) := by decide +kernel
theorem d_Model_first_46 : decode prog_13_method_98_code 46 = .ok (.iload 5, 2) := by decide +kernel
theorem d_Model_first_48 : decode prog_13_method_98_code 48 = .ok (.aload_n 0, 1) := by decide +kernel
theorem d_Model_first_49 : decode prog_13_method_98_code 49 = .ok (.invokevirtual 341, 3) := by decide +kernel
theorem d_Model_first_52 : decode prog_13_method_98_code 52 = .ok (.if_icmp .ge 70, 3) := by decide +kernel
theorem d_Model_first_122 : decode prog_13_method_98_code 122 = .ok (.iload_n 3, 1) := by decide +kernel
theorem d_Model_first_123 : decode prog_13_method_98_code 123 = .ok (.ireturn, 1) := by decide +kernel
theorem d_Model_first_55 : decode prog_13_method_98_code 55 = .ok (.aload_n 0, 1) := by decide +kernel
theorem d_Model_first_56 : decode prog_13_method_98_code 56 = .ok (.iload 5, 2) := by decide +kernel
theorem d_Model_first_58 : decode prog_13_method_98_code 58 = .ok (.iconst 1, 1) := by decide +kernel
theorem d_Model_first_59 : decode prog_13_method_98_code 59 = .ok (.bipush 20, 2) := by decide +kernel
theorem d_Model_first_61 : decode prog_13_method_98_code 61 = .ok (.invokevirtual 424, 3) := by decide +kernel
theorem d_Model_first_64 : decode prog_13_method_98_code 64 = .ok (.ifCond .ne 6, 3) := by decide +kernel
theorem d_Model_first_70 : decode prog_13_method_98_code 70 = .ok (.iload_n 2, 1) := by decide +kernel
theorem d_Model_first_71 : decode prog_13_method_98_code 71 = .ok (.aload_n 0, 1) := by decide +kernel
theorem d_Model_first_72 : decode prog_13_method_98_code 72 = .ok (.iload 5, 2) := by decide +kernel
theorem d_Model_first_74 : decode prog_13_method_98_code 74 = .ok (.iload_n 1, 1) := by decide +kernel
theorem d_Model_first_75 : decode prog_13_method_98_code 75 = .ok (.invokevirtual 533, 3) := by decide +kernel
theorem kw_Model_533 : KW "NineBoardsModel" 533 ⟨"NineBoardsModel", "spiltBy", "(II)I"⟩ prog_13_method_97_code 3 (some .int) 2 := ⟨(mt_8 (List.mem_of_getElem? (i := 3) rfl) rfl), (mt_1 (List.mem_of_getElem? (i := 16) rfl) rfl), (mt_8 (List.mem_of_getElem? (i := 6) rfl) rfl), by decide +kernel⟩
theorem kv_Model_spiltBy : Cond.instanceMethod ⟨"NineBoardsModel", "spiltBy", "(II)I"⟩ ∈ TB ∧ Cond.selects "NineBoardsModel" ⟨"NineBoardsModel", "spiltBy", "(II)I"⟩ ⟨"NineBoardsModel", "spiltBy", "(II)I"⟩ ∈ TB := ⟨(mt_8 (List.mem_of_getElem? (i := 5) rfl) rfl), (ms_0 (List.mem_map.mpr ⟨(⟨"NineBoardsModel", "spiltBy", "(II)I"⟩, 79), List.mem_of_getElem? (i := 121) (by decide +kernel), rfl⟩) rfl)⟩
theorem d_Model_first_78 : decode prog_13_method_98_code 78 = .ok (.imul, 1) := by decide +kernel
theorem d_Model_first_79 : decode prog_13_method_98_code 79 = .ok (.bipush 100, 2) := by decide +kernel
theorem d_Model_first_81 : decode prog_13_method_98_code 81 = .ok (.iload_n 2, 1) := by decide +kernel
theorem d_Model_first_82 : decode prog_13_method_98_code 82 = .ok (.isub, 1) := by decide +kernel
theorem d_Model_first_83 : decode prog_13_method_98_code 83 = .ok (.aload_n 0, 1) := by decide +kernel
theorem d_Model_first_84 : decode prog_13_method_98_code 84 = .ok (.iload 5, 2) := by decide +kernel
theorem d_Model_first_86 : decode prog_13_method_98_code 86 = .ok (.iconst 0, 1) := by decide +kernel
theorem d_Model_first_87 : decode prog_13_method_98_code 87 = .ok (.invokevirtual 533, 3) := by decide +kernel
theorem d_Model_first_90 : decode prog_13_method_98_code 90 = .ok (.imul, 1) := by decide +kernel
theorem d_Model_first_91 : decode prog_13_method_98_code 91 = .ok (.iadd, 1) := by decide +kernel
theorem d_Model_first_92 : decode prog_13_method_98_code 92 = .ok (.istore 6, 2) := by decide +kernel
theorem d_Model_first_94 : decode prog_13_method_98_code 94 = .ok (.iload_n 3, 1) := by decide +kernel
theorem d_Model_first_95 : decode prog_13_method_98_code 95 = .ok (.iconst (-1), 1) := by decide +kernel
theorem d_Model_first_96 : decode prog_13_method_98_code 96 = .ok (.if_icmp .eq 13, 3) := by decide +kernel
theorem d_Model_first_109 : decode prog_13_method_98_code 109 = .ok (.iload 5, 2) := by decide +kernel
theorem d_Model_first_111 : decode prog_13_method_98_code 111 = .ok (.istore_n 3, 1) := by decide +kernel
theorem d_Model_first_112 : decode prog_13_method_98_code 112 = .ok (.iload 6, 2) := by decide +kernel
theorem d_Model_first_114 : decode prog_13_method_98_code 114 = .ok (.istore 4, 2) := by decide +kernel
theorem d_Model_first_116 : decode prog_13_method_98_code 116 = .ok (.iinc 5 1, 3) := by decide +kernel
theorem d_Model_first_119 : decode prog_13_method_98_code 119 = .ok (.goto (-73), 3) := by decide +kernel
theorem d_Model_first_67 : decode prog_13_method_98_code 67 = .ok (.goto 49, 3) := by decide +kernel
theorem d_Model_first_99 : decode prog_13_method_98_code 99 = .ok (.iload 6, 2) := by decide +kernel
theorem d_Model_first_101 : decode prog_13_method_98_code 101 = .ok (.iload 4, 2) := by decide +kernel
theorem d_Model_first_103 : decode prog_13_method_98_code 103 = .ok (.if_icmp .lt 6, 3) := by decide +kernel
theorem d_Model_first_106 : decode prog_13_method_98_code 106 = .ok (.goto 10, 3) := by decide +kernel
set_option maxHeartbeats 4000000 in
set_option maxRecDepth 100000 in
theorem c_M_first (l : Launch) (D : va_G) (y : Nat → ClassId) (mo : Nat) (ma : Nat → Nat) (t1 : Nat) (i2 : Int32) (i3 : Int32) (i4 : Int32) (i5 : Int32) (i6 : Int32) (i7 : Int32) (i8 : Int32) (i42 : Int32) (i49 : Int32) (i51 : Int32) (i53 : Int32) (i54 : Int32) (i59 : Int32) (i61 : Int32) (i64 : Int32) (i66 : Int32) (t67 : Nat) (i76 : Int64) (i78 : Int32) (g43 : Nat → Int32) (g45 : Nat → Int32) (g46 : Nat → Int32) (g48 : Nat → Int32) (g50 : Nat → Int32) (g55 : Nat → Int32) (g56 : Nat → Int32) (g57 : Nat → Int32) (g58 : Nat → Int32) (g60 : Nat → Int64) (g62 : Nat → Int32) (g63 : Nat → Int32) (g68 : Nat → Int32) (v1 : Int32) (v2 : Int32) (c0 : Nat) (c1 : Nat) (c2 : Nat) (c3 : Nat) (dy : Nat) (hc0 : g43 4 = nI c0) (bc0 : c0 ≤ 9) (hc1 : g43 5 = nI c1) (bc1 : c1 ≤ 6) (hc2 : g43 6 = nI c2) (bc2 : c2 ≤ 16) (hc3 : g43 7 = nI c3) (bc3 : c3 ≤ 8) (hL : ¬ g45 7 = 0) (hS : ∀ j, j < 9 → g46 (54 + 6 * j) = 2 → ¬ g46 (54 + 6 * j + 1) = 0) (hG : ∀ j, j < 9 → g46 (54 + 6 * j + 5) = -1 ∨ ∃ q, q < 9 ∧ g46 (54 + 6 * j + 5) = nI q) (hTh : ∀ j, j < 16 → (∃ q, q < 6 ∧ g48 (112 + 7 * j) = nI q) ∧ ∃ q, q < 9 ∧ g48 (112 + 7 * j + 1) = nI q) (hC : ∀ k, 8 ≤ k → k < 8 + c3 → ∃ a b c, g56 k = nI a ∧ g57 k = nI b ∧ g58 k = nI c ∧ a ≤ b ∧ b ≤ c ∧ c ≤ 1600 ∧ (∃ q, dp g50 (1600 + a) (b - a) = some q) ∧ (∃ q, dp g50 (1600 + b) (c - b) = some q)) (hD : g62 0 = nI dy) (bD : dy ≤ 999) : CT l D y ⟨"NineBoardsModel", "first", "(II)I"⟩ prog_13_method_98_code 7 (some .int) ({ frames := 6, cells := 0, slots := 0, locals := 151 } : Room) [.ref mo, .int v1, .int v2] [MB mo ma (nI t1) i2 i3 i4 i5 i6 i7 i8 i42 i49 i51 i53 i54 i59 i61 i64 i66 (nI t67) i76 i78, (ma 43, .inl (y 0, 8, .inl g43)), (ma 45, .inl (y 0, 14, .inl g45)), (ma 46, .inl (y 0, 108, .inl g46)), (ma 48, .inl (y 0, 224, .inl g48)), (ma 50, .inl (y 0, 3200, .inl g50)), (ma 55, .inl (y 2, 16, .inl g55)), (ma 56, .inl (y 0, 16, .inl g56)), (ma 57, .inl (y 0, 16, .inl g57)), (ma 58, .inl (y 0, 16, .inl g58)), (ma 60, .inl (y 1, 1700, .inr (.inl g60))), (ma 62, .inl (y 0, 63, .inl g62)), (ma 63, .inl (y 0, 9, .inl g63)), (ma 68, .inl (y 0, 63, .inl g68))] (QI D [MB mo ma (nI t1) i2 i3 i4 i5 i6 i7 i8 i42 i49 i51 i53 i54 i59 i61 i64 i66 (nI t67) i76 i78, (ma 43, .inl (y 0, 8, .inl g43)), (ma 45, .inl (y 0, 14, .inl g45)), (ma 46, .inl (y 0, 108, .inl g46)), (ma 48, .inl (y 0, 224, .inl g48)), (ma 50, .inl (y 0, 3200, .inl g50)), (ma 55, .inl (y 2, 16, .inl g55)), (ma 56, .inl (y 0, 16, .inl g56)), (ma 57, .inl (y 0, 16, .inl g57)), (ma 58, .inl (y 0, 16, .inl g58)), (ma 60, .inl (y 1, 1700, .inr (.inl g60))), (ma 62, .inl (y 0, 63, .inl g62)), (ma 63, .inl (y 0, 9, .inl g63)), (ma 68, .inl (y 0, 63, .inl g68))] (fun (r : Int32) (u : Int32 × Int32 × (Nat → Int64) × (Nat → Int32) × (Nat → Int32) × (Nat → Int32)) => u.2.2.2.1 0 = nI dy) (fun u => [MB mo ma (nI t1) i2 i3 i4 i5 i6 i7 i8 i42 i49 i51 i53 i54 i59 u.1 u.2.1 i66 (nI t67) i76 i78, (ma 43, .inl (y 0, 8, .inl g43)), (ma 45, .inl (y 0, 14, .inl g45)), (ma 46, .inl (y 0, 108, .inl g46)), (ma 48, .inl (y 0, 224, .inl g48)), (ma 50, .inl (y 0, 3200, .inl g50)), (ma 55, .inl (y 2, 16, .inl g55)), (ma 56, .inl (y 0, 16, .inl g56)), (ma 57, .inl (y 0, 16, .inl g57)), (ma 58, .inl (y 0, 16, .inl g58)), (ma 60, .inl (y 1, 1700, .inr (.inl u.2.2.1))), (ma 62, .inl (y 0, 63, .inl u.2.2.2.1)), (ma 63, .inl (y 0, 9, .inl u.2.2.2.2.1)), (ma 68, .inl (y 0, 63, .inl u.2.2.2.2.2))])) := by
  refine CT.of (by decide) (nb rfl) ?_
  intro p e s m args below meth c C hr
  refine j_lv (lv' := [(0, .ref mo), (1, .int v1), (2, .int v2)]) rfl ?_
  refine j_iload_n (pc := 0) C d_Model_first_0 rfl 1 rfl ?_
  refine j_i2l (pc := 1) C (v := v1.toInt64) d_Model_first_1 rfl ?_
  refine j_lconst (pc := 2) C (v := 0) d_Model_first_2 (by decide) ?_
  refine j_ldc2 (pc := 3) C (v := 9999) (mt_7 (List.mem_of_getElem? (i := 162) rfl) rfl) d_Model_first_3 ?_
  refine j_callSi (pc := 6) C (c_isIn_0_9999 l D y v1) kw_Model_240 ks_Model_isIn ⟨by decide, by decide⟩ ⟨by decide, by decide⟩ (wr := [MB mo ma (nI t1) i2 i3 i4 i5 i6 i7 i8 i42 i49 i51 i53 i54 i59 i61 i64 i66 (nI t67) i76 i78, (ma 43, .inl (y 0, 8, .inl g43)), (ma 45, .inl (y 0, 14, .inl g45)), (ma 46, .inl (y 0, 108, .inl g46)), (ma 48, .inl (y 0, 224, .inl g48)), (ma 50, .inl (y 0, 3200, .inl g50)), (ma 55, .inl (y 2, 16, .inl g55)), (ma 56, .inl (y 0, 16, .inl g56)), (ma 57, .inl (y 0, 16, .inl g57)), (ma 58, .inl (y 0, 16, .inl g58)), (ma 60, .inl (y 1, 1700, .inr (.inl g60))), (ma 62, .inl (y 0, 63, .inl g62)), (ma 63, .inl (y 0, 9, .inl g63)), (ma 68, .inl (y 0, 63, .inl g68))]) [] [0, 1, 2, 3, 4, 5, 6, 7, 8, 9, 10, 11, 12, 13] rfl rfl (by decide) (by decide) (by decide) (As := [.long v1.toInt64, .long 0, .long 9999]) (rest := []) rfl (nb rfl) rfl d_Model_first_6 (fun r1 _ hr1 => ?_)
  refine j_ws (ws' := [MB mo ma (nI t1) i2 i3 i4 i5 i6 i7 i8 i42 i49 i51 i53 i54 i59 i61 i64 i66 (nI t67) i76 i78, (ma 43, .inl (y 0, 8, .inl g43)), (ma 45, .inl (y 0, 14, .inl g45)), (ma 46, .inl (y 0, 108, .inl g46)), (ma 48, .inl (y 0, 224, .inl g48)), (ma 50, .inl (y 0, 3200, .inl g50)), (ma 55, .inl (y 2, 16, .inl g55)), (ma 56, .inl (y 0, 16, .inl g56)), (ma 57, .inl (y 0, 16, .inl g57)), (ma 58, .inl (y 0, 16, .inl g58)), (ma 60, .inl (y 1, 1700, .inr (.inl g60))), (ma 62, .inl (y 0, 63, .inl g62)), (ma 63, .inl (y 0, 9, .inl g63)), (ma 68, .inl (y 0, 63, .inl g68))]) rfl ?_
  rcases hr1 with rfl | ⟨rfl, j2, xh3, rfl⟩
  · refine j_if_eqT (pc := 9) C (tgt := 36) d_Model_first_9 (by decide) (by decide) ?_
    refine j_iconst (pc := 36) C (v := (-1)) d_Model_first_36 (by decide) ?_
    exact j_iret (pc := 37) C hr rfl (i61, i64, g60, g62, g63, g68) hD [0, 1, 2, 3, 4, 5, 6, 7, 8, 9, 10, 11, 12, 13] rfl (by decide) (by decide) (by decide) d_Model_first_37
  · refine j_if_eqF (pc := 9) C (tgt := 36) d_Model_first_9 (by decide) (by decide) ?_
    refine j_iload_n (pc := 12) C d_Model_first_12 rfl 2 rfl ?_
    refine j_i2l (pc := 13) C (v := v2.toInt64) d_Model_first_13 rfl ?_
    refine j_lconst (pc := 14) C (v := 0) d_Model_first_14 (by decide) ?_
    refine j_ldc2 (pc := 15) C (v := 100) (mt_8 (List.mem_of_getElem? (i := 2) rfl) rfl) d_Model_first_15 ?_
    refine j_callSi (pc := 18) C (c_isIn_0_100 l D y v2) kw_Model_240 ks_Model_isIn ⟨by decide, by decide⟩ ⟨by decide, by decide⟩ (wr := [MB mo ma (nI t1) i2 i3 i4 i5 i6 i7 i8 i42 i49 i51 i53 i54 i59 i61 i64 i66 (nI t67) i76 i78, (ma 43, .inl (y 0, 8, .inl g43)), (ma 45, .inl (y 0, 14, .inl g45)), (ma 46, .inl (y 0, 108, .inl g46)), (ma 48, .inl (y 0, 224, .inl g48)), (ma 50, .inl (y 0, 3200, .inl g50)), (ma 55, .inl (y 2, 16, .inl g55)), (ma 56, .inl (y 0, 16, .inl g56)), (ma 57, .inl (y 0, 16, .inl g57)), (ma 58, .inl (y 0, 16, .inl g58)), (ma 60, .inl (y 1, 1700, .inr (.inl g60))), (ma 62, .inl (y 0, 63, .inl g62)), (ma 63, .inl (y 0, 9, .inl g63)), (ma 68, .inl (y 0, 63, .inl g68))]) [] [0, 1, 2, 3, 4, 5, 6, 7, 8, 9, 10, 11, 12, 13] rfl rfl (by decide) (by decide) (by decide) (As := [.long v2.toInt64, .long 0, .long 100]) (rest := []) rfl (nb rfl) rfl d_Model_first_18 (fun r4 _ hr4 => ?_)
    refine j_ws (ws' := [MB mo ma (nI t1) i2 i3 i4 i5 i6 i7 i8 i42 i49 i51 i53 i54 i59 i61 i64 i66 (nI t67) i76 i78, (ma 43, .inl (y 0, 8, .inl g43)), (ma 45, .inl (y 0, 14, .inl g45)), (ma 46, .inl (y 0, 108, .inl g46)), (ma 48, .inl (y 0, 224, .inl g48)), (ma 50, .inl (y 0, 3200, .inl g50)), (ma 55, .inl (y 2, 16, .inl g55)), (ma 56, .inl (y 0, 16, .inl g56)), (ma 57, .inl (y 0, 16, .inl g57)), (ma 58, .inl (y 0, 16, .inl g58)), (ma 60, .inl (y 1, 1700, .inr (.inl g60))), (ma 62, .inl (y 0, 63, .inl g62)), (ma 63, .inl (y 0, 9, .inl g63)), (ma 68, .inl (y 0, 63, .inl g68))]) rfl ?_
    rcases hr4 with rfl | ⟨rfl, j5, xh6, rfl⟩
    · refine j_if_eqT (pc := 21) C (tgt := 36) d_Model_first_21 (by decide) (by decide) ?_
      refine j_iconst (pc := 36) C (v := (-1)) d_Model_first_36 (by decide) ?_
      exact j_iret (pc := 37) C hr rfl (i61, i64, g60, g62, g63, g68) hD [0, 1, 2, 3, 4, 5, 6, 7, 8, 9, 10, 11, 12, 13] rfl (by decide) (by decide) (by decide) d_Model_first_37
    · refine j_if_eqF (pc := 21) C (tgt := 36) d_Model_first_21 (by decide) (by decide) ?_
      refine j_aload_n (pc := 24) C d_Model_first_24 rfl 0 rfl ?_
      refine j_get (pc := 25) C gf_Model_158 0 rfl rfl d_Model_first_25 ?_
      refine j_iconst (pc := 28) C (v := 0) d_Model_first_28 (by decide) ?_
      refine j_iald (pc := 29) C 11 rfl (v := nI dy) (vin (by decide)) (by exact hD) d_Model_first_29 ?_
      refine j_sipush (pc := 30) C (v := 999) d_Model_first_30 (by decide) ?_
      by_cases c7 : ¬ dy = 999
      · refine j_icmp_neT (pc := 33) C (tgt := 38) d_Model_first_33 (by decide) (show ¬ nI dy = nI 999 from fun e => absurd ((nI_eq (by omega) (by omega)).mp e) (by omega)) ?_
        refine j_iconst (pc := 38) C (v := (-1)) d_Model_first_38 (by decide) ?_
        refine j_istore_n (pc := 39) C (lv' := [(3, .int (-1)), (0, .ref mo), (1, .int (nI j2)), (2, .int (nI j5))]) d_Model_first_39 rfl (by decide) rfl ?_
        refine j_iconst (pc := 40) C (v := 0) d_Model_first_40 (by decide) ?_
        refine j_istore (pc := 41) C (lv' := [(4, .int 0), (3, .int (-1)), (0, .ref mo), (1, .int (nI j2)), (2, .int (nI j5))]) d_Model_first_41 (by decide) rfl ?_
        refine j_iconst (pc := 43) C (v := 0) d_Model_first_43 (by decide) ?_
        refine j_istore (pc := 44) C (lv' := [(5, .int 0), (4, .int 0), (3, .int (-1)), (0, .ref mo), (1, .int (nI j2)), (2, .int (nI j5))]) d_Model_first_44 (by decide) rfl ?_
        refine j_loop (α := Nat × (Nat → Int32) × Int32 × Int32 × Int32 × Int32 × (Nat → Int64) × (Nat → Int32) × (Nat → Int32)) (fun a => c0 - a.1) (fun a => (a.1 ≤ c0) ∧ (a.2.1 0 = nI dy)) (fun a => [MB mo ma (nI t1) i2 i3 i4 i5 i6 i7 i8 i42 i49 i51 i53 i54 i59 a.2.2.2.2.1 a.2.2.2.2.2.1 i66 (nI t67) i76 i78, (ma 43, .inl (y 0, 8, .inl g43)), (ma 45, .inl (y 0, 14, .inl g45)), (ma 46, .inl (y 0, 108, .inl g46)), (ma 48, .inl (y 0, 224, .inl g48)), (ma 50, .inl (y 0, 3200, .inl g50)), (ma 55, .inl (y 2, 16, .inl g55)), (ma 56, .inl (y 0, 16, .inl g56)), (ma 57, .inl (y 0, 16, .inl g57)), (ma 58, .inl (y 0, 16, .inl g58)), (ma 60, .inl (y 1, 1700, .inr (.inl a.2.2.2.2.2.2.1))), (ma 62, .inl (y 0, 63, .inl a.2.1)), (ma 63, .inl (y 0, 9, .inl a.2.2.2.2.2.2.2.1)), (ma 68, .inl (y 0, 63, .inl a.2.2.2.2.2.2.2.2))]) (fun a => [(5, .int (nI a.1)), (4, .int a.2.2.1), (3, .int a.2.2.2.1), (0, .ref mo), (1, .int (nI j2)), (2, .int (nI j5))]) (0, g62, 0, (-1), i61, i64, g60, g63, g68) rfl rfl ⟨(show 0 ≤ c0 by omega), hD⟩ ?_
        rintro ⟨iz, nz, z20, z21, z22, z23, z24, z25, z26⟩ hP55 ih56
        obtain ⟨hi__, hn__⟩ := hP55
        have hi_ : iz ≤ c0 := hi__
        have hn_ : nz 0 = nI dy := hn__
        refine j_ws (ws' := [MB mo ma (nI t1) i2 i3 i4 i5 i6 i7 i8 i42 i49 i51 i53 i54 i59 z22 z23 i66 (nI t67) i76 i78, (ma 43, .inl (y 0, 8, .inl g43)), (ma 45, .inl (y 0, 14, .inl g45)), (ma 46, .inl (y 0, 108, .inl g46)), (ma 48, .inl (y 0, 224, .inl g48)), (ma 50, .inl (y 0, 3200, .inl g50)), (ma 55, .inl (y 2, 16, .inl g55)), (ma 56, .inl (y 0, 16, .inl g56)), (ma 57, .inl (y 0, 16, .inl g57)), (ma 58, .inl (y 0, 16, .inl g58)), (ma 60, .inl (y 1, 1700, .inr (.inl z24))), (ma 62, .inl (y 0, 63, .inl nz)), (ma 63, .inl (y 0, 9, .inl z25)), (ma 68, .inl (y 0, 63, .inl z26))]) rfl ?_
        refine j_lv (lv' := [(5, .int (nI iz)), (4, .int z20), (3, .int z21), (0, .ref mo), (1, .int (nI j2)), (2, .int (nI j5))]) rfl ?_
        refine j_iload (pc := 46) C d_Model_first_46 0 rfl ?_
        refine j_aload_n (pc := 48) C d_Model_first_48 rfl 3 rfl ?_
        refine j_callVi (pc := 49) C (c_M_gateMany l D y mo ma t1 i2 i3 i4 i5 i6 i7 i8 i42 i49 i51 i53 i54 i59 z22 z23 i66 t67 i76 i78 g43 c0 hc0 bc0) kw_Model_341 kv_Model_gateMany 0 10 rfl rfl ⟨by decide, by decide⟩ ⟨by decide, by decide⟩ (wr := [(ma 45, .inl (y 0, 14, .inl g45)), (ma 46, .inl (y 0, 108, .inl g46)), (ma 48, .inl (y 0, 224, .inl g48)), (ma 50, .inl (y 0, 3200, .inl g50)), (ma 55, .inl (y 2, 16, .inl g55)), (ma 56, .inl (y 0, 16, .inl g56)), (ma 57, .inl (y 0, 16, .inl g57)), (ma 58, .inl (y 0, 16, .inl g58)), (ma 60, .inl (y 1, 1700, .inr (.inl z24))), (ma 62, .inl (y 0, 63, .inl nz)), (ma 63, .inl (y 0, 9, .inl z25)), (ma 68, .inl (y 0, 63, .inl z26))]) [0, 1] [2, 3, 4, 5, 6, 7, 8, 9, 10, 11, 12, 13] rfl rfl (by decide) (by decide) (by decide) (As := []) (rest := [.int (nI iz)]) rfl (nb rfl) rfl d_Model_first_49 (fun r57 _ hr57 => ?_)
        obtain rfl := hr57
        refine j_ws (ws' := [(ma 45, .inl (y 0, 14, .inl g45)), (ma 46, .inl (y 0, 108, .inl g46)), (ma 48, .inl (y 0, 224, .inl g48)), (ma 50, .inl (y 0, 3200, .inl g50)), (ma 55, .inl (y 2, 16, .inl g55)), (ma 56, .inl (y 0, 16, .inl g56)), (ma 57, .inl (y 0, 16, .inl g57)), (ma 58, .inl (y 0, 16, .inl g58)), (ma 60, .inl (y 1, 1700, .inr (.inl z24))), (ma 62, .inl (y 0, 63, .inl nz)), (ma 63, .inl (y 0, 9, .inl z25)), (ma 68, .inl (y 0, 63, .inl z26)), MB mo ma (nI t1) i2 i3 i4 i5 i6 i7 i8 i42 i49 i51 i53 i54 i59 z22 z23 i66 (nI t67) i76 i78, (ma 43, .inl (y 0, 8, .inl g43))]) rfl ?_
        by_cases c58 : c0 ≤ iz
        · refine j_icmp_geT (pc := 52) C (tgt := 122) d_Model_first_52 (by decide) (show nI c0 ≤ nI iz from nI_le (by omega) (by omega)) ?_
          refine j_iload_n (pc := 122) C d_Model_first_122 rfl 2 rfl ?_
          exact j_iret (pc := 123) C hr rfl (z22, z23, z24, nz, z25, z26) hn_ [12, 13, 0, 1, 2, 3, 4, 5, 6, 7, 8, 9, 10, 11] rfl (by decide) (by decide) (by decide) d_Model_first_123
        · refine j_icmp_geF (pc := 52) C (tgt := 122) d_Model_first_52 (by decide) (show ¬ nI c0 ≤ nI iz from nI_ge (by omega) (by omega)) ?_
          refine j_aload_n (pc := 55) C d_Model_first_55 rfl 3 rfl ?_
          refine j_iload (pc := 56) C d_Model_first_56 0 rfl ?_
          refine j_iconst (pc := 58) C (v := 1) d_Model_first_58 (by decide) ?_
          refine j_bipush (pc := 59) C (v := 20) d_Model_first_59 (by decide) ?_
          refine j_callVi (pc := 61) C (c_M_areBoards l D y mo ma t1 i2 i3 i4 i5 i6 i7 i8 i42 i49 i51 i53 i54 i59 z22 z23 i66 t67 i76 i78 g46 nz iz 1 20 (by omega) (by omega)) kw_Model_424 kv_Model_areBoards 0 10 rfl rfl ⟨by decide, by decide⟩ ⟨by decide, by decide⟩ (wr := [(ma 45, .inl (y 0, 14, .inl g45)), (ma 48, .inl (y 0, 224, .inl g48)), (ma 50, .inl (y 0, 3200, .inl g50)), (ma 55, .inl (y 2, 16, .inl g55)), (ma 56, .inl (y 0, 16, .inl g56)), (ma 57, .inl (y 0, 16, .inl g57)), (ma 58, .inl (y 0, 16, .inl g58)), (ma 60, .inl (y 1, 1700, .inr (.inl z24))), (ma 63, .inl (y 0, 9, .inl z25)), (ma 68, .inl (y 0, 63, .inl z26)), (ma 43, .inl (y 0, 8, .inl g43))]) [12, 1, 9] [0, 2, 3, 4, 5, 6, 7, 8, 10, 11, 13] rfl rfl (by decide) (by decide) (by decide) (As := [.int (nI iz), .int 1, .int 20]) (rest := []) rfl (nb rfl) rfl d_Model_first_61 (fun r59 _ hr59 => ?_)
          have xh60 := hr59
          refine j_ws (ws' := [(ma 45, .inl (y 0, 14, .inl g45)), (ma 48, .inl (y 0, 224, .inl g48)), (ma 50, .inl (y 0, 3200, .inl g50)), (ma 55, .inl (y 2, 16, .inl g55)), (ma 56, .inl (y 0, 16, .inl g56)), (ma 57, .inl (y 0, 16, .inl g57)), (ma 58, .inl (y 0, 16, .inl g58)), (ma 60, .inl (y 1, 1700, .inr (.inl z24))), (ma 63, .inl (y 0, 9, .inl z25)), (ma 68, .inl (y 0, 63, .inl z26)), (ma 43, .inl (y 0, 8, .inl g43)), MB mo ma (nI t1) i2 i3 i4 i5 i6 i7 i8 i42 i49 i51 i53 i54 i59 z22 z23 i66 (nI t67) i76 i78, (ma 46, .inl (y 0, 108, .inl g46)), (ma 62, .inl (y 0, 63, .inl nz))]) rfl ?_
          refine j_if_ne (pc := 64) C (tgt := 70) d_Model_first_64 (by decide) (fun c61 => ?_) (fun c61 => ?_)
          · refine j_iload_n (pc := 70) C d_Model_first_70 rfl 5 rfl ?_
            refine j_aload_n (pc := 71) C d_Model_first_71 rfl 3 rfl ?_
            refine j_iload (pc := 72) C d_Model_first_72 0 rfl ?_
            refine j_iload_n (pc := 74) C d_Model_first_74 rfl 4 rfl ?_
            refine j_callVi (pc := 75) C (c_M_spiltBy l D y mo ma t1 i2 i3 i4 i5 i6 i7 i8 i42 i49 i51 i53 i54 i59 z22 z23 i66 t67 i76 i78 g43 g45 g46 g48 g50 g55 g56 g57 g58 z24 nz z25 z26 iz (nI j2) c0 c1 c2 c3 dy hc0 bc0 hc1 bc1 hc2 bc2 hc3 bc3 hL (by omega) (by omega) (by omega) hC hn_ bD (by omega)) kw_Model_533 kv_Model_spiltBy 0 10 rfl rfl ⟨by decide, by decide⟩ ⟨by decide, by decide⟩ (wr := []) [11, 10, 0, 12, 1, 2, 3, 4, 5, 6, 7, 13, 8, 9] [] rfl rfl (by decide) (by decide) (by decide) (As := [.int (nI iz), .int (nI j2)]) (rest := [.int (nI j5)]) rfl (nb rfl) rfl d_Model_first_75 (fun r62 u63 hr62 => ?_)
            have xh64 := hr62
            refine j_ws (ws' := [MB mo ma (nI t1) i2 i3 i4 i5 i6 i7 i8 i42 i49 i51 i53 i54 i59 u63.1 u63.2.1 i66 (nI t67) i76 i78, (ma 43, .inl (y 0, 8, .inl g43)), (ma 45, .inl (y 0, 14, .inl g45)), (ma 46, .inl (y 0, 108, .inl g46)), (ma 48, .inl (y 0, 224, .inl g48)), (ma 50, .inl (y 0, 3200, .inl g50)), (ma 55, .inl (y 2, 16, .inl g55)), (ma 56, .inl (y 0, 16, .inl g56)), (ma 57, .inl (y 0, 16, .inl g57)), (ma 58, .inl (y 0, 16, .inl g58)), (ma 60, .inl (y 1, 1700, .inr (.inl u63.2.2.1))), (ma 62, .inl (y 0, 63, .inl u63.2.2.2.1)), (ma 63, .inl (y 0, 9, .inl u63.2.2.2.2.1)), (ma 68, .inl (y 0, 63, .inl u63.2.2.2.2.2))]) rfl ?_
            refine j_imul (pc := 78) C (v := (nI j5) * r62) d_Model_first_78 rfl ?_
            refine j_bipush (pc := 79) C (v := 100) d_Model_first_79 (by decide) ?_
            refine j_iload_n (pc := 81) C d_Model_first_81 rfl 5 rfl ?_
            refine j_isub (pc := 82) C (v := nI (100 - j5)) d_Model_first_82 (pk_sub (a := 100) (b := j5) (by omega)) ?_
            refine j_aload_n (pc := 83) C d_Model_first_83 rfl 3 rfl ?_
            refine j_iload (pc := 84) C d_Model_first_84 0 rfl ?_
            refine j_iconst (pc := 86) C (v := 0) d_Model_first_86 (by decide) ?_
            refine j_callVi (pc := 87) C (c_M_spiltBy l D y mo ma t1 i2 i3 i4 i5 i6 i7 i8 i42 i49 i51 i53 i54 i59 u63.1 u63.2.1 i66 t67 i76 i78 g43 g45 g46 g48 g50 g55 g56 g57 g58 u63.2.2.1 u63.2.2.2.1 u63.2.2.2.2.1 u63.2.2.2.2.2 iz 0 c0 c1 c2 c3 dy hc0 bc0 hc1 bc1 hc2 bc2 hc3 bc3 hL (by omega) (by omega) (by omega) hC xh64 bD (by omega)) kw_Model_533 kv_Model_spiltBy 0 10 rfl rfl ⟨by decide, by decide⟩ ⟨by decide, by decide⟩ (wr := []) [0, 1, 2, 3, 4, 5, 6, 7, 8, 9, 10, 11, 12, 13] [] rfl rfl (by decide) (by decide) (by decide) (As := [.int (nI iz), .int 0]) (rest := [.int (nI (100 - j5)), .int ((nI j5) * r62)]) rfl (nb rfl) rfl d_Model_first_87 (fun r65 u66 hr65 => ?_)
            have xh67 := hr65
            refine j_ws (ws' := [MB mo ma (nI t1) i2 i3 i4 i5 i6 i7 i8 i42 i49 i51 i53 i54 i59 u66.1 u66.2.1 i66 (nI t67) i76 i78, (ma 43, .inl (y 0, 8, .inl g43)), (ma 45, .inl (y 0, 14, .inl g45)), (ma 46, .inl (y 0, 108, .inl g46)), (ma 48, .inl (y 0, 224, .inl g48)), (ma 50, .inl (y 0, 3200, .inl g50)), (ma 55, .inl (y 2, 16, .inl g55)), (ma 56, .inl (y 0, 16, .inl g56)), (ma 57, .inl (y 0, 16, .inl g57)), (ma 58, .inl (y 0, 16, .inl g58)), (ma 60, .inl (y 1, 1700, .inr (.inl u66.2.2.1))), (ma 62, .inl (y 0, 63, .inl u66.2.2.2.1)), (ma 63, .inl (y 0, 9, .inl u66.2.2.2.2.1)), (ma 68, .inl (y 0, 63, .inl u66.2.2.2.2.2))]) rfl ?_
            refine j_imul (pc := 90) C (v := (nI (100 - j5)) * r65) d_Model_first_90 rfl ?_
            refine j_iadd (pc := 91) C (v := ((nI j5) * r62) + ((nI (100 - j5)) * r65)) d_Model_first_91 rfl ?_
            refine j_anyI (fun v68 => ?_)
            refine j_istore (pc := 92) C (lv' := [(6, .int v68), (5, .int (nI iz)), (4, .int z20), (3, .int z21), (0, .ref mo), (1, .int (nI j2)), (2, .int (nI j5))]) d_Model_first_92 (by decide) rfl ?_
            refine j_iload_n (pc := 94) C d_Model_first_94 rfl 3 rfl ?_
            refine j_iconst (pc := 95) C (v := (-1)) d_Model_first_95 (by decide) ?_
            refine j_icmp_eq (pc := 96) C (tgt := 109) d_Model_first_96 (by decide) (fun c69 => ?_) (fun c69 => ?_)
            · refine j_iload (pc := 109) C d_Model_first_109 1 rfl ?_
              refine j_istore_n (pc := 111) C (lv' := [(3, .int (nI iz)), (6, .int v68), (5, .int (nI iz)), (4, .int z20), (0, .ref mo), (1, .int (nI j2)), (2, .int (nI j5))]) d_Model_first_111 rfl (by decide) rfl ?_
              refine j_iload (pc := 112) C d_Model_first_112 1 rfl ?_
              refine j_istore (pc := 114) C (lv' := [(4, .int v68), (3, .int (nI iz)), (6, .int v68), (5, .int (nI iz)), (0, .ref mo), (1, .int (nI j2)), (2, .int (nI j5))]) d_Model_first_114 (by decide) rfl ?_
              refine j_iinc (pc := 116) C (v := nI (iz + 1)) (lv' := [(5, .int (nI (iz + 1))), (4, .int v68), (3, .int (nI iz)), (6, .int v68), (0, .ref mo), (1, .int (nI j2)), (2, .int (nI j5))]) d_Model_first_116 3 rfl (nI_add _ _) (by decide) rfl ?_
              refine j_goto (pc := 119) C (tgt := 46) d_Model_first_119 (by decide) ?_
              refine j_locs (lv' := [(5, .int (nI (iz + 1))), (4, .int v68), (3, .int (nI iz)), (0, .ref mo), (1, .int (nI j2)), (2, .int (nI j5))]) [0, 1, 2, 4, 5, 6] rfl ?_
              exact ih56 ((iz + 1), u66.2.2.2.1, v68, nI iz, u66.1, u66.2.1, u66.2.2.1, u66.2.2.2.2.1, u66.2.2.2.2.2) ⟨(show (iz + 1) ≤ c0 by omega), xh67⟩ (show c0 - (iz + 1) < c0 - iz by omega)
            · refine j_iload (pc := 99) C d_Model_first_99 0 rfl ?_
              refine j_iload (pc := 101) C d_Model_first_101 2 rfl ?_
              refine j_icmp_lt (pc := 103) C (tgt := 109) d_Model_first_103 (by decide) (fun c70 => ?_) (fun c70 => ?_)
              · refine j_iload (pc := 109) C d_Model_first_109 1 rfl ?_
                refine j_istore_n (pc := 111) C (lv' := [(3, .int (nI iz)), (6, .int v68), (5, .int (nI iz)), (4, .int z20), (0, .ref mo), (1, .int (nI j2)), (2, .int (nI j5))]) d_Model_first_111 rfl (by decide) rfl ?_
                refine j_iload (pc := 112) C d_Model_first_112 1 rfl ?_
                refine j_istore (pc := 114) C (lv' := [(4, .int v68), (3, .int (nI iz)), (6, .int v68), (5, .int (nI iz)), (0, .ref mo), (1, .int (nI j2)), (2, .int (nI j5))]) d_Model_first_114 (by decide) rfl ?_
                refine j_iinc (pc := 116) C (v := nI (iz + 1)) (lv' := [(5, .int (nI (iz + 1))), (4, .int v68), (3, .int (nI iz)), (6, .int v68), (0, .ref mo), (1, .int (nI j2)), (2, .int (nI j5))]) d_Model_first_116 3 rfl (nI_add _ _) (by decide) rfl ?_
                refine j_goto (pc := 119) C (tgt := 46) d_Model_first_119 (by decide) ?_
                refine j_locs (lv' := [(5, .int (nI (iz + 1))), (4, .int v68), (3, .int (nI iz)), (0, .ref mo), (1, .int (nI j2)), (2, .int (nI j5))]) [0, 1, 2, 4, 5, 6] rfl ?_
                exact ih56 ((iz + 1), u66.2.2.2.1, v68, nI iz, u66.1, u66.2.1, u66.2.2.1, u66.2.2.2.2.1, u66.2.2.2.2.2) ⟨(show (iz + 1) ≤ c0 by omega), xh67⟩ (show c0 - (iz + 1) < c0 - iz by omega)
              · refine j_goto (pc := 106) C (tgt := 116) d_Model_first_106 (by decide) ?_
                refine j_iinc (pc := 116) C (v := nI (iz + 1)) (lv' := [(5, .int (nI (iz + 1))), (6, .int v68), (4, .int z20), (3, .int z21), (0, .ref mo), (1, .int (nI j2)), (2, .int (nI j5))]) d_Model_first_116 1 rfl (nI_add _ _) (by decide) rfl ?_
                refine j_goto (pc := 119) C (tgt := 46) d_Model_first_119 (by decide) ?_
                refine j_locs (lv' := [(5, .int (nI (iz + 1))), (4, .int z20), (3, .int z21), (0, .ref mo), (1, .int (nI j2)), (2, .int (nI j5))]) [0, 2, 3, 4, 5, 6] rfl ?_
                exact ih56 ((iz + 1), u66.2.2.2.1, z20, z21, u66.1, u66.2.1, u66.2.2.1, u66.2.2.2.2.1, u66.2.2.2.2.2) ⟨(show (iz + 1) ≤ c0 by omega), xh67⟩ (show c0 - (iz + 1) < c0 - iz by omega)
          · refine j_goto (pc := 67) C (tgt := 116) d_Model_first_67 (by decide) ?_
            refine j_iinc (pc := 116) C (v := nI (iz + 1)) (lv' := [(5, .int (nI (iz + 1))), (4, .int z20), (3, .int z21), (0, .ref mo), (1, .int (nI j2)), (2, .int (nI j5))]) d_Model_first_116 0 rfl (nI_add _ _) (by decide) rfl ?_
            refine j_goto (pc := 119) C (tgt := 46) d_Model_first_119 (by decide) ?_
            refine j_sub (ws' := [MB mo ma (nI t1) i2 i3 i4 i5 i6 i7 i8 i42 i49 i51 i53 i54 i59 z22 z23 i66 (nI t67) i76 i78, (ma 43, .inl (y 0, 8, .inl g43)), (ma 45, .inl (y 0, 14, .inl g45)), (ma 46, .inl (y 0, 108, .inl g46)), (ma 48, .inl (y 0, 224, .inl g48)), (ma 50, .inl (y 0, 3200, .inl g50)), (ma 55, .inl (y 2, 16, .inl g55)), (ma 56, .inl (y 0, 16, .inl g56)), (ma 57, .inl (y 0, 16, .inl g57)), (ma 58, .inl (y 0, 16, .inl g58)), (ma 60, .inl (y 1, 1700, .inr (.inl z24))), (ma 62, .inl (y 0, 63, .inl nz)), (ma 63, .inl (y 0, 9, .inl z25)), (ma 68, .inl (y 0, 63, .inl z26))]) [11, 10, 0, 12, 1, 2, 3, 4, 5, 6, 7, 13, 8, 9] rfl (by decide) ?_
            exact ih56 ((iz + 1), nz, z20, z21, z22, z23, z24, z25, z26) ⟨(show (iz + 1) ≤ c0 by omega), hn_⟩ (show c0 - (iz + 1) < c0 - iz by omega)
      · refine j_icmp_neF (pc := 33) C (tgt := 38) d_Model_first_33 (by decide) (show nI dy = nI 999 from (nI_eq (by omega) (by omega)).mpr (by omega)) ?_
        refine j_iconst (pc := 36) C (v := (-1)) d_Model_first_36 (by decide) ?_
        exact j_iret (pc := 37) C hr rfl (i61, i64, g60, g62, g63, g68) hD [0, 1, 2, 3, 4, 5, 6, 7, 8, 9, 10, 11, 12, 13] rfl (by decide) (by decide) (by decide) d_Model_first_37
theorem d_Model_boardsAre_0 : decode prog_13_method_99_code 0 = .ok (.aload_n 0, 1) := by decide +kernel
theorem d_Model_boardsAre_1 : decode prog_13_method_99_code 1 = .ok (.getfield 158, 3) := by decide +kernel
theorem d_Model_boardsAre_4 : decode prog_13_method_99_code 4 = .ok (.iconst 3, 1) := by decide +kernel
theorem d_Model_boardsAre_5 : decode prog_13_method_99_code 5 = .ok (.iload_n 1, 1) := by decide +kernel
theorem d_Model_boardsAre_6 : decode prog_13_method_99_code 6 = .ok (.iadd, 1) := by decide +kernel
theorem d_Model_boardsAre_7 : decode prog_13_method_99_code 7 = .ok (.iload_n 2, 1) := by decide +kernel
theorem d_Model_boardsAre_8 : decode prog_13_method_99_code 8 = .ok (.iastore, 1) := by decide +kernel
theorem d_Model_boardsAre_9 : decode prog_13_method_99_code 9 = .ok (.aload_n 0, 1) := by decide +kernel
theorem d_Model_boardsAre_10 : decode prog_13_method_99_code 10 = .ok (.iload_n 1, 1) := by decide +kernel
theorem d_Model_boardsAre_11 : decode prog_13_method_99_code 11 = .ok (.invokevirtual 418, 3) := by decide +kernel
theorem d_Model_boardsAre_14 : decode prog_13_method_99_code 14 = .ok (.iconst (-1), 1) := by decide +kernel
theorem d_Model_boardsAre_15 : decode prog_13_method_99_code 15 = .ok (.if_icmp .eq 16, 3) := by decide +kernel
theorem d_Model_boardsAre_31 : decode prog_13_method_99_code 31 = .ok (.return_, 1) := by decide +kernel
theorem d_Model_boardsAre_18 : decode prog_13_method_99_code 18 = .ok (.aload_n 0, 1) := by decide +kernel
theorem d_Model_boardsAre_19 : decode prog_13_method_99_code 19 = .ok (.getfield 158, 3) := by decide +kernel
theorem d_Model_boardsAre_22 : decode prog_13_method_99_code 22 = .ok (.iconst 3, 1) := by decide +kernel
theorem d_Model_boardsAre_23 : decode prog_13_method_99_code 23 = .ok (.aload_n 0, 1) := by decide +kernel
theorem d_Model_boardsAre_24 : decode prog_13_method_99_code 24 = .ok (.iload_n 1, 1) := by decide +kernel
theorem d_Model_boardsAre_25 : decode prog_13_method_99_code 25 = .ok (.invokevirtual 418, 3) := by decide +kernel
theorem d_Model_boardsAre_28 : decode prog_13_method_99_code 28 = .ok (.iadd, 1) := by decide +kernel
theorem d_Model_boardsAre_29 : decode prog_13_method_99_code 29 = .ok (.iload_n 2, 1) := by decide +kernel
theorem d_Model_boardsAre_30 : decode prog_13_method_99_code 30 = .ok (.iastore, 1) := by decide +kernel
set_option maxHeartbeats 4000000 in
set_option maxRecDepth 100000 in
theorem c_M_boardsAre (l : Launch) (D : va_G) (y : Nat → ClassId) (mo : Nat) (ma : Nat → Nat) (t1 : Nat) (i2 : Int32) (i3 : Int32) (i4 : Int32) (i5 : Int32) (i6 : Int32) (i7 : Int32) (i8 : Int32) (i42 : Int32) (i49 : Int32) (i51 : Int32) (i53 : Int32) (i54 : Int32) (i59 : Int32) (i61 : Int32) (i64 : Int32) (i66 : Int32) (t67 : Nat) (i76 : Int64) (i78 : Int32) (g46 : Nat → Int32) (g62 : Nat → Int32) (j : Nat) (v : Int32) (dy : Nat) (hG : ∀ j, j < 9 → g46 (54 + 6 * j + 5) = -1 ∨ ∃ q, q < 9 ∧ g46 (54 + 6 * j + 5) = nI q) (hD : g62 0 = nI dy) (hj : j < 9) : CT l D y ⟨"NineBoardsModel", "boardsAre", "(II)V"⟩ prog_13_method_99_code 3 none ({ frames := 1, cells := 0, slots := 0, locals := 21 } : Room) [.ref mo, .int (nI j), .int v] [MB mo ma (nI t1) i2 i3 i4 i5 i6 i7 i8 i42 i49 i51 i53 i54 i59 i61 i64 i66 (nI t67) i76 i78, (ma 46, .inl (y 0, 108, .inl g46)), (ma 62, .inl (y 0, 63, .inl g62))] (QV D [MB mo ma (nI t1) i2 i3 i4 i5 i6 i7 i8 i42 i49 i51 i53 i54 i59 i61 i64 i66 (nI t67) i76 i78, (ma 46, .inl (y 0, 108, .inl g46)), (ma 62, .inl (y 0, 63, .inl g62))] (fun (u : (Nat → Int32)) => u 0 = nI dy) (fun u => [MB mo ma (nI t1) i2 i3 i4 i5 i6 i7 i8 i42 i49 i51 i53 i54 i59 i61 i64 i66 (nI t67) i76 i78, (ma 46, .inl (y 0, 108, .inl g46)), (ma 62, .inl (y 0, 63, .inl u))])) := by
  refine CT.of (by decide) (nb rfl) ?_
  intro p e s m args below meth c C hr
  refine j_lv (lv' := [(0, .ref mo), (1, .int (nI j)), (2, .int v)]) rfl ?_
  refine j_aload_n (pc := 0) C d_Model_boardsAre_0 rfl 0 rfl ?_
  refine j_get (pc := 1) C gf_Model_158 0 rfl rfl d_Model_boardsAre_1 ?_
  refine j_iconst (pc := 4) C (v := 3) d_Model_boardsAre_4 (by decide) ?_
  refine j_iload_n (pc := 5) C d_Model_boardsAre_5 rfl 1 rfl ?_
  refine j_iadd (pc := 6) C (v := nI (3 + j)) d_Model_boardsAre_6 (nI_add _ _) ?_
  refine j_iload_n (pc := 7) C d_Model_boardsAre_7 rfl 2 rfl ?_
  refine j_iast (pc := 8) C 2 rfl (ws' := [MB mo ma (nI t1) i2 i3 i4 i5 i6 i7 i8 i42 i49 i51 i53 i54 i59 i61 i64 i66 (nI t67) i76 i78, (ma 46, .inl (y 0, 108, .inl g46)), (ma 62, .inl (y 0, 63, .inl (upd g62 (3 + j) v)))]) (vp_in_nI (by omega) (by decide)) (by rw [nI_clamp (by omega)]; rfl) d_Model_boardsAre_8 ?_
  refine j_genW (fun f1 => [MB mo ma (nI t1) i2 i3 i4 i5 i6 i7 i8 i42 i49 i51 i53 i54 i59 i61 i64 i66 (nI t67) i76 i78, (ma 46, .inl (y 0, 108, .inl g46)), (ma 62, .inl (y 0, 63, .inl f1))]) (upd g62 (3 + j) v) rfl (fun f1 => (f1 0 = nI dy)) (show upd g62 (3 + j) v 0 = nI dy by rw [pk_un (by omega)]; exact hD) ?_
  rintro f1 xh2
  refine j_ws (ws' := [MB mo ma (nI t1) i2 i3 i4 i5 i6 i7 i8 i42 i49 i51 i53 i54 i59 i61 i64 i66 (nI t67) i76 i78, (ma 46, .inl (y 0, 108, .inl g46)), (ma 62, .inl (y 0, 63, .inl f1))]) rfl ?_
  have xh2 : f1 0 = nI dy := xh2
  refine j_aload_n (pc := 9) C d_Model_boardsAre_9 rfl 0 rfl ?_
  refine j_iload_n (pc := 10) C d_Model_boardsAre_10 rfl 1 rfl ?_
  refine j_callVi (pc := 11) C (c_M_joinedTo l D y mo ma t1 i2 i3 i4 i5 i6 i7 i8 i42 i49 i51 i53 i54 i59 i61 i64 i66 t67 i76 i78 g46 j hG hj) kw_Model_418 kv_Model_joinedTo 0 10 rfl rfl ⟨by decide, by decide⟩ ⟨by decide, by decide⟩ (wr := [(ma 62, .inl (y 0, 63, .inl f1))]) [0, 1] [2] rfl rfl (by decide) (by decide) (by decide) (As := [.int (nI j)]) (rest := []) rfl (nb rfl) rfl d_Model_boardsAre_11 (fun r3 _ hr3 => ?_)
  refine j_ws (ws' := [(ma 62, .inl (y 0, 63, .inl f1)), MB mo ma (nI t1) i2 i3 i4 i5 i6 i7 i8 i42 i49 i51 i53 i54 i59 i61 i64 i66 (nI t67) i76 i78, (ma 46, .inl (y 0, 108, .inl g46))]) rfl ?_
  rcases hr3 with rfl | ⟨q5, xh6, rfl⟩
  · refine j_iconst (pc := 14) C (v := (-1)) d_Model_boardsAre_14 (by decide) ?_
    refine j_icmp_eqT (pc := 15) C (tgt := 31) d_Model_boardsAre_15 (by decide) (by decide) ?_
    exact j_vret (pc := 31) C hr f1 xh2 [1, 2, 0] rfl (by decide) (by decide) (by decide) d_Model_boardsAre_31
  · refine j_iconst (pc := 14) C (v := (-1)) d_Model_boardsAre_14 (by decide) ?_
    refine j_icmp_eqF (pc := 15) C (tgt := 31) d_Model_boardsAre_15 (by decide) (nI_nm1 (by omega)) ?_
    refine j_aload_n (pc := 18) C d_Model_boardsAre_18 rfl 0 rfl ?_
    refine j_get (pc := 19) C gf_Model_158 1 rfl rfl d_Model_boardsAre_19 ?_
    refine j_iconst (pc := 22) C (v := 3) d_Model_boardsAre_22 (by decide) ?_
    refine j_aload_n (pc := 23) C d_Model_boardsAre_23 rfl 0 rfl ?_
    refine j_iload_n (pc := 24) C d_Model_boardsAre_24 rfl 1 rfl ?_
    refine j_callVi (pc := 25) C (c_M_joinedTo l D y mo ma t1 i2 i3 i4 i5 i6 i7 i8 i42 i49 i51 i53 i54 i59 i61 i64 i66 t67 i76 i78 g46 j hG hj) kw_Model_418 kv_Model_joinedTo 0 10 rfl rfl ⟨by decide, by decide⟩ ⟨by decide, by decide⟩ (wr := [(ma 62, .inl (y 0, 63, .inl f1))]) [1, 2] [0] rfl rfl (by decide) (by decide) (by decide) (As := [.int (nI j)]) (rest := [.int 3, .ref (ma 62)]) rfl (nb rfl) rfl d_Model_boardsAre_25 (fun r7 _ hr7 => ?_)
    refine j_ws (ws' := [(ma 62, .inl (y 0, 63, .inl f1)), MB mo ma (nI t1) i2 i3 i4 i5 i6 i7 i8 i42 i49 i51 i53 i54 i59 i61 i64 i66 (nI t67) i76 i78, (ma 46, .inl (y 0, 108, .inl g46))]) rfl ?_
    rcases hr7 with rfl | ⟨q9, xh10, rfl⟩
    · refine j_iadd (pc := 28) C (v := 2) d_Model_boardsAre_28 (by decide) ?_
      refine j_iload_n (pc := 29) C d_Model_boardsAre_29 rfl 2 rfl ?_
      refine j_iast (pc := 30) C 0 rfl (ws' := [(ma 62, .inl (y 0, 63, .inl (upd f1 2 v))), MB mo ma (nI t1) i2 i3 i4 i5 i6 i7 i8 i42 i49 i51 i53 i54 i59 i61 i64 i66 (nI t67) i76 i78, (ma 46, .inl (y 0, 108, .inl g46))]) (vin (by decide)) rfl d_Model_boardsAre_30 ?_
      refine j_genW (fun f11 => [(ma 62, .inl (y 0, 63, .inl f11)), MB mo ma (nI t1) i2 i3 i4 i5 i6 i7 i8 i42 i49 i51 i53 i54 i59 i61 i64 i66 (nI t67) i76 i78, (ma 46, .inl (y 0, 108, .inl g46))]) (upd f1 2 v) rfl (fun f11 => (f11 0 = nI dy)) (show upd f1 2 v 0 = nI dy by rw [pk_un (by omega)]; exact xh2) ?_
      rintro f11 xh12
      refine j_ws (ws' := [(ma 62, .inl (y 0, 63, .inl f11)), MB mo ma (nI t1) i2 i3 i4 i5 i6 i7 i8 i42 i49 i51 i53 i54 i59 i61 i64 i66 (nI t67) i76 i78, (ma 46, .inl (y 0, 108, .inl g46))]) rfl ?_
      have xh12 : f11 0 = nI dy := xh12
      exact j_vret (pc := 31) C hr f11 xh12 [1, 2, 0] rfl (by decide) (by decide) (by decide) d_Model_boardsAre_31
    · refine j_iadd (pc := 28) C (v := nI (3 + q9)) d_Model_boardsAre_28 (nI_add _ _) ?_
      refine j_iload_n (pc := 29) C d_Model_boardsAre_29 rfl 2 rfl ?_
      refine j_iast (pc := 30) C 0 rfl (ws' := [(ma 62, .inl (y 0, 63, .inl (upd f1 (3 + q9) v))), MB mo ma (nI t1) i2 i3 i4 i5 i6 i7 i8 i42 i49 i51 i53 i54 i59 i61 i64 i66 (nI t67) i76 i78, (ma 46, .inl (y 0, 108, .inl g46))]) (vp_in_nI (by omega) (by decide)) (by rw [nI_clamp (by omega)]; rfl) d_Model_boardsAre_30 ?_
      refine j_genW (fun f13 => [(ma 62, .inl (y 0, 63, .inl f13)), MB mo ma (nI t1) i2 i3 i4 i5 i6 i7 i8 i42 i49 i51 i53 i54 i59 i61 i64 i66 (nI t67) i76 i78, (ma 46, .inl (y 0, 108, .inl g46))]) (upd f1 (3 + q9) v) rfl (fun f13 => (f13 0 = nI dy)) (show upd f1 (3 + q9) v 0 = nI dy by rw [pk_un (by omega)]; exact xh2) ?_
      rintro f13 xh14
      refine j_ws (ws' := [(ma 62, .inl (y 0, 63, .inl f13)), MB mo ma (nI t1) i2 i3 i4 i5 i6 i7 i8 i42 i49 i51 i53 i54 i59 i61 i64 i66 (nI t67) i76 i78, (ma 46, .inl (y 0, 108, .inl g46))]) rfl ?_
      have xh14 : f13 0 = nI dy := xh14
      exact j_vret (pc := 31) C hr f13 xh14 [1, 2, 0] rfl (by decide) (by decide) (by decide) d_Model_boardsAre_31
theorem d_Model_wouldFlow_0 : decode prog_13_method_100_code 0 = .ok (.aload_n 0, 1) := by decide +kernel
theorem d_Model_wouldFlow_1 : decode prog_13_method_100_code 1 = .ok (.invokevirtual 510, 3) := by decide +kernel
theorem d_Model_wouldFlow_4 : decode prog_13_method_100_code 4 = .ok (.aload_n 0, 1) := by decide +kernel
theorem d_Model_wouldFlow_5 : decode prog_13_method_100_code 5 = .ok (.iload_n 1, 1) := by decide +kernel
theorem d_Model_wouldFlow_6 : decode prog_13_method_100_code 6 = .ok (.iload_n 2, 1) := by decide +kernel
theorem d_Model_wouldFlow_7 : decode prog_13_method_100_code 7 = .ok (.invokevirtual 536, 3) := by decide +kernel
theorem kw_Model_536 : KW "NineBoardsModel" 536 ⟨"NineBoardsModel", "boardsAre", "(II)V"⟩ prog_13_method_99_code 3 none 2 := ⟨(mt_8 (List.mem_of_getElem? (i := 16) rfl) rfl), (mt_1 (List.mem_of_getElem? (i := 16) rfl) rfl), (mt_8 (List.mem_of_getElem? (i := 19) rfl) rfl), by decide +kernel⟩
theorem kv_Model_boardsAre : Cond.instanceMethod ⟨"NineBoardsModel", "boardsAre", "(II)V"⟩ ∈ TB ∧ Cond.selects "NineBoardsModel" ⟨"NineBoardsModel", "boardsAre", "(II)V"⟩ ⟨"NineBoardsModel", "boardsAre", "(II)V"⟩ ∈ TB := ⟨(mt_8 (List.mem_of_getElem? (i := 18) rfl) rfl), (ms_0 (List.mem_map.mpr ⟨(⟨"NineBoardsModel", "boardsAre", "(II)V"⟩, 79), List.mem_of_getElem? (i := 123) (by decide +kernel), rfl⟩) rfl)⟩
theorem d_Model_wouldFlow_10 : decode prog_13_method_100_code 10 = .ok (.aload_n 0, 1) := by decide +kernel
theorem d_Model_wouldFlow_11 : decode prog_13_method_100_code 11 = .ok (.invokevirtual 434, 3) := by decide +kernel
theorem d_Model_wouldFlow_14 : decode prog_13_method_100_code 14 = .ok (.istore_n 3, 1) := by decide +kernel
theorem d_Model_wouldFlow_15 : decode prog_13_method_100_code 15 = .ok (.aload_n 0, 1) := by decide +kernel
theorem d_Model_wouldFlow_16 : decode prog_13_method_100_code 16 = .ok (.invokevirtual 495, 3) := by decide +kernel
theorem d_Model_wouldFlow_19 : decode prog_13_method_100_code 19 = .ok (.aload_n 0, 1) := by decide +kernel
theorem d_Model_wouldFlow_20 : decode prog_13_method_100_code 20 = .ok (.getfield 161, 3) := by decide +kernel
theorem d_Model_wouldFlow_23 : decode prog_13_method_100_code 23 = .ok (.iload_n 1, 1) := by decide +kernel
theorem d_Model_wouldFlow_24 : decode prog_13_method_100_code 24 = .ok (.iaload, 1) := by decide +kernel
theorem d_Model_wouldFlow_25 : decode prog_13_method_100_code 25 = .ok (.ireturn, 1) := by decide +kernel
set_option maxHeartbeats 4000000 in
set_option maxRecDepth 100000 in
theorem c_M_wouldFlow (l : Launch) (D : va_G) (y : Nat → ClassId) (mo : Nat) (ma : Nat → Nat) (t1 : Nat) (i2 : Int32) (i3 : Int32) (i4 : Int32) (i5 : Int32) (i6 : Int32) (i7 : Int32) (i8 : Int32) (i42 : Int32) (i49 : Int32) (i51 : Int32) (i53 : Int32) (i54 : Int32) (i59 : Int32) (i61 : Int32) (i64 : Int32) (i66 : Int32) (t67 : Nat) (i76 : Int64) (i78 : Int32) (g43 : Nat → Int32) (g45 : Nat → Int32) (g46 : Nat → Int32) (g62 : Nat → Int32) (g63 : Nat → Int32) (g68 : Nat → Int32) (j : Nat) (v : Int32) (c0 : Nat) (dy : Nat) (hc0 : g43 4 = nI c0) (bc0 : c0 ≤ 9) (hL : ¬ g45 7 = 0) (hS : ∀ j, j < 9 → g46 (54 + 6 * j) = 2 → ¬ g46 (54 + 6 * j + 1) = 0) (hG : ∀ j, j < 9 → g46 (54 + 6 * j + 5) = -1 ∨ ∃ q, q < 9 ∧ g46 (54 + 6 * j + 5) = nI q) (hD : g62 0 = nI dy) (bD : dy ≤ 999) (hj : j < 9) : CT l D y ⟨"NineBoardsModel", "wouldFlow", "(II)I"⟩ prog_13_method_100_code 4 (some .int) ({ frames := 3, cells := 0, slots := 0, locals := 74 } : Room) [.ref mo, .int (nI j), .int v] [MB mo ma (nI t1) i2 i3 i4 i5 i6 i7 i8 i42 i49 i51 i53 i54 i59 i61 i64 i66 (nI t67) i76 i78, (ma 43, .inl (y 0, 8, .inl g43)), (ma 45, .inl (y 0, 14, .inl g45)), (ma 46, .inl (y 0, 108, .inl g46)), (ma 62, .inl (y 0, 63, .inl g62)), (ma 63, .inl (y 0, 9, .inl g63)), (ma 68, .inl (y 0, 63, .inl g68))] (QI D [MB mo ma (nI t1) i2 i3 i4 i5 i6 i7 i8 i42 i49 i51 i53 i54 i59 i61 i64 i66 (nI t67) i76 i78, (ma 43, .inl (y 0, 8, .inl g43)), (ma 45, .inl (y 0, 14, .inl g45)), (ma 46, .inl (y 0, 108, .inl g46)), (ma 62, .inl (y 0, 63, .inl g62)), (ma 63, .inl (y 0, 9, .inl g63)), (ma 68, .inl (y 0, 63, .inl g68))] (fun (r : Int32) (u : (Nat → Int32) × (Nat → Int32) × (Nat → Int32)) => u.1 0 = nI dy) (fun u => [MB mo ma (nI t1) i2 i3 i4 i5 i6 i7 i8 i42 i49 i51 i53 i54 i59 i61 i64 i66 (nI t67) i76 i78, (ma 43, .inl (y 0, 8, .inl g43)), (ma 45, .inl (y 0, 14, .inl g45)), (ma 46, .inl (y 0, 108, .inl g46)), (ma 62, .inl (y 0, 63, .inl u.1)), (ma 63, .inl (y 0, 9, .inl u.2.1)), (ma 68, .inl (y 0, 63, .inl u.2.2))])) := by
  refine CT.of (by decide) (nb rfl) ?_
  intro p e s m args below meth c C hr
  refine j_lv (lv' := [(0, .ref mo), (1, .int (nI j)), (2, .int v)]) rfl ?_
  refine j_aload_n (pc := 0) C d_Model_wouldFlow_0 rfl 0 rfl ?_
  refine j_callVv (pc := 1) C (c_M_putsAside l D y mo ma t1 i2 i3 i4 i5 i6 i7 i8 i42 i49 i51 i53 i54 i59 i61 i64 i66 t67 i76 i78 g62 g68 dy hD) kw_Model_510 kv_Model_putsAside 0 10 rfl rfl ⟨by decide, by decide⟩ ⟨by decide, by decide⟩ (wr := [(ma 43, .inl (y 0, 8, .inl g43)), (ma 45, .inl (y 0, 14, .inl g45)), (ma 46, .inl (y 0, 108, .inl g46)), (ma 63, .inl (y 0, 9, .inl g63))]) [0, 4, 6] [1, 2, 3, 5] rfl rfl (by decide) (by decide) (by decide) (As := []) (rest := []) rfl (nb rfl) rfl d_Model_wouldFlow_1 (fun u1 hu2 => ?_)
  have xh3 := hu2
  refine j_ws (ws' := [(ma 43, .inl (y 0, 8, .inl g43)), (ma 45, .inl (y 0, 14, .inl g45)), (ma 46, .inl (y 0, 108, .inl g46)), (ma 63, .inl (y 0, 9, .inl g63)), MB mo ma (nI t1) i2 i3 i4 i5 i6 i7 i8 i42 i49 i51 i53 i54 i59 i61 i64 i66 (nI t67) i76 i78, (ma 62, .inl (y 0, 63, .inl g62)), (ma 68, .inl (y 0, 63, .inl u1))]) rfl ?_
  refine j_aload_n (pc := 4) C d_Model_wouldFlow_4 rfl 0 rfl ?_
  refine j_iload_n (pc := 5) C d_Model_wouldFlow_5 rfl 1 rfl ?_
  refine j_iload_n (pc := 6) C d_Model_wouldFlow_6 rfl 2 rfl ?_
  refine j_callVv (pc := 7) C (c_M_boardsAre l D y mo ma t1 i2 i3 i4 i5 i6 i7 i8 i42 i49 i51 i53 i54 i59 i61 i64 i66 t67 i76 i78 g46 g62 j v dy hG hD hj) kw_Model_536 kv_Model_boardsAre 0 10 rfl rfl ⟨by decide, by decide⟩ ⟨by decide, by decide⟩ (wr := [(ma 43, .inl (y 0, 8, .inl g43)), (ma 45, .inl (y 0, 14, .inl g45)), (ma 63, .inl (y 0, 9, .inl g63)), (ma 68, .inl (y 0, 63, .inl u1))]) [4, 2, 5] [0, 1, 3, 6] rfl rfl (by decide) (by decide) (by decide) (As := [.int (nI j), .int v]) (rest := []) rfl (nb rfl) rfl d_Model_wouldFlow_7 (fun u4 hu5 => ?_)
  have xh6 := hu5
  refine j_ws (ws' := [(ma 43, .inl (y 0, 8, .inl g43)), (ma 45, .inl (y 0, 14, .inl g45)), (ma 63, .inl (y 0, 9, .inl g63)), (ma 68, .inl (y 0, 63, .inl u1)), MB mo ma (nI t1) i2 i3 i4 i5 i6 i7 i8 i42 i49 i51 i53 i54 i59 i61 i64 i66 (nI t67) i76 i78, (ma 46, .inl (y 0, 108, .inl g46)), (ma 62, .inl (y 0, 63, .inl u4))]) rfl ?_
  refine j_aload_n (pc := 10) C d_Model_wouldFlow_10 rfl 0 rfl ?_
  refine j_callVi (pc := 11) C (c_M_flowsNow l D y mo ma t1 i2 i3 i4 i5 i6 i7 i8 i42 i49 i51 i53 i54 i59 i61 i64 i66 t67 i76 i78 g43 g45 g46 u4 g63 c0 hc0 bc0 hL hS) kw_Model_434 kv_Model_flowsNow 0 10 rfl rfl ⟨by decide, by decide⟩ ⟨by decide, by decide⟩ (wr := [(ma 68, .inl (y 0, 63, .inl u1))]) [4, 0, 1, 5, 6, 2] [3] rfl rfl (by decide) (by decide) (by decide) (As := []) (rest := []) rfl (nb rfl) rfl d_Model_wouldFlow_11 (fun r7 u8 hr7 => ?_)
  refine j_ws (ws' := [(ma 68, .inl (y 0, 63, .inl u1)), MB mo ma (nI t1) i2 i3 i4 i5 i6 i7 i8 i42 i49 i51 i53 i54 i59 i61 i64 i66 (nI t67) i76 i78, (ma 43, .inl (y 0, 8, .inl g43)), (ma 45, .inl (y 0, 14, .inl g45)), (ma 46, .inl (y 0, 108, .inl g46)), (ma 62, .inl (y 0, 63, .inl u4)), (ma 63, .inl (y 0, 9, .inl u8))]) rfl ?_
  refine j_istore_n (pc := 14) C (lv' := [(3, .int r7), (0, .ref mo), (1, .int (nI j)), (2, .int v)]) d_Model_wouldFlow_14 rfl (by decide) rfl ?_
  refine j_aload_n (pc := 15) C d_Model_wouldFlow_15 rfl 1 rfl ?_
  refine j_callVv (pc := 16) C (c_M_takesBack l D y mo ma t1 i2 i3 i4 i5 i6 i7 i8 i42 i49 i51 i53 i54 i59 i61 i64 i66 t67 i76 i78 u4 u1 dy xh3) kw_Model_495 kv_Model_takesBack 0 10 rfl rfl ⟨by decide, by decide⟩ ⟨by decide, by decide⟩ (wr := [(ma 43, .inl (y 0, 8, .inl g43)), (ma 45, .inl (y 0, 14, .inl g45)), (ma 46, .inl (y 0, 108, .inl g46)), (ma 63, .inl (y 0, 9, .inl u8))]) [1, 5, 0] [2, 3, 4, 6] rfl rfl (by decide) (by decide) (by decide) (As := []) (rest := []) rfl (nb rfl) rfl d_Model_wouldFlow_16 (fun u9 hu10 => ?_)
  have xh11 := hu10
  refine j_ws (ws' := [(ma 43, .inl (y 0, 8, .inl g43)), (ma 45, .inl (y 0, 14, .inl g45)), (ma 46, .inl (y 0, 108, .inl g46)), (ma 63, .inl (y 0, 9, .inl u8)), MB mo ma (nI t1) i2 i3 i4 i5 i6 i7 i8 i42 i49 i51 i53 i54 i59 i61 i64 i66 (nI t67) i76 i78, (ma 62, .inl (y 0, 63, .inl u9)), (ma 68, .inl (y 0, 63, .inl u1))]) rfl ?_
  refine j_aload_n (pc := 19) C d_Model_wouldFlow_19 rfl 1 rfl ?_
  refine j_get (pc := 20) C gf_Model_161 4 rfl rfl d_Model_wouldFlow_20 ?_
  refine j_iload_n (pc := 23) C d_Model_wouldFlow_23 rfl 2 rfl ?_
  refine j_iald (pc := 24) C 3 rfl (v := u8 j) (vp_in_nI (by omega) (by decide)) (by rw [nI_clamp (by omega)]) d_Model_wouldFlow_24 ?_
  exact j_iret (pc := 25) C hr rfl (u9, u8, u1) xh11 [4, 0, 1, 2, 5, 3, 6] rfl (by decide) (by decide) (by decide) d_Model_wouldFlow_25
theorem d_Model_would_0 : decode prog_13_method_101_code 0 = .ok (.aload_n 0, 1) := by decide +kernel
theorem d_Model_would_1 : decode prog_13_method_101_code 1 = .ok (.iload_n 1, 1) := by decide +kernel
theorem d_Model_would_2 : decode prog_13_method_101_code 2 = .ok (.invokevirtual 465, 3) := by decide +kernel
theorem d_Model_would_5 : decode prog_13_method_101_code 5 = .ok (.ifCond .eq 24, 3) := by decide +kernel
theorem d_Model_would_29 : decode prog_13_method_101_code 29 = .ok (.iconst (-1), 1) := by decide +kernel
theorem d_Model_would_30 : decode prog_13_method_101_code 30 = .ok (.ireturn, 1) := by decide +kernel
theorem d_Model_would_8 : decode prog_13_method_101_code 8 = .ok (.iload_n 2, 1) := by decide +kernel
theorem d_Model_would_9 : decode prog_13_method_101_code 9 = .ok (.i2l, 1) := by decide +kernel
theorem d_Model_would_10 : decode prog_13_method_101_code 10 = .ok (.lconst 0, 1) := by decide +kernel
theorem d_Model_would_11 : decode prog_13_method_101_code 11 = .ok (.ldc2_w 539, 3) := by decide +kernel
theorem d_Model_would_14 : decode prog_13_method_101_code 14 = .ok (.invokestatic 240, 3) := by decide +kernel
theorem d_Model_would_17 : decode prog_13_method_101_code 17 = .ok (.ifCond .eq 12, 3) := by decide +kernel
theorem d_Model_would_20 : decode prog_13_method_101_code 20 = .ok (.aload_n 0, 1) := by decide +kernel
theorem d_Model_would_21 : decode prog_13_method_101_code 21 = .ok (.iload_n 1, 1) := by decide +kernel
theorem d_Model_would_22 : decode prog_13_method_101_code 22 = .ok (.iload_n 2, 1) := by decide +kernel
theorem d_Model_would_23 : decode prog_13_method_101_code 23 = .ok (.invokevirtual 541, 3) := by decide +kernel
theorem kw_Model_541 : KW "NineBoardsModel" 541 ⟨"NineBoardsModel", "wouldFlow", "(II)I"⟩ prog_13_method_100_code 4 (some .int) 2 := ⟨(mt_8 (List.mem_of_getElem? (i := 12) rfl) rfl), (mt_1 (List.mem_of_getElem? (i := 16) rfl) rfl), (mt_8 (List.mem_of_getElem? (i := 15) rfl) rfl), by decide +kernel⟩
theorem kv_Model_wouldFlow : Cond.instanceMethod ⟨"NineBoardsModel", "wouldFlow", "(II)I"⟩ ∈ TB ∧ Cond.selects "NineBoardsModel" ⟨"NineBoardsModel", "wouldFlow", "(II)I"⟩ ⟨"NineBoardsModel", "wouldFlow", "(II)I"⟩ ∈ TB := ⟨(mt_8 (List.mem_of_getElem? (i := 14) rfl) rfl), (ms_0 (List.mem_map.mpr ⟨(⟨"NineBoardsModel", "wouldFlow", "(II)I"⟩, 79), List.mem_of_getElem? (i := 122) (by decide +kernel), rfl⟩) rfl)⟩
theorem d_Model_would_26 : decode prog_13_method_101_code 26 = .ok (.goto 4, 3) := by decide +kernel
set_option maxHeartbeats 4000000 in
set_option maxRecDepth 100000 in
theorem c_M_would (l : Launch) (D : va_G) (y : Nat → ClassId) (mo : Nat) (ma : Nat → Nat) (t1 : Nat) (i2 : Int32) (i3 : Int32) (i4 : Int32) (i5 : Int32) (i6 : Int32) (i7 : Int32) (i8 : Int32) (i42 : Int32) (i49 : Int32) (i51 : Int32) (i53 : Int32) (i54 : Int32) (i59 : Int32) (i61 : Int32) (i64 : Int32) (i66 : Int32) (t67 : Nat) (i76 : Int64) (i78 : Int32) (g43 : Nat → Int32) (g45 : Nat → Int32) (g46 : Nat → Int32) (g62 : Nat → Int32) (g63 : Nat → Int32) (g68 : Nat → Int32) (v1 : Int32) (v2 : Int32) (c0 : Nat) (dy : Nat) (hc0 : g43 4 = nI c0) (bc0 : c0 ≤ 9) (hL : ¬ g45 7 = 0) (hS : ∀ j, j < 9 → g46 (54 + 6 * j) = 2 → ¬ g46 (54 + 6 * j + 1) = 0) (hG : ∀ j, j < 9 → g46 (54 + 6 * j + 5) = -1 ∨ ∃ q, q < 9 ∧ g46 (54 + 6 * j + 5) = nI q) (hD : g62 0 = nI dy) (bD : dy ≤ 999) : CT l D y ⟨"NineBoardsModel", "would", "(II)I"⟩ prog_13_method_101_code 3 (some .int) ({ frames := 4, cells := 0, slots := 0, locals := 97 } : Room) [.ref mo, .int v1, .int v2] [MB mo ma (nI t1) i2 i3 i4 i5 i6 i7 i8 i42 i49 i51 i53 i54 i59 i61 i64 i66 (nI t67) i76 i78, (ma 43, .inl (y 0, 8, .inl g43)), (ma 45, .inl (y 0, 14, .inl g45)), (ma 46, .inl (y 0, 108, .inl g46)), (ma 62, .inl (y 0, 63, .inl g62)), (ma 63, .inl (y 0, 9, .inl g63)), (ma 68, .inl (y 0, 63, .inl g68))] (QI D [MB mo ma (nI t1) i2 i3 i4 i5 i6 i7 i8 i42 i49 i51 i53 i54 i59 i61 i64 i66 (nI t67) i76 i78, (ma 43, .inl (y 0, 8, .inl g43)), (ma 45, .inl (y 0, 14, .inl g45)), (ma 46, .inl (y 0, 108, .inl g46)), (ma 62, .inl (y 0, 63, .inl g62)), (ma 63, .inl (y 0, 9, .inl g63)), (ma 68, .inl (y 0, 63, .inl g68))] (fun (r : Int32) (u : (Nat → Int32) × (Nat → Int32) × (Nat → Int32)) => u.1 0 = nI dy) (fun u => [MB mo ma (nI t1) i2 i3 i4 i5 i6 i7 i8 i42 i49 i51 i53 i54 i59 i61 i64 i66 (nI t67) i76 i78, (ma 43, .inl (y 0, 8, .inl g43)), (ma 45, .inl (y 0, 14, .inl g45)), (ma 46, .inl (y 0, 108, .inl g46)), (ma 62, .inl (y 0, 63, .inl u.1)), (ma 63, .inl (y 0, 9, .inl u.2.1)), (ma 68, .inl (y 0, 63, .inl u.2.2))])) := by
  refine CT.of (by decide) (nb rfl) ?_
  intro p e s m args below meth c C hr
  refine j_lv (lv' := [(0, .ref mo), (1, .int v1), (2, .int v2)]) rfl ?_
  refine j_aload_n (pc := 0) C d_Model_would_0 rfl 0 rfl ?_
  refine j_iload_n (pc := 1) C d_Model_would_1 rfl 1 rfl ?_
  refine j_callVi (pc := 2) C (c_M_isGate l D y mo ma t1 i2 i3 i4 i5 i6 i7 i8 i42 i49 i51 i53 i54 i59 i61 i64 i66 t67 i76 i78 g43 v1 c0 hc0 bc0) kw_Model_465 kv_Model_isGate 0 10 rfl rfl ⟨by decide, by decide⟩ ⟨by decide, by decide⟩ (wr := [(ma 45, .inl (y 0, 14, .inl g45)), (ma 46, .inl (y 0, 108, .inl g46)), (ma 62, .inl (y 0, 63, .inl g62)), (ma 63, .inl (y 0, 9, .inl g63)), (ma 68, .inl (y 0, 63, .inl g68))]) [0, 1] [2, 3, 4, 5, 6] rfl rfl (by decide) (by decide) (by decide) (As := [.int v1]) (rest := []) rfl (nb rfl) rfl d_Model_would_2 (fun r1 _ hr1 => ?_)
  refine j_ws (ws' := [(ma 45, .inl (y 0, 14, .inl g45)), (ma 46, .inl (y 0, 108, .inl g46)), (ma 62, .inl (y 0, 63, .inl g62)), (ma 63, .inl (y 0, 9, .inl g63)), (ma 68, .inl (y 0, 63, .inl g68)), MB mo ma (nI t1) i2 i3 i4 i5 i6 i7 i8 i42 i49 i51 i53 i54 i59 i61 i64 i66 (nI t67) i76 i78, (ma 43, .inl (y 0, 8, .inl g43))]) rfl ?_
  rcases hr1 with rfl | ⟨rfl, j2, xh3, rfl⟩
  · refine j_if_eqT (pc := 5) C (tgt := 29) d_Model_would_5 (by decide) (by decide) ?_
    refine j_iconst (pc := 29) C (v := (-1)) d_Model_would_29 (by decide) ?_
    exact j_iret (pc := 30) C hr rfl (g62, g63, g68) hD [5, 6, 0, 1, 2, 3, 4] rfl (by decide) (by decide) (by decide) d_Model_would_30
  · refine j_if_eqF (pc := 5) C (tgt := 29) d_Model_would_5 (by decide) (by decide) ?_
    refine j_iload_n (pc := 8) C d_Model_would_8 rfl 2 rfl ?_
    refine j_i2l (pc := 9) C (v := v2.toInt64) d_Model_would_9 rfl ?_
    refine j_lconst (pc := 10) C (v := 0) d_Model_would_10 (by decide) ?_
    refine j_ldc2 (pc := 11) C (v := 20) (mt_8 (List.mem_of_getElem? (i := 11) rfl) rfl) d_Model_would_11 ?_
    refine j_callSi (pc := 14) C (c_isIn_0_20 l D y v2) kw_Model_240 ks_Model_isIn ⟨by decide, by decide⟩ ⟨by decide, by decide⟩ (wr := [(ma 45, .inl (y 0, 14, .inl g45)), (ma 46, .inl (y 0, 108, .inl g46)), (ma 62, .inl (y 0, 63, .inl g62)), (ma 63, .inl (y 0, 9, .inl g63)), (ma 68, .inl (y 0, 63, .inl g68)), MB mo ma (nI t1) i2 i3 i4 i5 i6 i7 i8 i42 i49 i51 i53 i54 i59 i61 i64 i66 (nI t67) i76 i78, (ma 43, .inl (y 0, 8, .inl g43))]) [] [0, 1, 2, 3, 4, 5, 6] rfl rfl (by decide) (by decide) (by decide) (As := [.long v2.toInt64, .long 0, .long 20]) (rest := []) rfl (nb rfl) rfl d_Model_would_14 (fun r4 _ hr4 => ?_)
    refine j_ws (ws' := [(ma 45, .inl (y 0, 14, .inl g45)), (ma 46, .inl (y 0, 108, .inl g46)), (ma 62, .inl (y 0, 63, .inl g62)), (ma 63, .inl (y 0, 9, .inl g63)), (ma 68, .inl (y 0, 63, .inl g68)), MB mo ma (nI t1) i2 i3 i4 i5 i6 i7 i8 i42 i49 i51 i53 i54 i59 i61 i64 i66 (nI t67) i76 i78, (ma 43, .inl (y 0, 8, .inl g43))]) rfl ?_
    rcases hr4 with rfl | ⟨rfl, j5, xh6, rfl⟩
    · refine j_if_eqT (pc := 17) C (tgt := 29) d_Model_would_17 (by decide) (by decide) ?_
      refine j_iconst (pc := 29) C (v := (-1)) d_Model_would_29 (by decide) ?_
      exact j_iret (pc := 30) C hr rfl (g62, g63, g68) hD [5, 6, 0, 1, 2, 3, 4] rfl (by decide) (by decide) (by decide) d_Model_would_30
    · refine j_if_eqF (pc := 17) C (tgt := 29) d_Model_would_17 (by decide) (by decide) ?_
      refine j_aload_n (pc := 20) C d_Model_would_20 rfl 0 rfl ?_
      refine j_iload_n (pc := 21) C d_Model_would_21 rfl 1 rfl ?_
      refine j_iload_n (pc := 22) C d_Model_would_22 rfl 2 rfl ?_
      refine j_callVi (pc := 23) C (c_M_wouldFlow l D y mo ma t1 i2 i3 i4 i5 i6 i7 i8 i42 i49 i51 i53 i54 i59 i61 i64 i66 t67 i76 i78 g43 g45 g46 g62 g63 g68 j2 (nI j5) c0 dy hc0 bc0 hL (by omega) (by omega) hD bD (by omega)) kw_Model_541 kv_Model_wouldFlow 0 10 rfl rfl ⟨by decide, by decide⟩ ⟨by decide, by decide⟩ (wr := []) [5, 6, 0, 1, 2, 3, 4] [] rfl rfl (by decide) (by decide) (by decide) (As := [.int (nI j2), .int (nI j5)]) (rest := []) rfl (nb rfl) rfl d_Model_would_23 (fun r7 u8 hr7 => ?_)
      have xh9 := hr7
      refine j_ws (ws' := [MB mo ma (nI t1) i2 i3 i4 i5 i6 i7 i8 i42 i49 i51 i53 i54 i59 i61 i64 i66 (nI t67) i76 i78, (ma 43, .inl (y 0, 8, .inl g43)), (ma 45, .inl (y 0, 14, .inl g45)), (ma 46, .inl (y 0, 108, .inl g46)), (ma 62, .inl (y 0, 63, .inl u8.1)), (ma 63, .inl (y 0, 9, .inl u8.2.1)), (ma 68, .inl (y 0, 63, .inl u8.2.2))]) rfl ?_
      refine j_goto (pc := 26) C (tgt := 30) d_Model_would_26 (by decide) ?_
      exact j_iret (pc := 30) C hr rfl (u8.1, u8.2.1, u8.2.2) xh9 [0, 1, 2, 3, 4, 5, 6] rfl (by decide) (by decide) (by decide) d_Model_would_30
theorem d_Model_gateFor_0 : decode prog_13_method_103_code 0 = .ok (.aload_n 0, 1) := by decide +kernel
theorem d_Model_gateFor_1 : decode prog_13_method_103_code 1 = .ok (.getfield 133, 3) := by decide +kernel
theorem d_Model_gateFor_4 : decode prog_13_method_103_code 4 = .ok (.bipush 112, 2) := by decide +kernel
theorem d_Model_gateFor_6 : decode prog_13_method_103_code 6 = .ok (.bipush 7, 2) := by decide +kernel
theorem d_Model_gateFor_8 : decode prog_13_method_103_code 8 = .ok (.iload_n 1, 1) := by decide +kernel
theorem d_Model_gateFor_9 : decode prog_13_method_103_code 9 = .ok (.imul, 1) := by decide +kernel
theorem d_Model_gateFor_10 : decode prog_13_method_103_code 10 = .ok (.iadd, 1) := by decide +kernel
theorem d_Model_gateFor_11 : decode prog_13_method_103_code 11 = .ok (.iconst 1, 1) := by decide +kernel
theorem d_Model_gateFor_12 : decode prog_13_method_103_code 12 = .ok (.iadd, 1) := by decide +kernel
theorem d_Model_gateFor_13 : decode prog_13_method_103_code 13 = .ok (.iaload, 1) := by decide +kernel
theorem d_Model_gateFor_14 : decode prog_13_method_103_code 14 = .ok (.ireturn, 1) := by decide +kernel
set_option maxHeartbeats 4000000 in
set_option maxRecDepth 100000 in
theorem c_M_gateFor (l : Launch) (D : va_G) (y : Nat → ClassId) (mo : Nat) (ma : Nat → Nat) (t1 : Nat) (i2 : Int32) (i3 : Int32) (i4 : Int32) (i5 : Int32) (i6 : Int32) (i7 : Int32) (i8 : Int32) (i42 : Int32) (i49 : Int32) (i51 : Int32) (i53 : Int32) (i54 : Int32) (i59 : Int32) (i61 : Int32) (i64 : Int32) (i66 : Int32) (t67 : Nat) (i76 : Int64) (i78 : Int32) (g48 : Nat → Int32) (j : Nat) (hTh : ∀ j, j < 16 → (∃ q, q < 6 ∧ g48 (112 + 7 * j) = nI q) ∧ ∃ q, q < 9 ∧ g48 (112 + 7 * j + 1) = nI q) (hj : j < 16) : CT l D y ⟨"NineBoardsModel", "gateFor", "(I)I"⟩ prog_13_method_103_code 2 (some .int) ({ frames := 0, cells := 0, slots := 0, locals := 0 } : Room) [.ref mo, .int (nI j)] [MB mo ma (nI t1) i2 i3 i4 i5 i6 i7 i8 i42 i49 i51 i53 i54 i59 i61 i64 i66 (nI t67) i76 i78, (ma 48, .inl (y 0, 224, .inl g48))] (QI D [MB mo ma (nI t1) i2 i3 i4 i5 i6 i7 i8 i42 i49 i51 i53 i54 i59 i61 i64 i66 (nI t67) i76 i78, (ma 48, .inl (y 0, 224, .inl g48))] (fun (r : Int32) (u : Unit) => (∃ q, q < 9 ∧ r = nI q)) (fun _ => [MB mo ma (nI t1) i2 i3 i4 i5 i6 i7 i8 i42 i49 i51 i53 i54 i59 i61 i64 i66 (nI t67) i76 i78, (ma 48, .inl (y 0, 224, .inl g48))])) := by
  refine CT.of (by decide) (nb rfl) ?_
  intro p e s m args below meth c C hr
  refine j_lv (lv' := [(0, .ref mo), (1, .int (nI j))]) rfl ?_
  refine j_aload_n (pc := 0) C d_Model_gateFor_0 rfl 0 rfl ?_
  refine j_get (pc := 1) C gf_Model_133 0 rfl rfl d_Model_gateFor_1 ?_
  refine j_bipush (pc := 4) C (v := 112) d_Model_gateFor_4 (by decide) ?_
  refine j_bipush (pc := 6) C (v := 7) d_Model_gateFor_6 (by decide) ?_
  refine j_iload_n (pc := 8) C d_Model_gateFor_8 rfl 1 rfl ?_
  refine j_imul (pc := 9) C (v := nI (7 * j)) d_Model_gateFor_9 (pk_mul _ _) ?_
  refine j_iadd (pc := 10) C (v := nI (112 + (7 * j))) d_Model_gateFor_10 (nI_add _ _) ?_
  refine j_iconst (pc := 11) C (v := 1) d_Model_gateFor_11 (by decide) ?_
  refine j_iadd (pc := 12) C (v := nI ((112 + (7 * j)) + 1)) d_Model_gateFor_12 (nI_add _ _) ?_
  obtain ⟨q1, xh2, e3⟩ := (hTh j (by omega)).2
  refine j_iald (pc := 13) C 1 rfl (v := nI q1) (vp_in_nI (by omega) (by decide)) (by rw [nI_clamp (by omega)]; exact e3) d_Model_gateFor_13 ?_
  exact j_iret (pc := 14) C hr rfl () ⟨q1, by omega, rfl⟩ [0, 1] rfl (by decide) (by decide) (by decide) d_Model_gateFor_14
theorem d_Model_isServed_0 : decode prog_13_method_104_code 0 = .ok (.bipush 112, 2) := by decide +kernel
theorem d_Model_isServed_2 : decode prog_13_method_104_code 2 = .ok (.bipush 7, 2) := by decide +kernel
theorem d_Model_isServed_4 : decode prog_13_method_104_code 4 = .ok (.iload_n 1, 1) := by decide +kernel
theorem d_Model_isServed_5 : decode prog_13_method_104_code 5 = .ok (.imul, 1) := by decide +kernel
theorem d_Model_isServed_6 : decode prog_13_method_104_code 6 = .ok (.iadd, 1) := by decide +kernel
theorem d_Model_isServed_7 : decode prog_13_method_104_code 7 = .ok (.istore_n 3, 1) := by decide +kernel
theorem d_Model_isServed_8 : decode prog_13_method_104_code 8 = .ok (.aload_n 0, 1) := by decide +kernel
theorem d_Model_isServed_9 : decode prog_13_method_104_code 9 = .ok (.getfield 158, 3) := by decide +kernel
theorem d_Model_isServed_12 : decode prog_13_method_104_code 12 = .ok (.iconst 0, 1) := by decide +kernel
theorem d_Model_isServed_13 : decode prog_13_method_104_code 13 = .ok (.iaload, 1) := by decide +kernel
theorem d_Model_isServed_14 : decode prog_13_method_104_code 14 = .ok (.i2l, 1) := by decide +kernel
theorem d_Model_isServed_15 : decode prog_13_method_104_code 15 = .ok (.aload_n 0, 1) := by decide +kernel
theorem d_Model_isServed_16 : decode prog_13_method_104_code 16 = .ok (.getfield 133, 3) := by decide +kernel
theorem d_Model_isServed_19 : decode prog_13_method_104_code 19 = .ok (.iload_n 3, 1) := by decide +kernel
theorem d_Model_isServed_20 : decode prog_13_method_104_code 20 = .ok (.iconst 4, 1) := by decide +kernel
theorem d_Model_isServed_21 : decode prog_13_method_104_code 21 = .ok (.iadd, 1) := by decide +kernel
theorem d_Model_isServed_22 : decode prog_13_method_104_code 22 = .ok (.iaload, 1) := by decide +kernel
theorem d_Model_isServed_23 : decode prog_13_method_104_code 23 = .ok (.i2l, 1) := by decide +kernel
theorem d_Model_isServed_24 : decode prog_13_method_104_code 24 = .ok (.aload_n 0, 1) := by decide +kernel
theorem d_Model_isServed_25 : decode prog_13_method_104_code 25 = .ok (.getfield 133, 3) := by decide +kernel
theorem d_Model_isServed_28 : decode prog_13_method_104_code 28 = .ok (.iload_n 3, 1) := by decide +kernel
theorem d_Model_isServed_29 : decode prog_13_method_104_code 29 = .ok (.iconst 5, 1) := by decide +kernel
theorem d_Model_isServed_30 : decode prog_13_method_104_code 30 = .ok (.iadd, 1) := by decide +kernel
theorem d_Model_isServed_31 : decode prog_13_method_104_code 31 = .ok (.iaload, 1) := by decide +kernel
theorem d_Model_isServed_32 : decode prog_13_method_104_code 32 = .ok (.i2l, 1) := by decide +kernel
theorem d_Model_isServed_33 : decode prog_13_method_104_code 33 = .ok (.invokestatic 240, 3) := by decide +kernel
theorem d_Model_isServed_36 : decode prog_13_method_104_code 36 = .ok (.ifCond .eq 33, 3) := by decide +kernel
theorem d_Model_isServed_69 : decode prog_13_method_104_code 69 = .ok (.iconst 0, 1) := by decide +kernel
theorem d_Model_isServed_70 : decode prog_13_method_104_code 70 = .ok (.ireturn, 1) := by decide +kernel
theorem d_Model_isServed_39 : decode prog_13_method_104_code 39 = .ok (.iload_n 2, 1) := by decide +kernel
theorem d_Model_isServed_40 : decode prog_13_method_104_code 40 = .ok (.i2l, 1) := by decide +kernel
theorem d_Model_isServed_41 : decode prog_13_method_104_code 41 = .ok (.aload_n 0, 1) := by decide +kernel
theorem d_Model_isServed_42 : decode prog_13_method_104_code 42 = .ok (.getfield 133, 3) := by decide +kernel
theorem d_Model_isServed_45 : decode prog_13_method_104_code 45 = .ok (.iload_n 3, 1) := by decide +kernel
theorem d_Model_isServed_46 : decode prog_13_method_104_code 46 = .ok (.iconst 2, 1) := by decide +kernel
theorem d_Model_isServed_47 : decode prog_13_method_104_code 47 = .ok (.iadd, 1) := by decide +kernel
theorem d_Model_isServed_48 : decode prog_13_method_104_code 48 = .ok (.iaload, 1) := by decide +kernel
theorem d_Model_isServed_49 : decode prog_13_method_104_code 49 = .ok (.i2l, 1) := by decide +kernel
theorem d_Model_isServed_50 : decode prog_13_method_104_code 50 = .ok (.aload_n 0, 1) := by decide +kernel
theorem d_Model_isServed_51 : decode prog_13_method_104_code 51 = .ok (.getfield 133, 3) := by decide +kernel
theorem d_Model_isServed_54 : decode prog_13_method_104_code 54 = .ok (.iload_n 3, 1) := by decide +kernel
theorem d_Model_isServed_55 : decode prog_13_method_104_code 55 = .ok (.iconst 3, 1) := by decide +kernel
theorem d_Model_isServed_56 : decode prog_13_method_104_code 56 = .ok (.iadd, 1) := by decide +kernel
theorem d_Model_isServed_57 : decode prog_13_method_104_code 57 = .ok (.iaload, 1) := by decide +kernel
theorem d_Model_isServed_58 : decode prog_13_method_104_code 58 = .ok (.i2l, 1) := by decide +kernel
theorem d_Model_isServed_59 : decode prog_13_method_104_code 59 = .ok (.invokestatic 240, 3) := by decide +kernel
theorem d_Model_isServed_62 : decode prog_13_method_104_code 62 = .ok (.ifCond .eq 7, 3) := by decide +kernel
theorem d_Model_isServed_65 : decode prog_13_method_104_code 65 = .ok (.iconst 1, 1) := by decide +kernel
theorem d_Model_isServed_66 : decode prog_13_method_104_code 66 = .ok (.goto 4, 3) := by decide +kernel
set_option maxHeartbeats 4000000 in
set_option maxRecDepth 100000 in
theorem c_M_isServed (l : Launch) (D : va_G) (y : Nat → ClassId) (mo : Nat) (ma : Nat → Nat) (t1 : Nat) (i2 : Int32) (i3 : Int32) (i4 : Int32) (i5 : Int32) (i6 : Int32) (i7 : Int32) (i8 : Int32) (i42 : Int32) (i49 : Int32) (i51 : Int32) (i53 : Int32) (i54 : Int32) (i59 : Int32) (i61 : Int32) (i64 : Int32) (i66 : Int32) (t67 : Nat) (i76 : Int64) (i78 : Int32) (g48 : Nat → Int32) (g62 : Nat → Int32) (j : Nat) (v : Int32) (hj : j < 16) : CT l D y ⟨"NineBoardsModel", "isServed", "(II)Z"⟩ prog_13_method_104_code 4 (some .boolean) ({ frames := 1, cells := 0, slots := 0, locals := 25 } : Room) [.ref mo, .int (nI j), .int v] [MB mo ma (nI t1) i2 i3 i4 i5 i6 i7 i8 i42 i49 i51 i53 i54 i59 i61 i64 i66 (nI t67) i76 i78, (ma 48, .inl (y 0, 224, .inl g48)), (ma 62, .inl (y 0, 63, .inl g62))] (QI D [MB mo ma (nI t1) i2 i3 i4 i5 i6 i7 i8 i42 i49 i51 i53 i54 i59 i61 i64 i66 (nI t67) i76 i78, (ma 48, .inl (y 0, 224, .inl g48)), (ma 62, .inl (y 0, 63, .inl g62))] (fun (r : Int32) (u : Unit) => (r = 0 ∨ r = 1)) (fun _ => [MB mo ma (nI t1) i2 i3 i4 i5 i6 i7 i8 i42 i49 i51 i53 i54 i59 i61 i64 i66 (nI t67) i76 i78, (ma 48, .inl (y 0, 224, .inl g48)), (ma 62, .inl (y 0, 63, .inl g62))])) := by
  refine CT.of (by decide) (nb rfl) ?_
  intro p e s m args below meth c C hr
  refine j_lv (lv' := [(0, .ref mo), (1, .int (nI j)), (2, .int v)]) rfl ?_
  refine j_bipush (pc := 0) C (v := 112) d_Model_isServed_0 (by decide) ?_
  refine j_bipush (pc := 2) C (v := 7) d_Model_isServed_2 (by decide) ?_
  refine j_iload_n (pc := 4) C d_Model_isServed_4 rfl 1 rfl ?_
  refine j_imul (pc := 5) C (v := nI (7 * j)) d_Model_isServed_5 (pk_mul _ _) ?_
  refine j_iadd (pc := 6) C (v := nI (112 + (7 * j))) d_Model_isServed_6 (nI_add _ _) ?_
  refine j_istore_n (pc := 7) C (lv' := [(3, .int (nI (112 + (7 * j)))), (0, .ref mo), (1, .int (nI j)), (2, .int v)]) d_Model_isServed_7 rfl (by decide) rfl ?_
  refine j_aload_n (pc := 8) C d_Model_isServed_8 rfl 1 rfl ?_
  refine j_get (pc := 9) C gf_Model_158 0 rfl rfl d_Model_isServed_9 ?_
  refine j_iconst (pc := 12) C (v := 0) d_Model_isServed_12 (by decide) ?_
  refine j_iald (pc := 13) C 2 rfl (v := g62 0) (vin (by decide)) rfl d_Model_isServed_13 ?_
  refine j_i2l (pc := 14) C (v := (g62 0).toInt64) d_Model_isServed_14 rfl ?_
  refine j_aload_n (pc := 15) C d_Model_isServed_15 rfl 1 rfl ?_
  refine j_get (pc := 16) C gf_Model_133 0 rfl rfl d_Model_isServed_16 ?_
  refine j_iload_n (pc := 19) C d_Model_isServed_19 rfl 0 rfl ?_
  refine j_iconst (pc := 20) C (v := 4) d_Model_isServed_20 (by decide) ?_
  refine j_iadd (pc := 21) C (v := nI ((112 + (7 * j)) + 4)) d_Model_isServed_21 (nI_add _ _) ?_
  refine j_iald (pc := 22) C 1 rfl (v := g48 ((112 + (7 * j)) + 4)) (vp_in_nI (by omega) (by decide)) (by rw [nI_clamp (by omega)]) d_Model_isServed_22 ?_
  refine j_i2l (pc := 23) C (v := (g48 ((112 + (7 * j)) + 4)).toInt64) d_Model_isServed_23 rfl ?_
  refine j_aload_n (pc := 24) C d_Model_isServed_24 rfl 1 rfl ?_
  refine j_get (pc := 25) C gf_Model_133 0 rfl rfl d_Model_isServed_25 ?_
  refine j_iload_n (pc := 28) C d_Model_isServed_28 rfl 0 rfl ?_
  refine j_iconst (pc := 29) C (v := 5) d_Model_isServed_29 (by decide) ?_
  refine j_iadd (pc := 30) C (v := nI ((112 + (7 * j)) + 5)) d_Model_isServed_30 (nI_add _ _) ?_
  refine j_iald (pc := 31) C 1 rfl (v := g48 ((112 + (7 * j)) + 5)) (vp_in_nI (by omega) (by decide)) (by rw [nI_clamp (by omega)]) d_Model_isServed_31 ?_
  refine j_i2l (pc := 32) C (v := (g48 ((112 + (7 * j)) + 5)).toInt64) d_Model_isServed_32 rfl ?_
  refine j_callSi (pc := 33) C (c_isIn_any l D y ((g62 0).toInt64) ((g48 ((112 + (7 * j)) + 4)).toInt64) ((g48 ((112 + (7 * j)) + 5)).toInt64)) kw_Model_240 ks_Model_isIn ⟨by decide, by decide⟩ ⟨by decide, by decide⟩ (wr := [MB mo ma (nI t1) i2 i3 i4 i5 i6 i7 i8 i42 i49 i51 i53 i54 i59 i61 i64 i66 (nI t67) i76 i78, (ma 48, .inl (y 0, 224, .inl g48)), (ma 62, .inl (y 0, 63, .inl g62))]) [] [0, 1, 2] rfl rfl (by decide) (by decide) (by decide) (As := [.long ((g62 0).toInt64), .long ((g48 ((112 + (7 * j)) + 4)).toInt64), .long ((g48 ((112 + (7 * j)) + 5)).toInt64)]) (rest := []) rfl (nb rfl) rfl d_Model_isServed_33 (fun r1 _ hr1 => ?_)
  have xh2 := hr1
  refine j_ws (ws' := [MB mo ma (nI t1) i2 i3 i4 i5 i6 i7 i8 i42 i49 i51 i53 i54 i59 i61 i64 i66 (nI t67) i76 i78, (ma 48, .inl (y 0, 224, .inl g48)), (ma 62, .inl (y 0, 63, .inl g62))]) rfl ?_
  refine j_if_eq (pc := 36) C (tgt := 69) d_Model_isServed_36 (by decide) (fun c3 => ?_) (fun c3 => ?_)
  · refine j_iconst (pc := 69) C (v := 0) d_Model_isServed_69 (by decide) ?_
    exact j_iret (pc := 70) C hr (by decide) () (by decide) [0, 1, 2] rfl (by decide) (by decide) (by decide) d_Model_isServed_70
  · refine j_iload_n (pc := 39) C d_Model_isServed_39 rfl 3 rfl ?_
    refine j_i2l (pc := 40) C (v := v.toInt64) d_Model_isServed_40 rfl ?_
    refine j_aload_n (pc := 41) C d_Model_isServed_41 rfl 1 rfl ?_
    refine j_get (pc := 42) C gf_Model_133 0 rfl rfl d_Model_isServed_42 ?_
    refine j_iload_n (pc := 45) C d_Model_isServed_45 rfl 0 rfl ?_
    refine j_iconst (pc := 46) C (v := 2) d_Model_isServed_46 (by decide) ?_
    refine j_iadd (pc := 47) C (v := nI ((112 + (7 * j)) + 2)) d_Model_isServed_47 (nI_add _ _) ?_
    refine j_iald (pc := 48) C 1 rfl (v := g48 ((112 + (7 * j)) + 2)) (vp_in_nI (by omega) (by decide)) (by rw [nI_clamp (by omega)]) d_Model_isServed_48 ?_
    refine j_i2l (pc := 49) C (v := (g48 ((112 + (7 * j)) + 2)).toInt64) d_Model_isServed_49 rfl ?_
    refine j_aload_n (pc := 50) C d_Model_isServed_50 rfl 1 rfl ?_
    refine j_get (pc := 51) C gf_Model_133 0 rfl rfl d_Model_isServed_51 ?_
    refine j_iload_n (pc := 54) C d_Model_isServed_54 rfl 0 rfl ?_
    refine j_iconst (pc := 55) C (v := 3) d_Model_isServed_55 (by decide) ?_
    refine j_iadd (pc := 56) C (v := nI ((112 + (7 * j)) + 3)) d_Model_isServed_56 (nI_add _ _) ?_
    refine j_iald (pc := 57) C 1 rfl (v := g48 ((112 + (7 * j)) + 3)) (vp_in_nI (by omega) (by decide)) (by rw [nI_clamp (by omega)]) d_Model_isServed_57 ?_
    refine j_i2l (pc := 58) C (v := (g48 ((112 + (7 * j)) + 3)).toInt64) d_Model_isServed_58 rfl ?_
    refine j_callSi (pc := 59) C (c_isIn_any l D y v.toInt64 ((g48 ((112 + (7 * j)) + 2)).toInt64) ((g48 ((112 + (7 * j)) + 3)).toInt64)) kw_Model_240 ks_Model_isIn ⟨by decide, by decide⟩ ⟨by decide, by decide⟩ (wr := [MB mo ma (nI t1) i2 i3 i4 i5 i6 i7 i8 i42 i49 i51 i53 i54 i59 i61 i64 i66 (nI t67) i76 i78, (ma 48, .inl (y 0, 224, .inl g48)), (ma 62, .inl (y 0, 63, .inl g62))]) [] [0, 1, 2] rfl rfl (by decide) (by decide) (by decide) (As := [.long v.toInt64, .long ((g48 ((112 + (7 * j)) + 2)).toInt64), .long ((g48 ((112 + (7 * j)) + 3)).toInt64)]) (rest := []) rfl (nb rfl) rfl d_Model_isServed_59 (fun r4 _ hr4 => ?_)
    have xh5 := hr4
    refine j_ws (ws' := [MB mo ma (nI t1) i2 i3 i4 i5 i6 i7 i8 i42 i49 i51 i53 i54 i59 i61 i64 i66 (nI t67) i76 i78, (ma 48, .inl (y 0, 224, .inl g48)), (ma 62, .inl (y 0, 63, .inl g62))]) rfl ?_
    refine j_if_eq (pc := 62) C (tgt := 69) d_Model_isServed_62 (by decide) (fun c6 => ?_) (fun c6 => ?_)
    · refine j_iconst (pc := 69) C (v := 0) d_Model_isServed_69 (by decide) ?_
      exact j_iret (pc := 70) C hr (by decide) () (by decide) [0, 1, 2] rfl (by decide) (by decide) (by decide) d_Model_isServed_70
    · refine j_iconst (pc := 65) C (v := 1) d_Model_isServed_65 (by decide) ?_
      refine j_goto (pc := 66) C (tgt := 70) d_Model_isServed_66 (by decide) ?_
      exact j_iret (pc := 70) C hr (by decide) () (by decide) [0, 1, 2] rfl (by decide) (by decide) (by decide) d_Model_isServed_70
theorem d_Model_need_0 : decode prog_13_method_105_code 0 = .ok (.aload_n 0, 1) := by decide +kernel
theorem d_Model_need_1 : decode prog_13_method_105_code 1 = .ok (.iload_n 1, 1) := by decide +kernel
theorem d_Model_need_2 : decode prog_13_method_105_code 2 = .ok (.invokevirtual 544, 3) := by decide +kernel
theorem kw_Model_544 : KW "NineBoardsModel" 544 ⟨"NineBoardsModel", "isThing", "(I)Z"⟩ prog_13_method_102_code 2 (some .boolean) 1 := ⟨(mt_8 (List.mem_of_getElem? (i := 24) rfl) rfl), (mt_1 (List.mem_of_getElem? (i := 16) rfl) rfl), (mt_8 (List.mem_of_getElem? (i := 27) rfl) rfl), by decide +kernel⟩
theorem kv_Model_isThing : Cond.instanceMethod ⟨"NineBoardsModel", "isThing", "(I)Z"⟩ ∈ TB ∧ Cond.selects "NineBoardsModel" ⟨"NineBoardsModel", "isThing", "(I)Z"⟩ ⟨"NineBoardsModel", "isThing", "(I)Z"⟩ ∈ TB := ⟨(mt_8 (List.mem_of_getElem? (i := 26) rfl) rfl), (ms_0 (List.mem_map.mpr ⟨(⟨"NineBoardsModel", "isThing", "(I)Z"⟩, 79), List.mem_of_getElem? (i := 124) (by decide +kernel), rfl⟩) rfl)⟩
theorem d_Model_need_5 : decode prog_13_method_105_code 5 = .ok (.ifCond .ne 5, 3) := by decide +kernel
theorem d_Model_need_8 : decode prog_13_method_105_code 8 = .ok (.iconst (-1), 1) := by decide +kernel
theorem d_Model_need_9 : decode prog_13_method_105_code 9 = .ok (.ireturn, 1) := by decide +kernel
theorem d_Model_need_10 : decode prog_13_method_105_code 10 = .ok (.iconst 0, 1) := by decide +kernel
theorem d_Model_need_11 : decode prog_13_method_105_code 11 = .ok (.istore_n 2, 1) := by decide +kernel
theorem d_Model_need_12 : decode prog_13_method_105_code 12 = .ok (.iload_n 2, 1) := by decide +kernel
theorem d_Model_need_13 : decode prog_13_method_105_code 13 = .ok (.bipush 20, 2) := by decide +kernel
theorem d_Model_need_15 : decode prog_13_method_105_code 15 = .ok (.if_icmp .gt 29, 3) := by decide +kernel
theorem d_Model_need_44 : decode prog_13_method_105_code 44 = .ok (.iconst (-1), 1) := by decide +kernel
theorem d_Model_need_45 : decode prog_13_method_105_code 45 = .ok (.ireturn, 1) := by decide +kernel
theorem d_Model_need_18 : decode prog_13_method_105_code 18 = .ok (.aload_n 0, 1) := by decide +kernel
theorem d_Model_need_19 : decode prog_13_method_105_code 19 = .ok (.iload_n 1, 1) := by decide +kernel
theorem d_Model_need_20 : decode prog_13_method_105_code 20 = .ok (.aload_n 0, 1) := by decide +kernel
theorem d_Model_need_21 : decode prog_13_method_105_code 21 = .ok (.aload_n 0, 1) := by decide +kernel
theorem d_Model_need_22 : decode prog_13_method_105_code 22 = .ok (.iload_n 1, 1) := by decide +kernel
theorem d_Model_need_23 : decode prog_13_method_105_code 23 = .ok (.invokevirtual 547, 3) := by decide +kernel
theorem kw_Model_547 : KW "NineBoardsModel" 547 ⟨"NineBoardsModel", "gateFor", "(I)I"⟩ prog_13_method_103_code 2 (some .int) 1 := ⟨(mt_8 (List.mem_of_getElem? (i := 28) rfl) rfl), (mt_1 (List.mem_of_getElem? (i := 16) rfl) rfl), (mt_8 (List.mem_of_getElem? (i := 31) rfl) rfl), by decide +kernel⟩
theorem kv_Model_gateFor : Cond.instanceMethod ⟨"NineBoardsModel", "gateFor", "(I)I"⟩ ∈ TB ∧ Cond.selects "NineBoardsModel" ⟨"NineBoardsModel", "gateFor", "(I)I"⟩ ⟨"NineBoardsModel", "gateFor", "(I)I"⟩ ∈ TB := ⟨(mt_8 (List.mem_of_getElem? (i := 30) rfl) rfl), (ms_0 (List.mem_map.mpr ⟨(⟨"NineBoardsModel", "gateFor", "(I)I"⟩, 79), List.mem_of_getElem? (i := 125) (by decide +kernel), rfl⟩) rfl)⟩
theorem d_Model_need_26 : decode prog_13_method_105_code 26 = .ok (.iload_n 2, 1) := by decide +kernel
theorem d_Model_need_27 : decode prog_13_method_105_code 27 = .ok (.invokevirtual 541, 3) := by decide +kernel
theorem d_Model_need_30 : decode prog_13_method_105_code 30 = .ok (.invokevirtual 550, 3) := by decide +kernel
theorem kw_Model_550 : KW "NineBoardsModel" 550 ⟨"NineBoardsModel", "isServed", "(II)Z"⟩ prog_13_method_104_code 4 (some .boolean) 2 := ⟨(mt_8 (List.mem_of_getElem? (i := 32) rfl) rfl), (mt_1 (List.mem_of_getElem? (i := 16) rfl) rfl), (mt_8 (List.mem_of_getElem? (i := 35) rfl) rfl), by decide +kernel⟩
theorem kv_Model_isServed : Cond.instanceMethod ⟨"NineBoardsModel", "isServed", "(II)Z"⟩ ∈ TB ∧ Cond.selects "NineBoardsModel" ⟨"NineBoardsModel", "isServed", "(II)Z"⟩ ⟨"NineBoardsModel", "isServed", "(II)Z"⟩ ∈ TB := ⟨(mt_8 (List.mem_of_getElem? (i := 34) rfl) rfl), (ms_0 (List.mem_map.mpr ⟨(⟨"NineBoardsModel", "isServed", "(II)Z"⟩, 79), List.mem_of_getElem? (i := 126) (by decide +kernel), rfl⟩) rfl)⟩
theorem d_Model_need_33 : decode prog_13_method_105_code 33 = .ok (.ifCond .eq 5, 3) := by decide +kernel
theorem d_Model_need_38 : decode prog_13_method_105_code 38 = .ok (.iinc 2 1, 3) := by decide +kernel
theorem d_Model_need_41 : decode prog_13_method_105_code 41 = .ok (.goto (-29), 3) := by decide +kernel
theorem d_Model_need_36 : decode prog_13_method_105_code 36 = .ok (.iload_n 2, 1) := by decide +kernel
theorem d_Model_need_37 : decode prog_13_method_105_code 37 = .ok (.ireturn, 1) := by decide +kernel
set_option maxHeartbeats 4000000 in
set_option maxRecDepth 100000 in
theorem c_M_need (l : Launch) (D : va_G) (y : Nat → ClassId) (mo : Nat) (ma : Nat → Nat) (t1 : Nat) (i2 : Int32) (i3 : Int32) (i4 : Int32) (i5 : Int32) (i6 : Int32) (i7 : Int32) (i8 : Int32) (i42 : Int32) (i49 : Int32) (i51 : Int32) (i53 : Int32) (i54 : Int32) (i59 : Int32) (i61 : Int32) (i64 : Int32) (i66 : Int32) (t67 : Nat) (i76 : Int64) (i78 : Int32) (g43 : Nat → Int32) (g45 : Nat → Int32) (g46 : Nat → Int32) (g48 : Nat → Int32) (g62 : Nat → Int32) (g63 : Nat → Int32) (g68 : Nat → Int32) (v : Int32) (c0 : Nat) (dy : Nat) (c2 : Nat) (hc0 : g43 4 = nI c0) (bc0 : c0 ≤ 9) (hL : ¬ g45 7 = 0) (hS : ∀ j, j < 9 → g46 (54 + 6 * j) = 2 → ¬ g46 (54 + 6 * j + 1) = 0) (hG : ∀ j, j < 9 → g46 (54 + 6 * j + 5) = -1 ∨ ∃ q, q < 9 ∧ g46 (54 + 6 * j + 5) = nI q) (hD : g62 0 = nI dy) (bD : dy ≤ 999) (hc2 : g43 6 = nI c2) (bc2 : c2 ≤ 16) (hTh : ∀ j, j < 16 → (∃ q, q < 6 ∧ g48 (112 + 7 * j) = nI q) ∧ ∃ q, q < 9 ∧ g48 (112 + 7 * j + 1) = nI q) : CT l D y ⟨"NineBoardsModel", "need", "(I)I"⟩ prog_13_method_105_code 3 (some .int) ({ frames := 4, cells := 0, slots := 0, locals := 97 } : Room) [.ref mo, .int v] [MB mo ma (nI t1) i2 i3 i4 i5 i6 i7 i8 i42 i49 i51 i53 i54 i59 i61 i64 i66 (nI t67) i76 i78, (ma 43, .inl (y 0, 8, .inl g43)), (ma 45, .inl (y 0, 14, .inl g45)), (ma 46, .inl (y 0, 108, .inl g46)), (ma 48, .inl (y 0, 224, .inl g48)), (ma 62, .inl (y 0, 63, .inl g62)), (ma 63, .inl (y 0, 9, .inl g63)), (ma 68, .inl (y 0, 63, .inl g68))] (QI D [MB mo ma (nI t1) i2 i3 i4 i5 i6 i7 i8 i42 i49 i51 i53 i54 i59 i61 i64 i66 (nI t67) i76 i78, (ma 43, .inl (y 0, 8, .inl g43)), (ma 45, .inl (y 0, 14, .inl g45)), (ma 46, .inl (y 0, 108, .inl g46)), (ma 48, .inl (y 0, 224, .inl g48)), (ma 62, .inl (y 0, 63, .inl g62)), (ma 63, .inl (y 0, 9, .inl g63)), (ma 68, .inl (y 0, 63, .inl g68))] (fun (r : Int32) (u : (Nat → Int32) × (Nat → Int32) × (Nat → Int32)) => u.1 0 = nI dy) (fun u => [MB mo ma (nI t1) i2 i3 i4 i5 i6 i7 i8 i42 i49 i51 i53 i54 i59 i61 i64 i66 (nI t67) i76 i78, (ma 43, .inl (y 0, 8, .inl g43)), (ma 45, .inl (y 0, 14, .inl g45)), (ma 46, .inl (y 0, 108, .inl g46)), (ma 48, .inl (y 0, 224, .inl g48)), (ma 62, .inl (y 0, 63, .inl u.1)), (ma 63, .inl (y 0, 9, .inl u.2.1)), (ma 68, .inl (y 0, 63, .inl u.2.2))])) := by
  refine CT.of (by decide) (nb rfl) ?_
  intro p e s m args below meth c C hr
  refine j_lv (lv' := [(0, .ref mo), (1, .int v)]) rfl ?_
  refine j_aload_n (pc := 0) C d_Model_need_0 rfl 0 rfl ?_
  refine j_iload_n (pc := 1) C d_Model_need_1 rfl 1 rfl ?_
  refine j_callVi (pc := 2) C (c_M_isThing l D y mo ma t1 i2 i3 i4 i5 i6 i7 i8 i42 i49 i51 i53 i54 i59 i61 i64 i66 t67 i76 i78 g43 v c2 hc2 bc2) kw_Model_544 kv_Model_isThing 0 10 rfl rfl ⟨by decide, by decide⟩ ⟨by decide, by decide⟩ (wr := [(ma 45, .inl (y 0, 14, .inl g45)), (ma 46, .inl (y 0, 108, .inl g46)), (ma 48, .inl (y 0, 224, .inl g48)), (ma 62, .inl (y 0, 63, .inl g62)), (ma 63, .inl (y 0, 9, .inl g63)), (ma 68, .inl (y 0, 63, .inl g68))]) [0, 1] [2, 3, 4, 5, 6, 7] rfl rfl (by decide) (by decide) (by decide) (As := [.int v]) (rest := []) rfl (nb rfl) rfl d_Model_need_2 (fun r1 _ hr1 => ?_)
  refine j_ws (ws' := [(ma 45, .inl (y 0, 14, .inl g45)), (ma 46, .inl (y 0, 108, .inl g46)), (ma 48, .inl (y 0, 224, .inl g48)), (ma 62, .inl (y 0, 63, .inl g62)), (ma 63, .inl (y 0, 9, .inl g63)), (ma 68, .inl (y 0, 63, .inl g68)), MB mo ma (nI t1) i2 i3 i4 i5 i6 i7 i8 i42 i49 i51 i53 i54 i59 i61 i64 i66 (nI t67) i76 i78, (ma 43, .inl (y 0, 8, .inl g43))]) rfl ?_
  rcases hr1 with rfl | ⟨rfl, j2, xh3, rfl⟩
  · refine j_if_neF (pc := 5) C (tgt := 10) d_Model_need_5 (by decide) (by decide) ?_
    refine j_iconst (pc := 8) C (v := (-1)) d_Model_need_8 (by decide) ?_
    exact j_iret (pc := 9) C hr rfl (g62, g63, g68) hD [6, 7, 0, 1, 2, 3, 4, 5] rfl (by decide) (by decide) (by decide) d_Model_need_9
  · refine j_if_neT (pc := 5) C (tgt := 10) d_Model_need_5 (by decide) (by decide) ?_
    refine j_iconst (pc := 10) C (v := 0) d_Model_need_10 (by decide) ?_
    refine j_istore_n (pc := 11) C (lv' := [(2, .int 0), (0, .ref mo), (1, .int (nI j2))]) d_Model_need_11 rfl (by decide) rfl ?_
    refine j_loop (α := Nat × (Nat → Int32) × (Nat → Int32) × (Nat → Int32)) (fun a => 21 - a.1) (fun a => (a.1 ≤ 21) ∧ (a.2.1 0 = nI dy)) (fun a => [(ma 45, .inl (y 0, 14, .inl g45)), (ma 46, .inl (y 0, 108, .inl g46)), (ma 48, .inl (y 0, 224, .inl g48)), (ma 62, .inl (y 0, 63, .inl a.2.1)), (ma 63, .inl (y 0, 9, .inl a.2.2.1)), (ma 68, .inl (y 0, 63, .inl a.2.2.2)), MB mo ma (nI t1) i2 i3 i4 i5 i6 i7 i8 i42 i49 i51 i53 i54 i59 i61 i64 i66 (nI t67) i76 i78, (ma 43, .inl (y 0, 8, .inl g43))]) (fun a => [(2, .int (nI a.1)), (0, .ref mo), (1, .int (nI j2))]) (0, g62, g63, g68) rfl rfl ⟨(show 0 ≤ 21 by omega), hD⟩ ?_
    rintro ⟨iz, nz, z15, z16⟩ hP28 ih29
    obtain ⟨hi__, hn__⟩ := hP28
    have hi_ : iz ≤ 21 := hi__
    have hn_ : nz 0 = nI dy := hn__
    refine j_ws (ws' := [(ma 45, .inl (y 0, 14, .inl g45)), (ma 46, .inl (y 0, 108, .inl g46)), (ma 48, .inl (y 0, 224, .inl g48)), (ma 62, .inl (y 0, 63, .inl nz)), (ma 63, .inl (y 0, 9, .inl z15)), (ma 68, .inl (y 0, 63, .inl z16)), MB mo ma (nI t1) i2 i3 i4 i5 i6 i7 i8 i42 i49 i51 i53 i54 i59 i61 i64 i66 (nI t67) i76 i78, (ma 43, .inl (y 0, 8, .inl g43))]) rfl ?_
    refine j_lv (lv' := [(2, .int (nI iz)), (0, .ref mo), (1, .int (nI j2))]) rfl ?_
    refine j_iload_n (pc := 12) C d_Model_need_12 rfl 0 rfl ?_
    refine j_bipush (pc := 13) C (v := 20) d_Model_need_13 (by decide) ?_
    by_cases c30 : 20 < iz
    · refine j_icmp_gtT (pc := 15) C (tgt := 44) d_Model_need_15 (by decide) (show nI 20 < nI iz from nI_lt (by omega) (by omega)) ?_
      refine j_iconst (pc := 44) C (v := (-1)) d_Model_need_44 (by decide) ?_
      exact j_iret (pc := 45) C hr rfl (nz, z15, z16) hn_ [6, 7, 0, 1, 2, 3, 4, 5] rfl (by decide) (by decide) (by decide) d_Model_need_45
    · refine j_icmp_gtF (pc := 15) C (tgt := 44) d_Model_need_15 (by decide) (show ¬ nI 20 < nI iz from nI_nlt (by omega) (by omega)) ?_
      refine j_aload_n (pc := 18) C d_Model_need_18 rfl 1 rfl ?_
      refine j_iload_n (pc := 19) C d_Model_need_19 rfl 2 rfl ?_
      refine j_aload_n (pc := 20) C d_Model_need_20 rfl 1 rfl ?_
      refine j_aload_n (pc := 21) C d_Model_need_21 rfl 1 rfl ?_
      refine j_iload_n (pc := 22) C d_Model_need_22 rfl 2 rfl ?_
      refine j_callVi (pc := 23) C (c_M_gateFor l D y mo ma t1 i2 i3 i4 i5 i6 i7 i8 i42 i49 i51 i53 i54 i59 i61 i64 i66 t67 i76 i78 g48 j2 (by omega) (by omega)) kw_Model_547 kv_Model_gateFor 0 10 rfl rfl ⟨by decide, by decide⟩ ⟨by decide, by decide⟩ (wr := [(ma 45, .inl (y 0, 14, .inl g45)), (ma 46, .inl (y 0, 108, .inl g46)), (ma 62, .inl (y 0, 63, .inl nz)), (ma 63, .inl (y 0, 9, .inl z15)), (ma 68, .inl (y 0, 63, .inl z16)), (ma 43, .inl (y 0, 8, .inl g43))]) [6, 2] [0, 1, 3, 4, 5, 7] rfl rfl (by decide) (by decide) (by decide) (As := [.int (nI j2)]) (rest := [.ref mo, .int (nI j2), .ref mo]) rfl (nb rfl) rfl d_Model_need_23 (fun r31 _ hr31 => ?_)
      refine j_ws (ws' := [(ma 45, .inl (y 0, 14, .inl g45)), (ma 46, .inl (y 0, 108, .inl g46)), (ma 62, .inl (y 0, 63, .inl nz)), (ma 63, .inl (y 0, 9, .inl z15)), (ma 68, .inl (y 0, 63, .inl z16)), (ma 43, .inl (y 0, 8, .inl g43)), MB mo ma (nI t1) i2 i3 i4 i5 i6 i7 i8 i42 i49 i51 i53 i54 i59 i61 i64 i66 (nI t67) i76 i78, (ma 48, .inl (y 0, 224, .inl g48))]) rfl ?_
      rcases hr31 with ⟨q33, xh34, rfl⟩
      · refine j_iload_n (pc := 26) C d_Model_need_26 rfl 0 rfl ?_
        refine j_callVi (pc := 27) C (c_M_wouldFlow l D y mo ma t1 i2 i3 i4 i5 i6 i7 i8 i42 i49 i51 i53 i54 i59 i61 i64 i66 t67 i76 i78 g43 g45 g46 nz z15 z16 q33 (nI iz) c0 dy hc0 bc0 hL (by omega) (by omega) hn_ bD (by omega)) kw_Model_541 kv_Model_wouldFlow 0 10 rfl rfl ⟨by decide, by decide⟩ ⟨by decide, by decide⟩ (wr := [(ma 48, .inl (y 0, 224, .inl g48))]) [6, 5, 0, 1, 2, 3, 4] [7] rfl rfl (by decide) (by decide) (by decide) (As := [.int (nI q33), .int (nI iz)]) (rest := [.int (nI j2), .ref mo]) rfl (nb rfl) rfl d_Model_need_27 (fun r35 u36 hr35 => ?_)
        have xh37 := hr35
        refine j_ws (ws' := [(ma 48, .inl (y 0, 224, .inl g48)), MB mo ma (nI t1) i2 i3 i4 i5 i6 i7 i8 i42 i49 i51 i53 i54 i59 i61 i64 i66 (nI t67) i76 i78, (ma 43, .inl (y 0, 8, .inl g43)), (ma 45, .inl (y 0, 14, .inl g45)), (ma 46, .inl (y 0, 108, .inl g46)), (ma 62, .inl (y 0, 63, .inl u36.1)), (ma 63, .inl (y 0, 9, .inl u36.2.1)), (ma 68, .inl (y 0, 63, .inl u36.2.2))]) rfl ?_
        refine j_callVi (pc := 30) C (c_M_isServed l D y mo ma t1 i2 i3 i4 i5 i6 i7 i8 i42 i49 i51 i53 i54 i59 i61 i64 i66 t67 i76 i78 g48 u36.1 j2 r35 (by omega)) kw_Model_550 kv_Model_isServed 0 10 rfl rfl ⟨by decide, by decide⟩ ⟨by decide, by decide⟩ (wr := [(ma 43, .inl (y 0, 8, .inl g43)), (ma 45, .inl (y 0, 14, .inl g45)), (ma 46, .inl (y 0, 108, .inl g46)), (ma 63, .inl (y 0, 9, .inl u36.2.1)), (ma 68, .inl (y 0, 63, .inl u36.2.2))]) [1, 0, 5] [2, 3, 4, 6, 7] rfl rfl (by decide) (by decide) (by decide) (As := [.int (nI j2), .int r35]) (rest := []) rfl (nb rfl) rfl d_Model_need_30 (fun r38 _ hr38 => ?_)
        have xh39 := hr38
        refine j_ws (ws' := [(ma 43, .inl (y 0, 8, .inl g43)), (ma 45, .inl (y 0, 14, .inl g45)), (ma 46, .inl (y 0, 108, .inl g46)), (ma 63, .inl (y 0, 9, .inl u36.2.1)), (ma 68, .inl (y 0, 63, .inl u36.2.2)), MB mo ma (nI t1) i2 i3 i4 i5 i6 i7 i8 i42 i49 i51 i53 i54 i59 i61 i64 i66 (nI t67) i76 i78, (ma 48, .inl (y 0, 224, .inl g48)), (ma 62, .inl (y 0, 63, .inl u36.1))]) rfl ?_
        refine j_if_eq (pc := 33) C (tgt := 38) d_Model_need_33 (by decide) (fun c40 => ?_) (fun c40 => ?_)
        · refine j_iinc (pc := 38) C (v := nI (iz + 1)) (lv' := [(2, .int (nI (iz + 1))), (0, .ref mo), (1, .int (nI j2))]) d_Model_need_38 0 rfl (nI_add _ _) (by decide) rfl ?_
          refine j_goto (pc := 41) C (tgt := 12) d_Model_need_41 (by decide) ?_
          refine j_sub (ws' := [(ma 45, .inl (y 0, 14, .inl g45)), (ma 46, .inl (y 0, 108, .inl g46)), (ma 48, .inl (y 0, 224, .inl g48)), (ma 62, .inl (y 0, 63, .inl u36.1)), (ma 63, .inl (y 0, 9, .inl u36.2.1)), (ma 68, .inl (y 0, 63, .inl u36.2.2)), MB mo ma (nI t1) i2 i3 i4 i5 i6 i7 i8 i42 i49 i51 i53 i54 i59 i61 i64 i66 (nI t67) i76 i78, (ma 43, .inl (y 0, 8, .inl g43))]) [1, 2, 6, 7, 3, 4, 5, 0] rfl (by decide) ?_
          exact ih29 ((iz + 1), u36.1, u36.2.1, u36.2.2) ⟨(show (iz + 1) ≤ 21 by omega), xh37⟩ (show 21 - (iz + 1) < 21 - iz by omega)
        · refine j_iload_n (pc := 36) C d_Model_need_36 rfl 0 rfl ?_
          exact j_iret (pc := 37) C hr rfl (u36.1, u36.2.1, u36.2.2) xh37 [5, 0, 1, 2, 6, 7, 3, 4] rfl (by decide) (by decide) (by decide) d_Model_need_37
theorem d_Model_both_0 : decode prog_13_method_106_code 0 = .ok (.aload_n 0, 1) := by decide +kernel
theorem d_Model_both_1 : decode prog_13_method_106_code 1 = .ok (.iload_n 1, 1) := by decide +kernel
theorem d_Model_both_2 : decode prog_13_method_106_code 2 = .ok (.invokevirtual 544, 3) := by decide +kernel
theorem d_Model_both_5 : decode prog_13_method_106_code 5 = .ok (.ifCond .eq 16, 3) := by decide +kernel
theorem d_Model_both_21 : decode prog_13_method_106_code 21 = .ok (.iconst (-1), 1) := by decide +kernel
theorem d_Model_both_22 : decode prog_13_method_106_code 22 = .ok (.ireturn, 1) := by decide +kernel
theorem d_Model_both_8 : decode prog_13_method_106_code 8 = .ok (.aload_n 0, 1) := by decide +kernel
theorem d_Model_both_9 : decode prog_13_method_106_code 9 = .ok (.iload_n 2, 1) := by decide +kernel
theorem d_Model_both_10 : decode prog_13_method_106_code 10 = .ok (.invokevirtual 544, 3) := by decide +kernel
theorem d_Model_both_13 : decode prog_13_method_106_code 13 = .ok (.ifCond .eq 8, 3) := by decide +kernel
theorem d_Model_both_16 : decode prog_13_method_106_code 16 = .ok (.iload_n 1, 1) := by decide +kernel
theorem d_Model_both_17 : decode prog_13_method_106_code 17 = .ok (.iload_n 2, 1) := by decide +kernel
theorem d_Model_both_18 : decode prog_13_method_106_code 18 = .ok (.if_icmp .ne 5, 3) := by decide +kernel
theorem d_Model_both_23 : decode prog_13_method_106_code 23 = .ok (.aload_n 0, 1) := by decide +kernel
theorem d_Model_both_24 : decode prog_13_method_106_code 24 = .ok (.iload_n 1, 1) := by decide +kernel
theorem d_Model_both_25 : decode prog_13_method_106_code 25 = .ok (.invokevirtual 547, 3) := by decide +kernel
theorem d_Model_both_28 : decode prog_13_method_106_code 28 = .ok (.istore_n 3, 1) := by decide +kernel
theorem d_Model_both_29 : decode prog_13_method_106_code 29 = .ok (.aload_n 0, 1) := by decide +kernel
theorem d_Model_both_30 : decode prog_13_method_106_code 30 = .ok (.iload_n 2, 1) := by decide +kernel
theorem d_Model_both_31 : decode prog_13_method_106_code 31 = .ok (.invokevirtual 547, 3) := by decide +kernel
theorem d_Model_both_34 : decode prog_13_method_106_code 34 = .ok (.istore 4, 2) := by decide +kernel
theorem d_Model_both_36 : decode prog_13_method_106_code 36 = .ok (.iconst 0, 1) := by decide +kernel
theorem d_Model_both_37 : decode prog_13_method_106_code 37 = .ok (.istore 5, 2) := by decide +kernel
theorem d_Model_both_39 : decode prog_13_method_106_code 39 = .ok (.aload_n 0, 1) := by decide +kernel
theorem d_Model_both_40 : decode prog_13_method_106_code 40 = .ok (.invokevirtual 510, 3) := by decide +kernel
theorem d_Model_both_43 : decode prog_13_method_106_code 43 = .ok (.iconst 0, 1) := by decide +kernel
theorem d_Model_both_44 : decode prog_13_method_106_code 44 = .ok (.istore 6, 2) := by decide +kernel
theorem d_Model_both_46 : decode prog_13_method_106_code 46 = .ok (.iload 6, 2) := by decide +kernel
theorem d_Model_both_48 : decode prog_13_method_106_code 48 = .ok (.bipush 20, 2) := by decide +kernel
theorem d_Model_both_50 : decode prog_13_method_106_code 50 = .ok (.if_icmp .gt 118, 3) := by decide +kernel
theorem d_Model_both_168 : decode prog_13_method_106_code 168 = .ok (.aload_n 0, 1) := by decide +kernel
theorem d_Model_both_169 : decode prog_13_method_106_code 169 = .ok (.invokevirtual 495, 3) := by decide +kernel
theorem d_Model_both_172 : decode prog_13_method_106_code 172 = .ok (.iload 5, 2) := by decide +kernel
theorem d_Model_both_174 : decode prog_13_method_106_code 174 = .ok (.ireturn, 1) := by decide +kernel
theorem d_Model_both_53 : decode prog_13_method_106_code 53 = .ok (.iload 5, 2) := by decide +kernel
theorem d_Model_both_55 : decode prog_13_method_106_code 55 = .ok (.ifCond .ne 113, 3) := by decide +kernel
theorem d_Model_both_58 : decode prog_13_method_106_code 58 = .ok (.iconst 0, 1) := by decide +kernel
theorem d_Model_both_59 : decode prog_13_method_106_code 59 = .ok (.istore 7, 2) := by decide +kernel
theorem d_Model_both_61 : decode prog_13_method_106_code 61 = .ok (.iload 7, 2) := by decide +kernel
theorem d_Model_both_63 : decode prog_13_method_106_code 63 = .ok (.bipush 20, 2) := by decide +kernel
theorem d_Model_both_65 : decode prog_13_method_106_code 65 = .ok (.if_icmp .gt 97, 3) := by decide +kernel
theorem d_Model_both_162 : decode prog_13_method_106_code 162 = .ok (.iinc 6 1, 3) := by decide +kernel
theorem d_Model_both_165 : decode prog_13_method_106_code 165 = .ok (.goto (-119), 3) := by decide +kernel
theorem d_Model_both_68 : decode prog_13_method_106_code 68 = .ok (.iload 5, 2) := by decide +kernel
theorem d_Model_both_70 : decode prog_13_method_106_code 70 = .ok (.ifCond .ne 92, 3) := by decide +kernel
theorem d_Model_both_73 : decode prog_13_method_106_code 73 = .ok (.iload_n 3, 1) := by decide +kernel
theorem d_Model_both_74 : decode prog_13_method_106_code 74 = .ok (.iload 4, 2) := by decide +kernel
theorem d_Model_both_76 : decode prog_13_method_106_code 76 = .ok (.if_icmp .eq 13, 3) := by decide +kernel
theorem d_Model_both_89 : decode prog_13_method_106_code 89 = .ok (.iload 6, 2) := by decide +kernel
theorem d_Model_both_91 : decode prog_13_method_106_code 91 = .ok (.iload 7, 2) := by decide +kernel
theorem d_Model_both_93 : decode prog_13_method_106_code 93 = .ok (.if_icmp .eq 6, 3) := by decide +kernel
theorem d_Model_both_99 : decode prog_13_method_106_code 99 = .ok (.aload_n 0, 1) := by decide +kernel
theorem d_Model_both_100 : decode prog_13_method_106_code 100 = .ok (.invokevirtual 495, 3) := by decide +kernel
theorem d_Model_both_103 : decode prog_13_method_106_code 103 = .ok (.aload_n 0, 1) := by decide +kernel
theorem d_Model_both_104 : decode prog_13_method_106_code 104 = .ok (.iload_n 3, 1) := by decide +kernel
theorem d_Model_both_105 : decode prog_13_method_106_code 105 = .ok (.iload 6, 2) := by decide +kernel
theorem d_Model_both_107 : decode prog_13_method_106_code 107 = .ok (.invokevirtual 536, 3) := by decide +kernel
theorem d_Model_both_110 : decode prog_13_method_106_code 110 = .ok (.aload_n 0, 1) := by decide +kernel
theorem d_Model_both_111 : decode prog_13_method_106_code 111 = .ok (.iload 4, 2) := by decide +kernel
theorem d_Model_both_113 : decode prog_13_method_106_code 113 = .ok (.iload 7, 2) := by decide +kernel
theorem d_Model_both_115 : decode prog_13_method_106_code 115 = .ok (.invokevirtual 536, 3) := by decide +kernel
theorem d_Model_both_118 : decode prog_13_method_106_code 118 = .ok (.aload_n 0, 1) := by decide +kernel
theorem d_Model_both_119 : decode prog_13_method_106_code 119 = .ok (.invokevirtual 434, 3) := by decide +kernel
theorem d_Model_both_122 : decode prog_13_method_106_code 122 = .ok (.istore 8, 2) := by decide +kernel
theorem d_Model_both_124 : decode prog_13_method_106_code 124 = .ok (.aload_n 0, 1) := by decide +kernel
theorem d_Model_both_125 : decode prog_13_method_106_code 125 = .ok (.iload_n 1, 1) := by decide +kernel
theorem d_Model_both_126 : decode prog_13_method_106_code 126 = .ok (.aload_n 0, 1) := by decide +kernel
theorem d_Model_both_127 : decode prog_13_method_106_code 127 = .ok (.getfield 161, 3) := by decide +kernel
theorem d_Model_both_130 : decode prog_13_method_106_code 130 = .ok (.iload_n 3, 1) := by decide +kernel
theorem d_Model_both_131 : decode prog_13_method_106_code 131 = .ok (.iaload, 1) := by decide +kernel
theorem d_Model_both_132 : decode prog_13_method_106_code 132 = .ok (.invokevirtual 550, 3) := by decide +kernel
theorem d_Model_both_135 : decode prog_13_method_106_code 135 = .ok (.ifCond .eq 21, 3) := by decide +kernel
theorem d_Model_both_156 : decode prog_13_method_106_code 156 = .ok (.iinc 7 1, 3) := by decide +kernel
theorem d_Model_both_159 : decode prog_13_method_106_code 159 = .ok (.goto (-98), 3) := by decide +kernel
theorem d_Model_both_138 : decode prog_13_method_106_code 138 = .ok (.aload_n 0, 1) := by decide +kernel
theorem d_Model_both_139 : decode prog_13_method_106_code 139 = .ok (.iload_n 2, 1) := by decide +kernel
theorem d_Model_both_140 : decode prog_13_method_106_code 140 = .ok (.aload_n 0, 1) := by decide +kernel
theorem d_Model_both_141 : decode prog_13_method_106_code 141 = .ok (.getfield 161, 3) := by decide +kernel
theorem d_Model_both_144 : decode prog_13_method_106_code 144 = .ok (.iload 4, 2) := by decide +kernel
theorem d_Model_both_146 : decode prog_13_method_106_code 146 = .ok (.iaload, 1) := by decide +kernel
theorem d_Model_both_147 : decode prog_13_method_106_code 147 = .ok (.invokevirtual 550, 3) := by decide +kernel
theorem d_Model_both_150 : decode prog_13_method_106_code 150 = .ok (.ifCond .eq 6, 3) := by decide +kernel
theorem d_Model_both_153 : decode prog_13_method_106_code 153 = .ok (.iconst 1, 1) := by decide +kernel
theorem d_Model_both_154 : decode prog_13_method_106_code 154 = .ok (.istore 5, 2) := by decide +kernel
theorem d_Model_both_96 : decode prog_13_method_106_code 96 = .ok (.goto 60, 3) := by decide +kernel
theorem d_Model_both_79 : decode prog_13_method_106_code 79 = .ok (.aload_n 0, 1) := by decide +kernel
theorem d_Model_both_80 : decode prog_13_method_106_code 80 = .ok (.iload_n 3, 1) := by decide +kernel
theorem d_Model_both_81 : decode prog_13_method_106_code 81 = .ok (.invokevirtual 418, 3) := by decide +kernel
theorem d_Model_both_84 : decode prog_13_method_106_code 84 = .ok (.iload 4, 2) := by decide +kernel
theorem d_Model_both_86 : decode prog_13_method_106_code 86 = .ok (.if_icmp .ne 13, 3) := by decide +kernel
set_option maxHeartbeats 4000000 in
set_option maxRecDepth 100000 in
theorem c_M_both (l : Launch) (D : va_G) (y : Nat → ClassId) (mo : Nat) (ma : Nat → Nat) (t1 : Nat) (i2 : Int32) (i3 : Int32) (i4 : Int32) (i5 : Int32) (i6 : Int32) (i7 : Int32) (i8 : Int32) (i42 : Int32) (i49 : Int32) (i51 : Int32) (i53 : Int32) (i54 : Int32) (i59 : Int32) (i61 : Int32) (i64 : Int32) (i66 : Int32) (t67 : Nat) (i76 : Int64) (i78 : Int32) (g43 : Nat → Int32) (g45 : Nat → Int32) (g46 : Nat → Int32) (g48 : Nat → Int32) (g62 : Nat → Int32) (g63 : Nat → Int32) (g68 : Nat → Int32) (v1 : Int32) (v2 : Int32) (c0 : Nat) (dy : Nat) (c2 : Nat) (hc0 : g43 4 = nI c0) (bc0 : c0 ≤ 9) (hL : ¬ g45 7 = 0) (hS : ∀ j, j < 9 → g46 (54 + 6 * j) = 2 → ¬ g46 (54 + 6 * j + 1) = 0) (hG : ∀ j, j < 9 → g46 (54 + 6 * j + 5) = -1 ∨ ∃ q, q < 9 ∧ g46 (54 + 6 * j + 5) = nI q) (hD : g62 0 = nI dy) (bD : dy ≤ 999) (hc2 : g43 6 = nI c2) (bc2 : c2 ≤ 16) (hTh : ∀ j, j < 16 → (∃ q, q < 6 ∧ g48 (112 + 7 * j) = nI q) ∧ ∃ q, q < 9 ∧ g48 (112 + 7 * j + 1) = nI q) : CT l D y ⟨"NineBoardsModel", "both", "(II)I"⟩ prog_13_method_106_code 9 (some .int) ({ frames := 3, cells := 0, slots := 0, locals := 74 } : Room) [.ref mo, .int v1, .int v2] [MB mo ma (nI t1) i2 i3 i4 i5 i6 i7 i8 i42 i49 i51 i53 i54 i59 i61 i64 i66 (nI t67) i76 i78, (ma 43, .inl (y 0, 8, .inl g43)), (ma 45, .inl (y 0, 14, .inl g45)), (ma 46, .inl (y 0, 108, .inl g46)), (ma 48, .inl (y 0, 224, .inl g48)), (ma 62, .inl (y 0, 63, .inl g62)), (ma 63, .inl (y 0, 9, .inl g63)), (ma 68, .inl (y 0, 63, .inl g68))] (QI D [MB mo ma (nI t1) i2 i3 i4 i5 i6 i7 i8 i42 i49 i51 i53 i54 i59 i61 i64 i66 (nI t67) i76 i78, (ma 43, .inl (y 0, 8, .inl g43)), (ma 45, .inl (y 0, 14, .inl g45)), (ma 46, .inl (y 0, 108, .inl g46)), (ma 48, .inl (y 0, 224, .inl g48)), (ma 62, .inl (y 0, 63, .inl g62)), (ma 63, .inl (y 0, 9, .inl g63)), (ma 68, .inl (y 0, 63, .inl g68))] (fun (r : Int32) (u : (Nat → Int32) × (Nat → Int32) × (Nat → Int32)) => u.1 0 = nI dy) (fun u => [MB mo ma (nI t1) i2 i3 i4 i5 i6 i7 i8 i42 i49 i51 i53 i54 i59 i61 i64 i66 (nI t67) i76 i78, (ma 43, .inl (y 0, 8, .inl g43)), (ma 45, .inl (y 0, 14, .inl g45)), (ma 46, .inl (y 0, 108, .inl g46)), (ma 48, .inl (y 0, 224, .inl g48)), (ma 62, .inl (y 0, 63, .inl u.1)), (ma 63, .inl (y 0, 9, .inl u.2.1)), (ma 68, .inl (y 0, 63, .inl u.2.2))])) := by
  refine CT.of (by decide) (nb rfl) ?_
  intro p e s m args below meth c C hr
  refine j_lv (lv' := [(0, .ref mo), (1, .int v1), (2, .int v2)]) rfl ?_
  refine j_aload_n (pc := 0) C d_Model_both_0 rfl 0 rfl ?_
  refine j_iload_n (pc := 1) C d_Model_both_1 rfl 1 rfl ?_
  refine j_callVi (pc := 2) C (c_M_isThing l D y mo ma t1 i2 i3 i4 i5 i6 i7 i8 i42 i49 i51 i53 i54 i59 i61 i64 i66 t67 i76 i78 g43 v1 c2 hc2 bc2) kw_Model_544 kv_Model_isThing 0 10 rfl rfl ⟨by decide, by decide⟩ ⟨by decide, by decide⟩ (wr := [(ma 45, .inl (y 0, 14, .inl g45)), (ma 46, .inl (y 0, 108, .inl g46)), (ma 48, .inl (y 0, 224, .inl g48)), (ma 62, .inl (y 0, 63, .inl g62)), (ma 63, .inl (y 0, 9, .inl g63)), (ma 68, .inl (y 0, 63, .inl g68))]) [0, 1] [2, 3, 4, 5, 6, 7] rfl rfl (by decide) (by decide) (by decide) (As := [.int v1]) (rest := []) rfl (nb rfl) rfl d_Model_both_2 (fun r1 _ hr1 => ?_)
  refine j_ws (ws' := [(ma 45, .inl (y 0, 14, .inl g45)), (ma 46, .inl (y 0, 108, .inl g46)), (ma 48, .inl (y 0, 224, .inl g48)), (ma 62, .inl (y 0, 63, .inl g62)), (ma 63, .inl (y 0, 9, .inl g63)), (ma 68, .inl (y 0, 63, .inl g68)), MB mo ma (nI t1) i2 i3 i4 i5 i6 i7 i8 i42 i49 i51 i53 i54 i59 i61 i64 i66 (nI t67) i76 i78, (ma 43, .inl (y 0, 8, .inl g43))]) rfl ?_
  rcases hr1 with rfl | ⟨rfl, j2, xh3, rfl⟩
  · refine j_if_eqT (pc := 5) C (tgt := 21) d_Model_both_5 (by decide) (by decide) ?_
    refine j_iconst (pc := 21) C (v := (-1)) d_Model_both_21 (by decide) ?_
    exact j_iret (pc := 22) C hr rfl (g62, g63, g68) hD [6, 7, 0, 1, 2, 3, 4, 5] rfl (by decide) (by decide) (by decide) d_Model_both_22
  · refine j_if_eqF (pc := 5) C (tgt := 21) d_Model_both_5 (by decide) (by decide) ?_
    refine j_aload_n (pc := 8) C d_Model_both_8 rfl 0 rfl ?_
    refine j_iload_n (pc := 9) C d_Model_both_9 rfl 2 rfl ?_
    refine j_callVi (pc := 10) C (c_M_isThing l D y mo ma t1 i2 i3 i4 i5 i6 i7 i8 i42 i49 i51 i53 i54 i59 i61 i64 i66 t67 i76 i78 g43 v2 c2 hc2 bc2) kw_Model_544 kv_Model_isThing 0 10 rfl rfl ⟨by decide, by decide⟩ ⟨by decide, by decide⟩ (wr := [(ma 45, .inl (y 0, 14, .inl g45)), (ma 46, .inl (y 0, 108, .inl g46)), (ma 48, .inl (y 0, 224, .inl g48)), (ma 62, .inl (y 0, 63, .inl g62)), (ma 63, .inl (y 0, 9, .inl g63)), (ma 68, .inl (y 0, 63, .inl g68))]) [6, 7] [0, 1, 2, 3, 4, 5] rfl rfl (by decide) (by decide) (by decide) (As := [.int v2]) (rest := []) rfl (nb rfl) rfl d_Model_both_10 (fun r4 _ hr4 => ?_)
    refine j_ws (ws' := [(ma 45, .inl (y 0, 14, .inl g45)), (ma 46, .inl (y 0, 108, .inl g46)), (ma 48, .inl (y 0, 224, .inl g48)), (ma 62, .inl (y 0, 63, .inl g62)), (ma 63, .inl (y 0, 9, .inl g63)), (ma 68, .inl (y 0, 63, .inl g68)), MB mo ma (nI t1) i2 i3 i4 i5 i6 i7 i8 i42 i49 i51 i53 i54 i59 i61 i64 i66 (nI t67) i76 i78, (ma 43, .inl (y 0, 8, .inl g43))]) rfl ?_
    rcases hr4 with rfl | ⟨rfl, j5, xh6, rfl⟩
    · refine j_if_eqT (pc := 13) C (tgt := 21) d_Model_both_13 (by decide) (by decide) ?_
      refine j_iconst (pc := 21) C (v := (-1)) d_Model_both_21 (by decide) ?_
      exact j_iret (pc := 22) C hr rfl (g62, g63, g68) hD [6, 7, 0, 1, 2, 3, 4, 5] rfl (by decide) (by decide) (by decide) d_Model_both_22
    · refine j_if_eqF (pc := 13) C (tgt := 21) d_Model_both_13 (by decide) (by decide) ?_
      refine j_iload_n (pc := 16) C d_Model_both_16 rfl 1 rfl ?_
      refine j_iload_n (pc := 17) C d_Model_both_17 rfl 2 rfl ?_
      by_cases c7 : ¬ j2 = j5
      · refine j_icmp_neT (pc := 18) C (tgt := 23) d_Model_both_18 (by decide) (show ¬ nI j2 = nI j5 from fun e => absurd ((nI_eq (by omega) (by omega)).mp e) (by omega)) ?_
        refine j_aload_n (pc := 23) C d_Model_both_23 rfl 0 rfl ?_
        refine j_iload_n (pc := 24) C d_Model_both_24 rfl 1 rfl ?_
        refine j_callVi (pc := 25) C (c_M_gateFor l D y mo ma t1 i2 i3 i4 i5 i6 i7 i8 i42 i49 i51 i53 i54 i59 i61 i64 i66 t67 i76 i78 g48 j2 (by omega) (by omega)) kw_Model_547 kv_Model_gateFor 0 10 rfl rfl ⟨by decide, by decide⟩ ⟨by decide, by decide⟩ (wr := [(ma 45, .inl (y 0, 14, .inl g45)), (ma 46, .inl (y 0, 108, .inl g46)), (ma 62, .inl (y 0, 63, .inl g62)), (ma 63, .inl (y 0, 9, .inl g63)), (ma 68, .inl (y 0, 63, .inl g68)), (ma 43, .inl (y 0, 8, .inl g43))]) [6, 2] [0, 1, 3, 4, 5, 7] rfl rfl (by decide) (by decide) (by decide) (As := [.int (nI j2)]) (rest := []) rfl (nb rfl) rfl d_Model_both_25 (fun r8 _ hr8 => ?_)
        refine j_ws (ws' := [(ma 45, .inl (y 0, 14, .inl g45)), (ma 46, .inl (y 0, 108, .inl g46)), (ma 62, .inl (y 0, 63, .inl g62)), (ma 63, .inl (y 0, 9, .inl g63)), (ma 68, .inl (y 0, 63, .inl g68)), (ma 43, .inl (y 0, 8, .inl g43)), MB mo ma (nI t1) i2 i3 i4 i5 i6 i7 i8 i42 i49 i51 i53 i54 i59 i61 i64 i66 (nI t67) i76 i78, (ma 48, .inl (y 0, 224, .inl g48))]) rfl ?_
        rcases hr8 with ⟨q10, xh11, rfl⟩
        · refine j_istore_n (pc := 28) C (lv' := [(3, .int (nI q10)), (0, .ref mo), (1, .int (nI j2)), (2, .int (nI j5))]) d_Model_both_28 rfl (by decide) rfl ?_
          refine j_aload_n (pc := 29) C d_Model_both_29 rfl 1 rfl ?_
          refine j_iload_n (pc := 30) C d_Model_both_30 rfl 3 rfl ?_
          refine j_callVi (pc := 31) C (c_M_gateFor l D y mo ma t1 i2 i3 i4 i5 i6 i7 i8 i42 i49 i51 i53 i54 i59 i61 i64 i66 t67 i76 i78 g48 j5 (by omega) (by omega)) kw_Model_547 kv_Model_gateFor 0 10 rfl rfl ⟨by decide, by decide⟩ ⟨by decide, by decide⟩ (wr := [(ma 45, .inl (y 0, 14, .inl g45)), (ma 46, .inl (y 0, 108, .inl g46)), (ma 62, .inl (y 0, 63, .inl g62)), (ma 63, .inl (y 0, 9, .inl g63)), (ma 68, .inl (y 0, 63, .inl g68)), (ma 43, .inl (y 0, 8, .inl g43))]) [6, 7] [0, 1, 2, 3, 4, 5] rfl rfl (by decide) (by decide) (by decide) (As := [.int (nI j5)]) (rest := []) rfl (nb rfl) rfl d_Model_both_31 (fun r12 _ hr12 => ?_)
          refine j_ws (ws' := [(ma 45, .inl (y 0, 14, .inl g45)), (ma 46, .inl (y 0, 108, .inl g46)), (ma 62, .inl (y 0, 63, .inl g62)), (ma 63, .inl (y 0, 9, .inl g63)), (ma 68, .inl (y 0, 63, .inl g68)), (ma 43, .inl (y 0, 8, .inl g43)), MB mo ma (nI t1) i2 i3 i4 i5 i6 i7 i8 i42 i49 i51 i53 i54 i59 i61 i64 i66 (nI t67) i76 i78, (ma 48, .inl (y 0, 224, .inl g48))]) rfl ?_
          rcases hr12 with ⟨q14, xh15, rfl⟩
          · refine j_istore (pc := 34) C (lv' := [(4, .int (nI q14)), (3, .int (nI q10)), (0, .ref mo), (1, .int (nI j2)), (2, .int (nI j5))]) d_Model_both_34 (by decide) rfl ?_
            refine j_iconst (pc := 36) C (v := 0) d_Model_both_36 (by decide) ?_
            refine j_istore (pc := 37) C (lv' := [(5, .int 0), (4, .int (nI q14)), (3, .int (nI q10)), (0, .ref mo), (1, .int (nI j2)), (2, .int (nI j5))]) d_Model_both_37 (by decide) rfl ?_
            refine j_aload_n (pc := 39) C d_Model_both_39 rfl 3 rfl ?_
            refine j_callVv (pc := 40) C (c_M_putsAside l D y mo ma t1 i2 i3 i4 i5 i6 i7 i8 i42 i49 i51 i53 i54 i59 i61 i64 i66 t67 i76 i78 g62 g68 dy hD) kw_Model_510 kv_Model_putsAside 0 10 rfl rfl ⟨by decide, by decide⟩ ⟨by decide, by decide⟩ (wr := [(ma 45, .inl (y 0, 14, .inl g45)), (ma 46, .inl (y 0, 108, .inl g46)), (ma 63, .inl (y 0, 9, .inl g63)), (ma 43, .inl (y 0, 8, .inl g43)), (ma 48, .inl (y 0, 224, .inl g48))]) [6, 2, 4] [0, 1, 3, 5, 7] rfl rfl (by decide) (by decide) (by decide) (As := []) (rest := []) rfl (nb rfl) rfl d_Model_both_40 (fun u16 hu17 => ?_)
            have xh18 := hu17
            refine j_ws (ws' := [(ma 45, .inl (y 0, 14, .inl g45)), (ma 46, .inl (y 0, 108, .inl g46)), (ma 63, .inl (y 0, 9, .inl g63)), (ma 43, .inl (y 0, 8, .inl g43)), (ma 48, .inl (y 0, 224, .inl g48)), MB mo ma (nI t1) i2 i3 i4 i5 i6 i7 i8 i42 i49 i51 i53 i54 i59 i61 i64 i66 (nI t67) i76 i78, (ma 62, .inl (y 0, 63, .inl g62)), (ma 68, .inl (y 0, 63, .inl u16))]) rfl ?_
            refine j_iconst (pc := 43) C (v := 0) d_Model_both_43 (by decide) ?_
            refine j_istore (pc := 44) C (lv' := [(6, .int 0), (5, .int 0), (4, .int (nI q14)), (3, .int (nI q10)), (0, .ref mo), (1, .int (nI j2)), (2, .int (nI j5))]) d_Model_both_44 (by decide) rfl ?_
            refine j_loop (α := Nat × Int32 × (Nat → Int32) × (Nat → Int32)) (fun a => 21 - a.1) (fun a => (a.1 ≤ 21)) (fun a => [(ma 45, .inl (y 0, 14, .inl g45)), (ma 46, .inl (y 0, 108, .inl g46)), (ma 63, .inl (y 0, 9, .inl a.2.2.1)), (ma 43, .inl (y 0, 8, .inl g43)), (ma 48, .inl (y 0, 224, .inl g48)), MB mo ma (nI t1) i2 i3 i4 i5 i6 i7 i8 i42 i49 i51 i53 i54 i59 i61 i64 i66 (nI t67) i76 i78, (ma 62, .inl (y 0, 63, .inl a.2.2.2)), (ma 68, .inl (y 0, 63, .inl u16))]) (fun a => [(6, .int (nI a.1)), (5, .int a.2.1), (4, .int (nI q14)), (3, .int (nI q10)), (0, .ref mo), (1, .int (nI j2)), (2, .int (nI j5))]) (0, 0, g63, g62) rfl rfl (show 0 ≤ 21 by omega) ?_
            rintro ⟨iz, z261, z262, z263⟩ hP511 ih512
            have hi__ := hP511
            have hi_ : iz ≤ 21 := hi__
            refine j_ws (ws' := [(ma 45, .inl (y 0, 14, .inl g45)), (ma 46, .inl (y 0, 108, .inl g46)), (ma 63, .inl (y 0, 9, .inl z262)), (ma 43, .inl (y 0, 8, .inl g43)), (ma 48, .inl (y 0, 224, .inl g48)), MB mo ma (nI t1) i2 i3 i4 i5 i6 i7 i8 i42 i49 i51 i53 i54 i59 i61 i64 i66 (nI t67) i76 i78, (ma 62, .inl (y 0, 63, .inl z263)), (ma 68, .inl (y 0, 63, .inl u16))]) rfl ?_
            refine j_lv (lv' := [(6, .int (nI iz)), (5, .int z261), (4, .int (nI q14)), (3, .int (nI q10)), (0, .ref mo), (1, .int (nI j2)), (2, .int (nI j5))]) rfl ?_
            refine j_iload (pc := 46) C d_Model_both_46 0 rfl ?_
            refine j_bipush (pc := 48) C (v := 20) d_Model_both_48 (by decide) ?_
            by_cases c513 : 20 < iz
            · refine j_icmp_gtT (pc := 50) C (tgt := 168) d_Model_both_50 (by decide) (show nI 20 < nI iz from nI_lt (by omega) (by omega)) ?_
              refine j_aload_n (pc := 168) C d_Model_both_168 rfl 4 rfl ?_
              refine j_callVv (pc := 169) C (c_M_takesBack l D y mo ma t1 i2 i3 i4 i5 i6 i7 i8 i42 i49 i51 i53 i54 i59 i61 i64 i66 t67 i76 i78 z263 u16 dy xh18) kw_Model_495 kv_Model_takesBack 0 10 rfl rfl ⟨by decide, by decide⟩ ⟨by decide, by decide⟩ (wr := [(ma 45, .inl (y 0, 14, .inl g45)), (ma 46, .inl (y 0, 108, .inl g46)), (ma 63, .inl (y 0, 9, .inl z262)), (ma 43, .inl (y 0, 8, .inl g43)), (ma 48, .inl (y 0, 224, .inl g48))]) [5, 6, 7] [0, 1, 2, 3, 4] rfl rfl (by decide) (by decide) (by decide) (As := []) (rest := []) rfl (nb rfl) rfl d_Model_both_169 (fun u514 hu515 => ?_)
              have xh516 := hu515
              refine j_ws (ws' := [(ma 45, .inl (y 0, 14, .inl g45)), (ma 46, .inl (y 0, 108, .inl g46)), (ma 63, .inl (y 0, 9, .inl z262)), (ma 43, .inl (y 0, 8, .inl g43)), (ma 48, .inl (y 0, 224, .inl g48)), MB mo ma (nI t1) i2 i3 i4 i5 i6 i7 i8 i42 i49 i51 i53 i54 i59 i61 i64 i66 (nI t67) i76 i78, (ma 62, .inl (y 0, 63, .inl u514)), (ma 68, .inl (y 0, 63, .inl u16))]) rfl ?_
              refine j_iload (pc := 172) C d_Model_both_172 1 rfl ?_
              exact j_iret (pc := 174) C hr rfl (u514, z262, u16) xh516 [5, 3, 0, 1, 4, 6, 2, 7] rfl (by decide) (by decide) (by decide) d_Model_both_174
            · refine j_icmp_gtF (pc := 50) C (tgt := 168) d_Model_both_50 (by decide) (show ¬ nI 20 < nI iz from nI_nlt (by omega) (by omega)) ?_
              refine j_iload (pc := 53) C d_Model_both_53 1 rfl ?_
              refine j_if_ne (pc := 55) C (tgt := 168) d_Model_both_55 (by decide) (fun c517 => ?_) (fun c517 => ?_)
              · refine j_aload_n (pc := 168) C d_Model_both_168 rfl 4 rfl ?_
                refine j_callVv (pc := 169) C (c_M_takesBack l D y mo ma t1 i2 i3 i4 i5 i6 i7 i8 i42 i49 i51 i53 i54 i59 i61 i64 i66 t67 i76 i78 z263 u16 dy xh18) kw_Model_495 kv_Model_takesBack 0 10 rfl rfl ⟨by decide, by decide⟩ ⟨by decide, by decide⟩ (wr := [(ma 45, .inl (y 0, 14, .inl g45)), (ma 46, .inl (y 0, 108, .inl g46)), (ma 63, .inl (y 0, 9, .inl z262)), (ma 43, .inl (y 0, 8, .inl g43)), (ma 48, .inl (y 0, 224, .inl g48))]) [5, 6, 7] [0, 1, 2, 3, 4] rfl rfl (by decide) (by decide) (by decide) (As := []) (rest := []) rfl (nb rfl) rfl d_Model_both_169 (fun u518 hu519 => ?_)
                have xh520 := hu519
                refine j_ws (ws' := [(ma 45, .inl (y 0, 14, .inl g45)), (ma 46, .inl (y 0, 108, .inl g46)), (ma 63, .inl (y 0, 9, .inl z262)), (ma 43, .inl (y 0, 8, .inl g43)), (ma 48, .inl (y 0, 224, .inl g48)), MB mo ma (nI t1) i2 i3 i4 i5 i6 i7 i8 i42 i49 i51 i53 i54 i59 i61 i64 i66 (nI t67) i76 i78, (ma 62, .inl (y 0, 63, .inl u518)), (ma 68, .inl (y 0, 63, .inl u16))]) rfl ?_
                refine j_iload (pc := 172) C d_Model_both_172 1 rfl ?_
                exact j_iret (pc := 174) C hr rfl (u518, z262, u16) xh520 [5, 3, 0, 1, 4, 6, 2, 7] rfl (by decide) (by decide) (by decide) d_Model_both_174
              · refine j_iconst (pc := 58) C (v := 0) d_Model_both_58 (by decide) ?_
                refine j_istore (pc := 59) C (lv' := [(7, .int 0), (6, .int (nI iz)), (5, .int z261), (4, .int (nI q14)), (3, .int (nI q10)), (0, .ref mo), (1, .int (nI j2)), (2, .int (nI j5))]) d_Model_both_59 (by decide) rfl ?_
                refine j_loop (α := Nat × (Nat → Int32) × (Nat → Int32) × Int32) (fun a => 21 - a.1) (fun a => (a.1 ≤ 21)) (fun a => [(ma 45, .inl (y 0, 14, .inl g45)), (ma 46, .inl (y 0, 108, .inl g46)), (ma 63, .inl (y 0, 9, .inl a.2.1)), (ma 43, .inl (y 0, 8, .inl g43)), (ma 48, .inl (y 0, 224, .inl g48)), MB mo ma (nI t1) i2 i3 i4 i5 i6 i7 i8 i42 i49 i51 i53 i54 i59 i61 i64 i66 (nI t67) i76 i78, (ma 62, .inl (y 0, 63, .inl a.2.2.1)), (ma 68, .inl (y 0, 63, .inl u16))]) (fun a => [(7, .int (nI a.1)), (6, .int (nI iz)), (5, .int a.2.2.2), (4, .int (nI q14)), (3, .int (nI q10)), (0, .ref mo), (1, .int (nI j2)), (2, .int (nI j5))]) (0, z262, z263, z261) rfl rfl (show 0 ≤ 21 by omega) ?_
                rintro ⟨iy, z599, z600, z601⟩ hP680 ih681
                have hy__ := hP680
                have hy_ : iy ≤ 21 := hy__
                refine j_ws (ws' := [(ma 45, .inl (y 0, 14, .inl g45)), (ma 46, .inl (y 0, 108, .inl g46)), (ma 63, .inl (y 0, 9, .inl z599)), (ma 43, .inl (y 0, 8, .inl g43)), (ma 48, .inl (y 0, 224, .inl g48)), MB mo ma (nI t1) i2 i3 i4 i5 i6 i7 i8 i42 i49 i51 i53 i54 i59 i61 i64 i66 (nI t67) i76 i78, (ma 62, .inl (y 0, 63, .inl z600)), (ma 68, .inl (y 0, 63, .inl u16))]) rfl ?_
                refine j_lv (lv' := [(7, .int (nI iy)), (6, .int (nI iz)), (5, .int z601), (4, .int (nI q14)), (3, .int (nI q10)), (0, .ref mo), (1, .int (nI j2)), (2, .int (nI j5))]) rfl ?_
                refine j_iload (pc := 61) C d_Model_both_61 0 rfl ?_
                refine j_bipush (pc := 63) C (v := 20) d_Model_both_63 (by decide) ?_
                by_cases c682 : 20 < iy
                · refine j_icmp_gtT (pc := 65) C (tgt := 162) d_Model_both_65 (by decide) (show nI 20 < nI iy from nI_lt (by omega) (by omega)) ?_
                  refine j_iinc (pc := 162) C (v := nI (iz + 1)) (lv' := [(6, .int (nI (iz + 1))), (7, .int (nI iy)), (5, .int z601), (4, .int (nI q14)), (3, .int (nI q10)), (0, .ref mo), (1, .int (nI j2)), (2, .int (nI j5))]) d_Model_both_162 1 rfl (nI_add _ _) (by decide) rfl ?_
                  refine j_goto (pc := 165) C (tgt := 46) d_Model_both_165 (by decide) ?_
                  refine j_locs (lv' := [(6, .int (nI (iz + 1))), (5, .int z601), (4, .int (nI q14)), (3, .int (nI q10)), (0, .ref mo), (1, .int (nI j2)), (2, .int (nI j5))]) [0, 2, 3, 4, 5, 6, 7] rfl ?_
                  exact ih512 ((iz + 1), z601, z599, z600) (show (iz + 1) ≤ 21 by omega) (show 21 - (iz + 1) < 21 - iz by omega)
                · refine j_icmp_gtF (pc := 65) C (tgt := 162) d_Model_both_65 (by decide) (show ¬ nI 20 < nI iy from nI_nlt (by omega) (by omega)) ?_
                  refine j_iload (pc := 68) C d_Model_both_68 2 rfl ?_
                  refine j_if_ne (pc := 70) C (tgt := 162) d_Model_both_70 (by decide) (fun c683 => ?_) (fun c683 => ?_)
                  · refine j_iinc (pc := 162) C (v := nI (iz + 1)) (lv' := [(6, .int (nI (iz + 1))), (7, .int (nI iy)), (5, .int z601), (4, .int (nI q14)), (3, .int (nI q10)), (0, .ref mo), (1, .int (nI j2)), (2, .int (nI j5))]) d_Model_both_162 1 rfl (nI_add _ _) (by decide) rfl ?_
                    refine j_goto (pc := 165) C (tgt := 46) d_Model_both_165 (by decide) ?_
                    refine j_locs (lv' := [(6, .int (nI (iz + 1))), (5, .int z601), (4, .int (nI q14)), (3, .int (nI q10)), (0, .ref mo), (1, .int (nI j2)), (2, .int (nI j5))]) [0, 2, 3, 4, 5, 6, 7] rfl ?_
                    exact ih512 ((iz + 1), z601, z599, z600) (show (iz + 1) ≤ 21 by omega) (show 21 - (iz + 1) < 21 - iz by omega)
                  · refine j_iload_n (pc := 73) C d_Model_both_73 rfl 4 rfl ?_
                    refine j_iload (pc := 74) C d_Model_both_74 3 rfl ?_
                    by_cases c684 : q10 = q14
                    · refine j_icmp_eqT (pc := 76) C (tgt := 89) d_Model_both_76 (by decide) (show nI q10 = nI q14 from (nI_eq (by omega) (by omega)).mpr (by omega)) ?_
                      refine j_iload (pc := 89) C d_Model_both_89 1 rfl ?_
                      refine j_iload (pc := 91) C d_Model_both_91 0 rfl ?_
                      by_cases c685 : iz = iy
                      · refine j_icmp_eqT (pc := 93) C (tgt := 99) d_Model_both_93 (by decide) (show nI iz = nI iy from (nI_eq (by omega) (by omega)).mpr (by omega)) ?_
                        refine j_aload_n (pc := 99) C d_Model_both_99 rfl 5 rfl ?_
                        refine j_callVv (pc := 100) C (c_M_takesBack l D y mo ma t1 i2 i3 i4 i5 i6 i7 i8 i42 i49 i51 i53 i54 i59 i61 i64 i66 t67 i76 i78 z600 u16 dy xh18) kw_Model_495 kv_Model_takesBack 0 10 rfl rfl ⟨by decide, by decide⟩ ⟨by decide, by decide⟩ (wr := [(ma 45, .inl (y 0, 14, .inl g45)), (ma 46, .inl (y 0, 108, .inl g46)), (ma 63, .inl (y 0, 9, .inl z599)), (ma 43, .inl (y 0, 8, .inl g43)), (ma 48, .inl (y 0, 224, .inl g48))]) [5, 6, 7] [0, 1, 2, 3, 4] rfl rfl (by decide) (by decide) (by decide) (As := []) (rest := []) rfl (nb rfl) rfl d_Model_both_100 (fun u686 hu687 => ?_)
                        have xh688 := hu687
                        refine j_ws (ws' := [(ma 45, .inl (y 0, 14, .inl g45)), (ma 46, .inl (y 0, 108, .inl g46)), (ma 63, .inl (y 0, 9, .inl z599)), (ma 43, .inl (y 0, 8, .inl g43)), (ma 48, .inl (y 0, 224, .inl g48)), MB mo ma (nI t1) i2 i3 i4 i5 i6 i7 i8 i42 i49 i51 i53 i54 i59 i61 i64 i66 (nI t67) i76 i78, (ma 62, .inl (y 0, 63, .inl u686)), (ma 68, .inl (y 0, 63, .inl u16))]) rfl ?_
                        refine j_aload_n (pc := 103) C d_Model_both_103 rfl 5 rfl ?_
                        refine j_iload_n (pc := 104) C d_Model_both_104 rfl 4 rfl ?_
                        refine j_iload (pc := 105) C d_Model_both_105 1 rfl ?_
                        refine j_callVv (pc := 107) C (c_M_boardsAre l D y mo ma t1 i2 i3 i4 i5 i6 i7 i8 i42 i49 i51 i53 i54 i59 i61 i64 i66 t67 i76 i78 g46 u686 q10 (nI iz) dy (by omega) xh688 (by omega)) kw_Model_536 kv_Model_boardsAre 0 10 rfl rfl ⟨by decide, by decide⟩ ⟨by decide, by decide⟩ (wr := [(ma 45, .inl (y 0, 14, .inl g45)), (ma 63, .inl (y 0, 9, .inl z599)), (ma 43, .inl (y 0, 8, .inl g43)), (ma 48, .inl (y 0, 224, .inl g48)), (ma 68, .inl (y 0, 63, .inl u16))]) [5, 1, 6] [0, 2, 3, 4, 7] rfl rfl (by decide) (by decide) (by decide) (As := [.int (nI q10), .int (nI iz)]) (rest := []) rfl (nb rfl) rfl d_Model_both_107 (fun u689 hu690 => ?_)
                        have xh691 := hu690
                        refine j_ws (ws' := [(ma 45, .inl (y 0, 14, .inl g45)), (ma 63, .inl (y 0, 9, .inl z599)), (ma 43, .inl (y 0, 8, .inl g43)), (ma 48, .inl (y 0, 224, .inl g48)), (ma 68, .inl (y 0, 63, .inl u16)), MB mo ma (nI t1) i2 i3 i4 i5 i6 i7 i8 i42 i49 i51 i53 i54 i59 i61 i64 i66 (nI t67) i76 i78, (ma 46, .inl (y 0, 108, .inl g46)), (ma 62, .inl (y 0, 63, .inl u689))]) rfl ?_
                        refine j_aload_n (pc := 110) C d_Model_both_110 rfl 5 rfl ?_
                        refine j_iload (pc := 111) C d_Model_both_111 3 rfl ?_
                        refine j_iload (pc := 113) C d_Model_both_113 0 rfl ?_
                        refine j_callVv (pc := 115) C (c_M_boardsAre l D y mo ma t1 i2 i3 i4 i5 i6 i7 i8 i42 i49 i51 i53 i54 i59 i61 i64 i66 t67 i76 i78 g46 u689 q14 (nI iy) dy (by omega) xh691 (by omega)) kw_Model_536 kv_Model_boardsAre 0 10 rfl rfl ⟨by decide, by decide⟩ ⟨by decide, by decide⟩ (wr := [(ma 45, .inl (y 0, 14, .inl g45)), (ma 63, .inl (y 0, 9, .inl z599)), (ma 43, .inl (y 0, 8, .inl g43)), (ma 48, .inl (y 0, 224, .inl g48)), (ma 68, .inl (y 0, 63, .inl u16))]) [5, 6, 7] [0, 1, 2, 3, 4] rfl rfl (by decide) (by decide) (by decide) (As := [.int (nI q14), .int (nI iy)]) (rest := []) rfl (nb rfl) rfl d_Model_both_115 (fun u692 hu693 => ?_)
                        have xh694 := hu693
                        refine j_ws (ws' := [(ma 45, .inl (y 0, 14, .inl g45)), (ma 63, .inl (y 0, 9, .inl z599)), (ma 43, .inl (y 0, 8, .inl g43)), (ma 48, .inl (y 0, 224, .inl g48)), (ma 68, .inl (y 0, 63, .inl u16)), MB mo ma (nI t1) i2 i3 i4 i5 i6 i7 i8 i42 i49 i51 i53 i54 i59 i61 i64 i66 (nI t67) i76 i78, (ma 46, .inl (y 0, 108, .inl g46)), (ma 62, .inl (y 0, 63, .inl u692))]) rfl ?_
                        refine j_aload_n (pc := 118) C d_Model_both_118 rfl 5 rfl ?_
                        refine j_callVi (pc := 119) C (c_M_flowsNow l D y mo ma t1 i2 i3 i4 i5 i6 i7 i8 i42 i49 i51 i53 i54 i59 i61 i64 i66 t67 i76 i78 g43 g45 g46 u692 z599 c0 hc0 bc0 hL hS) kw_Model_434 kv_Model_flowsNow 0 10 rfl rfl ⟨by decide, by decide⟩ ⟨by decide, by decide⟩ (wr := [(ma 48, .inl (y 0, 224, .inl g48)), (ma 68, .inl (y 0, 63, .inl u16))]) [5, 2, 0, 6, 7, 1] [3, 4] rfl rfl (by decide) (by decide) (by decide) (As := []) (rest := []) rfl (nb rfl) rfl d_Model_both_119 (fun r695 u696 hr695 => ?_)
                        refine j_ws (ws' := [(ma 48, .inl (y 0, 224, .inl g48)), (ma 68, .inl (y 0, 63, .inl u16)), MB mo ma (nI t1) i2 i3 i4 i5 i6 i7 i8 i42 i49 i51 i53 i54 i59 i61 i64 i66 (nI t67) i76 i78, (ma 43, .inl (y 0, 8, .inl g43)), (ma 45, .inl (y 0, 14, .inl g45)), (ma 46, .inl (y 0, 108, .inl g46)), (ma 62, .inl (y 0, 63, .inl u692)), (ma 63, .inl (y 0, 9, .inl u696))]) rfl ?_
                        refine j_istore (pc := 122) C (lv' := [(8, .int r695), (7, .int (nI iy)), (6, .int (nI iz)), (5, .int z601), (4, .int (nI q14)), (3, .int (nI q10)), (0, .ref mo), (1, .int (nI j2)), (2, .int (nI j5))]) d_Model_both_122 (by decide) rfl ?_
                        refine j_aload_n (pc := 124) C d_Model_both_124 rfl 6 rfl ?_
                        refine j_iload_n (pc := 125) C d_Model_both_125 rfl 7 rfl ?_
                        refine j_aload_n (pc := 126) C d_Model_both_126 rfl 6 rfl ?_
                        refine j_get (pc := 127) C gf_Model_161 2 rfl rfl d_Model_both_127 ?_
                        refine j_iload_n (pc := 130) C d_Model_both_130 rfl 5 rfl ?_
                        refine j_iald (pc := 131) C 7 rfl (v := u696 q10) (vp_in_nI (by omega) (by decide)) (by rw [nI_clamp (by omega)]) d_Model_both_131 ?_
                        refine j_callVi (pc := 132) C (c_M_isServed l D y mo ma t1 i2 i3 i4 i5 i6 i7 i8 i42 i49 i51 i53 i54 i59 i61 i64 i66 t67 i76 i78 g48 u692 j2 (u696 q10) (by omega)) kw_Model_550 kv_Model_isServed 0 10 rfl rfl ⟨by decide, by decide⟩ ⟨by decide, by decide⟩ (wr := [(ma 68, .inl (y 0, 63, .inl u16)), (ma 43, .inl (y 0, 8, .inl g43)), (ma 45, .inl (y 0, 14, .inl g45)), (ma 46, .inl (y 0, 108, .inl g46)), (ma 63, .inl (y 0, 9, .inl u696))]) [2, 0, 6] [1, 3, 4, 5, 7] rfl rfl (by decide) (by decide) (by decide) (As := [.int (nI j2), .int (u696 q10)]) (rest := []) rfl (nb rfl) rfl d_Model_both_132 (fun r697 _ hr697 => ?_)
                        have xh698 := hr697
                        refine j_ws (ws' := [(ma 68, .inl (y 0, 63, .inl u16)), (ma 43, .inl (y 0, 8, .inl g43)), (ma 45, .inl (y 0, 14, .inl g45)), (ma 46, .inl (y 0, 108, .inl g46)), (ma 63, .inl (y 0, 9, .inl u696)), MB mo ma (nI t1) i2 i3 i4 i5 i6 i7 i8 i42 i49 i51 i53 i54 i59 i61 i64 i66 (nI t67) i76 i78, (ma 48, .inl (y 0, 224, .inl g48)), (ma 62, .inl (y 0, 63, .inl u692))]) rfl ?_
                        refine j_if_eq (pc := 135) C (tgt := 156) d_Model_both_135 (by decide) (fun c699 => ?_) (fun c699 => ?_)
                        · refine j_iinc (pc := 156) C (v := nI (iy + 1)) (lv' := [(7, .int (nI (iy + 1))), (8, .int r695), (6, .int (nI iz)), (5, .int z601), (4, .int (nI q14)), (3, .int (nI q10)), (0, .ref mo), (1, .int (nI j2)), (2, .int (nI j5))]) d_Model_both_156 1 rfl (nI_add _ _) (by decide) rfl ?_
                          refine j_goto (pc := 159) C (tgt := 61) d_Model_both_159 (by decide) ?_
                          refine j_sub (ws' := [(ma 45, .inl (y 0, 14, .inl g45)), (ma 46, .inl (y 0, 108, .inl g46)), (ma 63, .inl (y 0, 9, .inl u696)), (ma 43, .inl (y 0, 8, .inl g43)), (ma 48, .inl (y 0, 224, .inl g48)), MB mo ma (nI t1) i2 i3 i4 i5 i6 i7 i8 i42 i49 i51 i53 i54 i59 i61 i64 i66 (nI t67) i76 i78, (ma 62, .inl (y 0, 63, .inl u692)), (ma 68, .inl (y 0, 63, .inl u16))]) [2, 3, 4, 1, 6, 5, 7, 0] rfl (by decide) ?_
                          refine j_locs (lv' := [(7, .int (nI (iy + 1))), (6, .int (nI iz)), (5, .int z601), (4, .int (nI q14)), (3, .int (nI q10)), (0, .ref mo), (1, .int (nI j2)), (2, .int (nI j5))]) [0, 2, 3, 4, 5, 6, 7, 8] rfl ?_
                          exact ih681 ((iy + 1), u696, u692, z601) (show (iy + 1) ≤ 21 by omega) (show 21 - (iy + 1) < 21 - iy by omega)
                        · refine j_aload_n (pc := 138) C d_Model_both_138 rfl 6 rfl ?_
                          refine j_iload_n (pc := 139) C d_Model_both_139 rfl 8 rfl ?_
                          refine j_aload_n (pc := 140) C d_Model_both_140 rfl 6 rfl ?_
                          refine j_get (pc := 141) C gf_Model_161 5 rfl rfl d_Model_both_141 ?_
                          refine j_iload (pc := 144) C d_Model_both_144 4 rfl ?_
                          refine j_iald (pc := 146) C 4 rfl (v := u696 q14) (vp_in_nI (by omega) (by decide)) (by rw [nI_clamp (by omega)]) d_Model_both_146 ?_
                          refine j_callVi (pc := 147) C (c_M_isServed l D y mo ma t1 i2 i3 i4 i5 i6 i7 i8 i42 i49 i51 i53 i54 i59 i61 i64 i66 t67 i76 i78 g48 u692 j5 (u696 q14) (by omega)) kw_Model_550 kv_Model_isServed 0 10 rfl rfl ⟨by decide, by decide⟩ ⟨by decide, by decide⟩ (wr := [(ma 68, .inl (y 0, 63, .inl u16)), (ma 43, .inl (y 0, 8, .inl g43)), (ma 45, .inl (y 0, 14, .inl g45)), (ma 46, .inl (y 0, 108, .inl g46)), (ma 63, .inl (y 0, 9, .inl u696))]) [5, 6, 7] [0, 1, 2, 3, 4] rfl rfl (by decide) (by decide) (by decide) (As := [.int (nI j5), .int (u696 q14)]) (rest := []) rfl (nb rfl) rfl d_Model_both_147 (fun r700 _ hr700 => ?_)
                          have xh701 := hr700
                          refine j_ws (ws' := [(ma 68, .inl (y 0, 63, .inl u16)), (ma 43, .inl (y 0, 8, .inl g43)), (ma 45, .inl (y 0, 14, .inl g45)), (ma 46, .inl (y 0, 108, .inl g46)), (ma 63, .inl (y 0, 9, .inl u696)), MB mo ma (nI t1) i2 i3 i4 i5 i6 i7 i8 i42 i49 i51 i53 i54 i59 i61 i64 i66 (nI t67) i76 i78, (ma 48, .inl (y 0, 224, .inl g48)), (ma 62, .inl (y 0, 63, .inl u692))]) rfl ?_
                          refine j_if_eq (pc := 150) C (tgt := 156) d_Model_both_150 (by decide) (fun c702 => ?_) (fun c702 => ?_)
                          · refine j_iinc (pc := 156) C (v := nI (iy + 1)) (lv' := [(7, .int (nI (iy + 1))), (8, .int r695), (6, .int (nI iz)), (5, .int z601), (4, .int (nI q14)), (3, .int (nI q10)), (0, .ref mo), (1, .int (nI j2)), (2, .int (nI j5))]) d_Model_both_156 1 rfl (nI_add _ _) (by decide) rfl ?_
                            refine j_goto (pc := 159) C (tgt := 61) d_Model_both_159 (by decide) ?_
                            refine j_sub (ws' := [(ma 45, .inl (y 0, 14, .inl g45)), (ma 46, .inl (y 0, 108, .inl g46)), (ma 63, .inl (y 0, 9, .inl u696)), (ma 43, .inl (y 0, 8, .inl g43)), (ma 48, .inl (y 0, 224, .inl g48)), MB mo ma (nI t1) i2 i3 i4 i5 i6 i7 i8 i42 i49 i51 i53 i54 i59 i61 i64 i66 (nI t67) i76 i78, (ma 62, .inl (y 0, 63, .inl u692)), (ma 68, .inl (y 0, 63, .inl u16))]) [2, 3, 4, 1, 6, 5, 7, 0] rfl (by decide) ?_
                            refine j_locs (lv' := [(7, .int (nI (iy + 1))), (6, .int (nI iz)), (5, .int z601), (4, .int (nI q14)), (3, .int (nI q10)), (0, .ref mo), (1, .int (nI j2)), (2, .int (nI j5))]) [0, 2, 3, 4, 5, 6, 7, 8] rfl ?_
                            exact ih681 ((iy + 1), u696, u692, z601) (show (iy + 1) ≤ 21 by omega) (show 21 - (iy + 1) < 21 - iy by omega)
                          · refine j_iconst (pc := 153) C (v := 1) d_Model_both_153 (by decide) ?_
                            refine j_istore (pc := 154) C (lv' := [(5, .int 1), (8, .int r695), (7, .int (nI iy)), (6, .int (nI iz)), (4, .int (nI q14)), (3, .int (nI q10)), (0, .ref mo), (1, .int (nI j2)), (2, .int (nI j5))]) d_Model_both_154 (by decide) rfl ?_
                            refine j_iinc (pc := 156) C (v := nI (iy + 1)) (lv' := [(7, .int (nI (iy + 1))), (5, .int 1), (8, .int r695), (6, .int (nI iz)), (4, .int (nI q14)), (3, .int (nI q10)), (0, .ref mo), (1, .int (nI j2)), (2, .int (nI j5))]) d_Model_both_156 2 rfl (nI_add _ _) (by decide) rfl ?_
                            refine j_goto (pc := 159) C (tgt := 61) d_Model_both_159 (by decide) ?_
                            refine j_sub (ws' := [(ma 45, .inl (y 0, 14, .inl g45)), (ma 46, .inl (y 0, 108, .inl g46)), (ma 63, .inl (y 0, 9, .inl u696)), (ma 43, .inl (y 0, 8, .inl g43)), (ma 48, .inl (y 0, 224, .inl g48)), MB mo ma (nI t1) i2 i3 i4 i5 i6 i7 i8 i42 i49 i51 i53 i54 i59 i61 i64 i66 (nI t67) i76 i78, (ma 62, .inl (y 0, 63, .inl u692)), (ma 68, .inl (y 0, 63, .inl u16))]) [2, 3, 4, 1, 6, 5, 7, 0] rfl (by decide) ?_
                            refine j_locs (lv' := [(7, .int (nI (iy + 1))), (6, .int (nI iz)), (5, .int 1), (4, .int (nI q14)), (3, .int (nI q10)), (0, .ref mo), (1, .int (nI j2)), (2, .int (nI j5))]) [0, 3, 1, 4, 5, 6, 7, 8] rfl ?_
                            exact ih681 ((iy + 1), u696, u692, 1) (show (iy + 1) ≤ 21 by omega) (show 21 - (iy + 1) < 21 - iy by omega)
                      · refine j_icmp_eqF (pc := 93) C (tgt := 99) d_Model_both_93 (by decide) (show ¬ nI iz = nI iy from fun e => absurd ((nI_eq (by omega) (by omega)).mp e) (by omega)) ?_
                        refine j_goto (pc := 96) C (tgt := 156) d_Model_both_96 (by decide) ?_
                        refine j_iinc (pc := 156) C (v := nI (iy + 1)) (lv' := [(7, .int (nI (iy + 1))), (6, .int (nI iz)), (5, .int z601), (4, .int (nI q14)), (3, .int (nI q10)), (0, .ref mo), (1, .int (nI j2)), (2, .int (nI j5))]) d_Model_both_156 0 rfl (nI_add _ _) (by decide) rfl ?_
                        refine j_goto (pc := 159) C (tgt := 61) d_Model_both_159 (by decide) ?_
                        exact ih681 ((iy + 1), z599, z600, z601) (show (iy + 1) ≤ 21 by omega) (show 21 - (iy + 1) < 21 - iy by omega)
                    · refine j_icmp_eqF (pc := 76) C (tgt := 89) d_Model_both_76 (by decide) (show ¬ nI q10 = nI q14 from fun e => absurd ((nI_eq (by omega) (by omega)).mp e) (by omega)) ?_
                      refine j_aload_n (pc := 79) C d_Model_both_79 rfl 5 rfl ?_
                      refine j_iload_n (pc := 80) C d_Model_both_80 rfl 4 rfl ?_
                      refine j_callVi (pc := 81) C (c_M_joinedTo l D y mo ma t1 i2 i3 i4 i5 i6 i7 i8 i42 i49 i51 i53 i54 i59 i61 i64 i66 t67 i76 i78 g46 q10 (by omega) (by omega)) kw_Model_418 kv_Model_joinedTo 0 10 rfl rfl ⟨by decide, by decide⟩ ⟨by decide, by decide⟩ (wr := [(ma 45, .inl (y 0, 14, .inl g45)), (ma 63, .inl (y 0, 9, .inl z599)), (ma 43, .inl (y 0, 8, .inl g43)), (ma 48, .inl (y 0, 224, .inl g48)), (ma 62, .inl (y 0, 63, .inl z600)), (ma 68, .inl (y 0, 63, .inl u16))]) [5, 1] [0, 2, 3, 4, 6, 7] rfl rfl (by decide) (by decide) (by decide) (As := [.int (nI q10)]) (rest := []) rfl (nb rfl) rfl d_Model_both_81 (fun r703 _ hr703 => ?_)
                      refine j_ws (ws' := [(ma 45, .inl (y 0, 14, .inl g45)), (ma 63, .inl (y 0, 9, .inl z599)), (ma 43, .inl (y 0, 8, .inl g43)), (ma 48, .inl (y 0, 224, .inl g48)), (ma 62, .inl (y 0, 63, .inl z600)), (ma 68, .inl (y 0, 63, .inl u16)), MB mo ma (nI t1) i2 i3 i4 i5 i6 i7 i8 i42 i49 i51 i53 i54 i59 i61 i64 i66 (nI t67) i76 i78, (ma 46, .inl (y 0, 108, .inl g46))]) rfl ?_
                      rcases hr703 with rfl | ⟨q705, xh706, rfl⟩
                      · refine j_iload (pc := 84) C d_Model_both_84 3 rfl ?_
                        refine j_icmp_neT (pc := 86) C (tgt := 99) d_Model_both_86 (by decide) (fun e => nI_nm1 (n := q14) (by omega) e.symm) ?_
                        refine j_aload_n (pc := 99) C d_Model_both_99 rfl 5 rfl ?_
                        refine j_callVv (pc := 100) C (c_M_takesBack l D y mo ma t1 i2 i3 i4 i5 i6 i7 i8 i42 i49 i51 i53 i54 i59 i61 i64 i66 t67 i76 i78 z600 u16 dy xh18) kw_Model_495 kv_Model_takesBack 0 10 rfl rfl ⟨by decide, by decide⟩ ⟨by decide, by decide⟩ (wr := [(ma 45, .inl (y 0, 14, .inl g45)), (ma 63, .inl (y 0, 9, .inl z599)), (ma 43, .inl (y 0, 8, .inl g43)), (ma 48, .inl (y 0, 224, .inl g48)), (ma 46, .inl (y 0, 108, .inl g46))]) [6, 4, 5] [0, 1, 2, 3, 7] rfl rfl (by decide) (by decide) (by decide) (As := []) (rest := []) rfl (nb rfl) rfl d_Model_both_100 (fun u707 hu708 => ?_)
                        have xh709 := hu708
                        refine j_ws (ws' := [(ma 45, .inl (y 0, 14, .inl g45)), (ma 63, .inl (y 0, 9, .inl z599)), (ma 43, .inl (y 0, 8, .inl g43)), (ma 48, .inl (y 0, 224, .inl g48)), (ma 46, .inl (y 0, 108, .inl g46)), MB mo ma (nI t1) i2 i3 i4 i5 i6 i7 i8 i42 i49 i51 i53 i54 i59 i61 i64 i66 (nI t67) i76 i78, (ma 62, .inl (y 0, 63, .inl u707)), (ma 68, .inl (y 0, 63, .inl u16))]) rfl ?_
                        refine j_aload_n (pc := 103) C d_Model_both_103 rfl 5 rfl ?_
                        refine j_iload_n (pc := 104) C d_Model_both_104 rfl 4 rfl ?_
                        refine j_iload (pc := 105) C d_Model_both_105 1 rfl ?_
                        refine j_callVv (pc := 107) C (c_M_boardsAre l D y mo ma t1 i2 i3 i4 i5 i6 i7 i8 i42 i49 i51 i53 i54 i59 i61 i64 i66 t67 i76 i78 g46 u707 q10 (nI iz) dy (by omega) xh709 (by omega)) kw_Model_536 kv_Model_boardsAre 0 10 rfl rfl ⟨by decide, by decide⟩ ⟨by decide, by decide⟩ (wr := [(ma 45, .inl (y 0, 14, .inl g45)), (ma 63, .inl (y 0, 9, .inl z599)), (ma 43, .inl (y 0, 8, .inl g43)), (ma 48, .inl (y 0, 224, .inl g48)), (ma 68, .inl (y 0, 63, .inl u16))]) [5, 4, 6] [0, 1, 2, 3, 7] rfl rfl (by decide) (by decide) (by decide) (As := [.int (nI q10), .int (nI iz)]) (rest := []) rfl (nb rfl) rfl d_Model_both_107 (fun u710 hu711 => ?_)
                        have xh712 := hu711
                        refine j_ws (ws' := [(ma 45, .inl (y 0, 14, .inl g45)), (ma 63, .inl (y 0, 9, .inl z599)), (ma 43, .inl (y 0, 8, .inl g43)), (ma 48, .inl (y 0, 224, .inl g48)), (ma 68, .inl (y 0, 63, .inl u16)), MB mo ma (nI t1) i2 i3 i4 i5 i6 i7 i8 i42 i49 i51 i53 i54 i59 i61 i64 i66 (nI t67) i76 i78, (ma 46, .inl (y 0, 108, .inl g46)), (ma 62, .inl (y 0, 63, .inl u710))]) rfl ?_
                        refine j_aload_n (pc := 110) C d_Model_both_110 rfl 5 rfl ?_
                        refine j_iload (pc := 111) C d_Model_both_111 3 rfl ?_
                        refine j_iload (pc := 113) C d_Model_both_113 0 rfl ?_
                        refine j_callVv (pc := 115) C (c_M_boardsAre l D y mo ma t1 i2 i3 i4 i5 i6 i7 i8 i42 i49 i51 i53 i54 i59 i61 i64 i66 t67 i76 i78 g46 u710 q14 (nI iy) dy (by omega) xh712 (by omega)) kw_Model_536 kv_Model_boardsAre 0 10 rfl rfl ⟨by decide, by decide⟩ ⟨by decide, by decide⟩ (wr := [(ma 45, .inl (y 0, 14, .inl g45)), (ma 63, .inl (y 0, 9, .inl z599)), (ma 43, .inl (y 0, 8, .inl g43)), (ma 48, .inl (y 0, 224, .inl g48)), (ma 68, .inl (y 0, 63, .inl u16))]) [5, 6, 7] [0, 1, 2, 3, 4] rfl rfl (by decide) (by decide) (by decide) (As := [.int (nI q14), .int (nI iy)]) (rest := []) rfl (nb rfl) rfl d_Model_both_115 (fun u713 hu714 => ?_)
                        have xh715 := hu714
                        refine j_ws (ws' := [(ma 45, .inl (y 0, 14, .inl g45)), (ma 63, .inl (y 0, 9, .inl z599)), (ma 43, .inl (y 0, 8, .inl g43)), (ma 48, .inl (y 0, 224, .inl g48)), (ma 68, .inl (y 0, 63, .inl u16)), MB mo ma (nI t1) i2 i3 i4 i5 i6 i7 i8 i42 i49 i51 i53 i54 i59 i61 i64 i66 (nI t67) i76 i78, (ma 46, .inl (y 0, 108, .inl g46)), (ma 62, .inl (y 0, 63, .inl u713))]) rfl ?_
                        refine j_aload_n (pc := 118) C d_Model_both_118 rfl 5 rfl ?_
                        refine j_callVi (pc := 119) C (c_M_flowsNow l D y mo ma t1 i2 i3 i4 i5 i6 i7 i8 i42 i49 i51 i53 i54 i59 i61 i64 i66 t67 i76 i78 g43 g45 g46 u713 z599 c0 hc0 bc0 hL hS) kw_Model_434 kv_Model_flowsNow 0 10 rfl rfl ⟨by decide, by decide⟩ ⟨by decide, by decide⟩ (wr := [(ma 48, .inl (y 0, 224, .inl g48)), (ma 68, .inl (y 0, 63, .inl u16))]) [5, 2, 0, 6, 7, 1] [3, 4] rfl rfl (by decide) (by decide) (by decide) (As := []) (rest := []) rfl (nb rfl) rfl d_Model_both_119 (fun r716 u717 hr716 => ?_)
                        refine j_ws (ws' := [(ma 48, .inl (y 0, 224, .inl g48)), (ma 68, .inl (y 0, 63, .inl u16)), MB mo ma (nI t1) i2 i3 i4 i5 i6 i7 i8 i42 i49 i51 i53 i54 i59 i61 i64 i66 (nI t67) i76 i78, (ma 43, .inl (y 0, 8, .inl g43)), (ma 45, .inl (y 0, 14, .inl g45)), (ma 46, .inl (y 0, 108, .inl g46)), (ma 62, .inl (y 0, 63, .inl u713)), (ma 63, .inl (y 0, 9, .inl u717))]) rfl ?_
                        refine j_istore (pc := 122) C (lv' := [(8, .int r716), (7, .int (nI iy)), (6, .int (nI iz)), (5, .int z601), (4, .int (nI q14)), (3, .int (nI q10)), (0, .ref mo), (1, .int (nI j2)), (2, .int (nI j5))]) d_Model_both_122 (by decide) rfl ?_
                        refine j_aload_n (pc := 124) C d_Model_both_124 rfl 6 rfl ?_
                        refine j_iload_n (pc := 125) C d_Model_both_125 rfl 7 rfl ?_
                        refine j_aload_n (pc := 126) C d_Model_both_126 rfl 6 rfl ?_
                        refine j_get (pc := 127) C gf_Model_161 2 rfl rfl d_Model_both_127 ?_
                        refine j_iload_n (pc := 130) C d_Model_both_130 rfl 5 rfl ?_
                        refine j_iald (pc := 131) C 7 rfl (v := u717 q10) (vp_in_nI (by omega) (by decide)) (by rw [nI_clamp (by omega)]) d_Model_both_131 ?_
                        refine j_callVi (pc := 132) C (c_M_isServed l D y mo ma t1 i2 i3 i4 i5 i6 i7 i8 i42 i49 i51 i53 i54 i59 i61 i64 i66 t67 i76 i78 g48 u713 j2 (u717 q10) (by omega)) kw_Model_550 kv_Model_isServed 0 10 rfl rfl ⟨by decide, by decide⟩ ⟨by decide, by decide⟩ (wr := [(ma 68, .inl (y 0, 63, .inl u16)), (ma 43, .inl (y 0, 8, .inl g43)), (ma 45, .inl (y 0, 14, .inl g45)), (ma 46, .inl (y 0, 108, .inl g46)), (ma 63, .inl (y 0, 9, .inl u717))]) [2, 0, 6] [1, 3, 4, 5, 7] rfl rfl (by decide) (by decide) (by decide) (As := [.int (nI j2), .int (u717 q10)]) (rest := []) rfl (nb rfl) rfl d_Model_both_132 (fun r718 _ hr718 => ?_)
                        have xh719 := hr718
                        refine j_ws (ws' := [(ma 68, .inl (y 0, 63, .inl u16)), (ma 43, .inl (y 0, 8, .inl g43)), (ma 45, .inl (y 0, 14, .inl g45)), (ma 46, .inl (y 0, 108, .inl g46)), (ma 63, .inl (y 0, 9, .inl u717)), MB mo ma (nI t1) i2 i3 i4 i5 i6 i7 i8 i42 i49 i51 i53 i54 i59 i61 i64 i66 (nI t67) i76 i78, (ma 48, .inl (y 0, 224, .inl g48)), (ma 62, .inl (y 0, 63, .inl u713))]) rfl ?_
                        refine j_if_eq (pc := 135) C (tgt := 156) d_Model_both_135 (by decide) (fun c720 => ?_) (fun c720 => ?_)
                        · refine j_iinc (pc := 156) C (v := nI (iy + 1)) (lv' := [(7, .int (nI (iy + 1))), (8, .int r716), (6, .int (nI iz)), (5, .int z601), (4, .int (nI q14)), (3, .int (nI q10)), (0, .ref mo), (1, .int (nI j2)), (2, .int (nI j5))]) d_Model_both_156 1 rfl (nI_add _ _) (by decide) rfl ?_
                          refine j_goto (pc := 159) C (tgt := 61) d_Model_both_159 (by decide) ?_
                          refine j_sub (ws' := [(ma 45, .inl (y 0, 14, .inl g45)), (ma 46, .inl (y 0, 108, .inl g46)), (ma 63, .inl (y 0, 9, .inl u717)), (ma 43, .inl (y 0, 8, .inl g43)), (ma 48, .inl (y 0, 224, .inl g48)), MB mo ma (nI t1) i2 i3 i4 i5 i6 i7 i8 i42 i49 i51 i53 i54 i59 i61 i64 i66 (nI t67) i76 i78, (ma 62, .inl (y 0, 63, .inl u713)), (ma 68, .inl (y 0, 63, .inl u16))]) [2, 3, 4, 1, 6, 5, 7, 0] rfl (by decide) ?_
                          refine j_locs (lv' := [(7, .int (nI (iy + 1))), (6, .int (nI iz)), (5, .int z601), (4, .int (nI q14)), (3, .int (nI q10)), (0, .ref mo), (1, .int (nI j2)), (2, .int (nI j5))]) [0, 2, 3, 4, 5, 6, 7, 8] rfl ?_
                          exact ih681 ((iy + 1), u717, u713, z601) (show (iy + 1) ≤ 21 by omega) (show 21 - (iy + 1) < 21 - iy by omega)
                        · refine j_aload_n (pc := 138) C d_Model_both_138 rfl 6 rfl ?_
                          refine j_iload_n (pc := 139) C d_Model_both_139 rfl 8 rfl ?_
                          refine j_aload_n (pc := 140) C d_Model_both_140 rfl 6 rfl ?_
                          refine j_get (pc := 141) C gf_Model_161 5 rfl rfl d_Model_both_141 ?_
                          refine j_iload (pc := 144) C d_Model_both_144 4 rfl ?_
                          refine j_iald (pc := 146) C 4 rfl (v := u717 q14) (vp_in_nI (by omega) (by decide)) (by rw [nI_clamp (by omega)]) d_Model_both_146 ?_
                          refine j_callVi (pc := 147) C (c_M_isServed l D y mo ma t1 i2 i3 i4 i5 i6 i7 i8 i42 i49 i51 i53 i54 i59 i61 i64 i66 t67 i76 i78 g48 u713 j5 (u717 q14) (by omega)) kw_Model_550 kv_Model_isServed 0 10 rfl rfl ⟨by decide, by decide⟩ ⟨by decide, by decide⟩ (wr := [(ma 68, .inl (y 0, 63, .inl u16)), (ma 43, .inl (y 0, 8, .inl g43)), (ma 45, .inl (y 0, 14, .inl g45)), (ma 46, .inl (y 0, 108, .inl g46)), (ma 63, .inl (y 0, 9, .inl u717))]) [5, 6, 7] [0, 1, 2, 3, 4] rfl rfl (by decide) (by decide) (by decide) (As := [.int (nI j5), .int (u717 q14)]) (rest := []) rfl (nb rfl) rfl d_Model_both_147 (fun r721 _ hr721 => ?_)
                          have xh722 := hr721
                          refine j_ws (ws' := [(ma 68, .inl (y 0, 63, .inl u16)), (ma 43, .inl (y 0, 8, .inl g43)), (ma 45, .inl (y 0, 14, .inl g45)), (ma 46, .inl (y 0, 108, .inl g46)), (ma 63, .inl (y 0, 9, .inl u717)), MB mo ma (nI t1) i2 i3 i4 i5 i6 i7 i8 i42 i49 i51 i53 i54 i59 i61 i64 i66 (nI t67) i76 i78, (ma 48, .inl (y 0, 224, .inl g48)), (ma 62, .inl (y 0, 63, .inl u713))]) rfl ?_
                          refine j_if_eq (pc := 150) C (tgt := 156) d_Model_both_150 (by decide) (fun c723 => ?_) (fun c723 => ?_)
                          · refine j_iinc (pc := 156) C (v := nI (iy + 1)) (lv' := [(7, .int (nI (iy + 1))), (8, .int r716), (6, .int (nI iz)), (5, .int z601), (4, .int (nI q14)), (3, .int (nI q10)), (0, .ref mo), (1, .int (nI j2)), (2, .int (nI j5))]) d_Model_both_156 1 rfl (nI_add _ _) (by decide) rfl ?_
                            refine j_goto (pc := 159) C (tgt := 61) d_Model_both_159 (by decide) ?_
                            refine j_sub (ws' := [(ma 45, .inl (y 0, 14, .inl g45)), (ma 46, .inl (y 0, 108, .inl g46)), (ma 63, .inl (y 0, 9, .inl u717)), (ma 43, .inl (y 0, 8, .inl g43)), (ma 48, .inl (y 0, 224, .inl g48)), MB mo ma (nI t1) i2 i3 i4 i5 i6 i7 i8 i42 i49 i51 i53 i54 i59 i61 i64 i66 (nI t67) i76 i78, (ma 62, .inl (y 0, 63, .inl u713)), (ma 68, .inl (y 0, 63, .inl u16))]) [2, 3, 4, 1, 6, 5, 7, 0] rfl (by decide) ?_
                            refine j_locs (lv' := [(7, .int (nI (iy + 1))), (6, .int (nI iz)), (5, .int z601), (4, .int (nI q14)), (3, .int (nI q10)), (0, .ref mo), (1, .int (nI j2)), (2, .int (nI j5))]) [0, 2, 3, 4, 5, 6, 7, 8] rfl ?_
                            exact ih681 ((iy + 1), u717, u713, z601) (show (iy + 1) ≤ 21 by omega) (show 21 - (iy + 1) < 21 - iy by omega)
                          · refine j_iconst (pc := 153) C (v := 1) d_Model_both_153 (by decide) ?_
                            refine j_istore (pc := 154) C (lv' := [(5, .int 1), (8, .int r716), (7, .int (nI iy)), (6, .int (nI iz)), (4, .int (nI q14)), (3, .int (nI q10)), (0, .ref mo), (1, .int (nI j2)), (2, .int (nI j5))]) d_Model_both_154 (by decide) rfl ?_
                            refine j_iinc (pc := 156) C (v := nI (iy + 1)) (lv' := [(7, .int (nI (iy + 1))), (5, .int 1), (8, .int r716), (6, .int (nI iz)), (4, .int (nI q14)), (3, .int (nI q10)), (0, .ref mo), (1, .int (nI j2)), (2, .int (nI j5))]) d_Model_both_156 2 rfl (nI_add _ _) (by decide) rfl ?_
                            refine j_goto (pc := 159) C (tgt := 61) d_Model_both_159 (by decide) ?_
                            refine j_sub (ws' := [(ma 45, .inl (y 0, 14, .inl g45)), (ma 46, .inl (y 0, 108, .inl g46)), (ma 63, .inl (y 0, 9, .inl u717)), (ma 43, .inl (y 0, 8, .inl g43)), (ma 48, .inl (y 0, 224, .inl g48)), MB mo ma (nI t1) i2 i3 i4 i5 i6 i7 i8 i42 i49 i51 i53 i54 i59 i61 i64 i66 (nI t67) i76 i78, (ma 62, .inl (y 0, 63, .inl u713)), (ma 68, .inl (y 0, 63, .inl u16))]) [2, 3, 4, 1, 6, 5, 7, 0] rfl (by decide) ?_
                            refine j_locs (lv' := [(7, .int (nI (iy + 1))), (6, .int (nI iz)), (5, .int 1), (4, .int (nI q14)), (3, .int (nI q10)), (0, .ref mo), (1, .int (nI j2)), (2, .int (nI j5))]) [0, 3, 1, 4, 5, 6, 7, 8] rfl ?_
                            exact ih681 ((iy + 1), u717, u713, 1) (show (iy + 1) ≤ 21 by omega) (show 21 - (iy + 1) < 21 - iy by omega)
                      · refine j_iload (pc := 84) C d_Model_both_84 3 rfl ?_
                        by_cases c724 : ¬ q705 = q14
                        · refine j_icmp_neT (pc := 86) C (tgt := 99) d_Model_both_86 (by decide) (show ¬ nI q705 = nI q14 from fun e => absurd ((nI_eq (by omega) (by omega)).mp e) (by omega)) ?_
                          refine j_aload_n (pc := 99) C d_Model_both_99 rfl 5 rfl ?_
                          refine j_callVv (pc := 100) C (c_M_takesBack l D y mo ma t1 i2 i3 i4 i5 i6 i7 i8 i42 i49 i51 i53 i54 i59 i61 i64 i66 t67 i76 i78 z600 u16 dy xh18) kw_Model_495 kv_Model_takesBack 0 10 rfl rfl ⟨by decide, by decide⟩ ⟨by decide, by decide⟩ (wr := [(ma 45, .inl (y 0, 14, .inl g45)), (ma 63, .inl (y 0, 9, .inl z599)), (ma 43, .inl (y 0, 8, .inl g43)), (ma 48, .inl (y 0, 224, .inl g48)), (ma 46, .inl (y 0, 108, .inl g46))]) [6, 4, 5] [0, 1, 2, 3, 7] rfl rfl (by decide) (by decide) (by decide) (As := []) (rest := []) rfl (nb rfl) rfl d_Model_both_100 (fun u725 hu726 => ?_)
                          have xh727 := hu726
                          refine j_ws (ws' := [(ma 45, .inl (y 0, 14, .inl g45)), (ma 63, .inl (y 0, 9, .inl z599)), (ma 43, .inl (y 0, 8, .inl g43)), (ma 48, .inl (y 0, 224, .inl g48)), (ma 46, .inl (y 0, 108, .inl g46)), MB mo ma (nI t1) i2 i3 i4 i5 i6 i7 i8 i42 i49 i51 i53 i54 i59 i61 i64 i66 (nI t67) i76 i78, (ma 62, .inl (y 0, 63, .inl u725)), (ma 68, .inl (y 0, 63, .inl u16))]) rfl ?_
                          refine j_aload_n (pc := 103) C d_Model_both_103 rfl 5 rfl ?_
                          refine j_iload_n (pc := 104) C d_Model_both_104 rfl 4 rfl ?_
                          refine j_iload (pc := 105) C d_Model_both_105 1 rfl ?_
                          refine j_callVv (pc := 107) C (c_M_boardsAre l D y mo ma t1 i2 i3 i4 i5 i6 i7 i8 i42 i49 i51 i53 i54 i59 i61 i64 i66 t67 i76 i78 g46 u725 q10 (nI iz) dy (by omega) xh727 (by omega)) kw_Model_536 kv_Model_boardsAre 0 10 rfl rfl ⟨by decide, by decide⟩ ⟨by decide, by decide⟩ (wr := [(ma 45, .inl (y 0, 14, .inl g45)), (ma 63, .inl (y 0, 9, .inl z599)), (ma 43, .inl (y 0, 8, .inl g43)), (ma 48, .inl (y 0, 224, .inl g48)), (ma 68, .inl (y 0, 63, .inl u16))]) [5, 4, 6] [0, 1, 2, 3, 7] rfl rfl (by decide) (by decide) (by decide) (As := [.int (nI q10), .int (nI iz)]) (rest := []) rfl (nb rfl) rfl d_Model_both_107 (fun u728 hu729 => ?_)
                          have xh730 := hu729
                          refine j_ws (ws' := [(ma 45, .inl (y 0, 14, .inl g45)), (ma 63, .inl (y 0, 9, .inl z599)), (ma 43, .inl (y 0, 8, .inl g43)), (ma 48, .inl (y 0, 224, .inl g48)), (ma 68, .inl (y 0, 63, .inl u16)), MB mo ma (nI t1) i2 i3 i4 i5 i6 i7 i8 i42 i49 i51 i53 i54 i59 i61 i64 i66 (nI t67) i76 i78, (ma 46, .inl (y 0, 108, .inl g46)), (ma 62, .inl (y 0, 63, .inl u728))]) rfl ?_
                          refine j_aload_n (pc := 110) C d_Model_both_110 rfl 5 rfl ?_
                          refine j_iload (pc := 111) C d_Model_both_111 3 rfl ?_
                          refine j_iload (pc := 113) C d_Model_both_113 0 rfl ?_
                          refine j_callVv (pc := 115) C (c_M_boardsAre l D y mo ma t1 i2 i3 i4 i5 i6 i7 i8 i42 i49 i51 i53 i54 i59 i61 i64 i66 t67 i76 i78 g46 u728 q14 (nI iy) dy (by omega) xh730 (by omega)) kw_Model_536 kv_Model_boardsAre 0 10 rfl rfl ⟨by decide, by decide⟩ ⟨by decide, by decide⟩ (wr := [(ma 45, .inl (y 0, 14, .inl g45)), (ma 63, .inl (y 0, 9, .inl z599)), (ma 43, .inl (y 0, 8, .inl g43)), (ma 48, .inl (y 0, 224, .inl g48)), (ma 68, .inl (y 0, 63, .inl u16))]) [5, 6, 7] [0, 1, 2, 3, 4] rfl rfl (by decide) (by decide) (by decide) (As := [.int (nI q14), .int (nI iy)]) (rest := []) rfl (nb rfl) rfl d_Model_both_115 (fun u731 hu732 => ?_)
                          have xh733 := hu732
                          refine j_ws (ws' := [(ma 45, .inl (y 0, 14, .inl g45)), (ma 63, .inl (y 0, 9, .inl z599)), (ma 43, .inl (y 0, 8, .inl g43)), (ma 48, .inl (y 0, 224, .inl g48)), (ma 68, .inl (y 0, 63, .inl u16)), MB mo ma (nI t1) i2 i3 i4 i5 i6 i7 i8 i42 i49 i51 i53 i54 i59 i61 i64 i66 (nI t67) i76 i78, (ma 46, .inl (y 0, 108, .inl g46)), (ma 62, .inl (y 0, 63, .inl u731))]) rfl ?_
                          refine j_aload_n (pc := 118) C d_Model_both_118 rfl 5 rfl ?_
                          refine j_callVi (pc := 119) C (c_M_flowsNow l D y mo ma t1 i2 i3 i4 i5 i6 i7 i8 i42 i49 i51 i53 i54 i59 i61 i64 i66 t67 i76 i78 g43 g45 g46 u731 z599 c0 hc0 bc0 hL hS) kw_Model_434 kv_Model_flowsNow 0 10 rfl rfl ⟨by decide, by decide⟩ ⟨by decide, by decide⟩ (wr := [(ma 48, .inl (y 0, 224, .inl g48)), (ma 68, .inl (y 0, 63, .inl u16))]) [5, 2, 0, 6, 7, 1] [3, 4] rfl rfl (by decide) (by decide) (by decide) (As := []) (rest := []) rfl (nb rfl) rfl d_Model_both_119 (fun r734 u735 hr734 => ?_)
                          refine j_ws (ws' := [(ma 48, .inl (y 0, 224, .inl g48)), (ma 68, .inl (y 0, 63, .inl u16)), MB mo ma (nI t1) i2 i3 i4 i5 i6 i7 i8 i42 i49 i51 i53 i54 i59 i61 i64 i66 (nI t67) i76 i78, (ma 43, .inl (y 0, 8, .inl g43)), (ma 45, .inl (y 0, 14, .inl g45)), (ma 46, .inl (y 0, 108, .inl g46)), (ma 62, .inl (y 0, 63, .inl u731)), (ma 63, .inl (y 0, 9, .inl u735))]) rfl ?_
                          refine j_istore (pc := 122) C (lv' := [(8, .int r734), (7, .int (nI iy)), (6, .int (nI iz)), (5, .int z601), (4, .int (nI q14)), (3, .int (nI q10)), (0, .ref mo), (1, .int (nI j2)), (2, .int (nI j5))]) d_Model_both_122 (by decide) rfl ?_
                          refine j_aload_n (pc := 124) C d_Model_both_124 rfl 6 rfl ?_
                          refine j_iload_n (pc := 125) C d_Model_both_125 rfl 7 rfl ?_
                          refine j_aload_n (pc := 126) C d_Model_both_126 rfl 6 rfl ?_
                          refine j_get (pc := 127) C gf_Model_161 2 rfl rfl d_Model_both_127 ?_
                          refine j_iload_n (pc := 130) C d_Model_both_130 rfl 5 rfl ?_
                          refine j_iald (pc := 131) C 7 rfl (v := u735 q10) (vp_in_nI (by omega) (by decide)) (by rw [nI_clamp (by omega)]) d_Model_both_131 ?_
                          refine j_callVi (pc := 132) C (c_M_isServed l D y mo ma t1 i2 i3 i4 i5 i6 i7 i8 i42 i49 i51 i53 i54 i59 i61 i64 i66 t67 i76 i78 g48 u731 j2 (u735 q10) (by omega)) kw_Model_550 kv_Model_isServed 0 10 rfl rfl ⟨by decide, by decide⟩ ⟨by decide, by decide⟩ (wr := [(ma 68, .inl (y 0, 63, .inl u16)), (ma 43, .inl (y 0, 8, .inl g43)), (ma 45, .inl (y 0, 14, .inl g45)), (ma 46, .inl (y 0, 108, .inl g46)), (ma 63, .inl (y 0, 9, .inl u735))]) [2, 0, 6] [1, 3, 4, 5, 7] rfl rfl (by decide) (by decide) (by decide) (As := [.int (nI j2), .int (u735 q10)]) (rest := []) rfl (nb rfl) rfl d_Model_both_132 (fun r736 _ hr736 => ?_)
                          have xh737 := hr736
                          refine j_ws (ws' := [(ma 68, .inl (y 0, 63, .inl u16)), (ma 43, .inl (y 0, 8, .inl g43)), (ma 45, .inl (y 0, 14, .inl g45)), (ma 46, .inl (y 0, 108, .inl g46)), (ma 63, .inl (y 0, 9, .inl u735)), MB mo ma (nI t1) i2 i3 i4 i5 i6 i7 i8 i42 i49 i51 i53 i54 i59 i61 i64 i66 (nI t67) i76 i78, (ma 48, .inl (y 0, 224, .inl g48)), (ma 62, .inl (y 0, 63, .inl u731))]) rfl ?_
                          refine j_if_eq (pc := 135) C (tgt := 156) d_Model_both_135 (by decide) (fun c738 => ?_) (fun c738 => ?_)
                          · refine j_iinc (pc := 156) C (v := nI (iy + 1)) (lv' := [(7, .int (nI (iy + 1))), (8, .int r734), (6, .int (nI iz)), (5, .int z601), (4, .int (nI q14)), (3, .int (nI q10)), (0, .ref mo), (1, .int (nI j2)), (2, .int (nI j5))]) d_Model_both_156 1 rfl (nI_add _ _) (by decide) rfl ?_
                            refine j_goto (pc := 159) C (tgt := 61) d_Model_both_159 (by decide) ?_
                            refine j_sub (ws' := [(ma 45, .inl (y 0, 14, .inl g45)), (ma 46, .inl (y 0, 108, .inl g46)), (ma 63, .inl (y 0, 9, .inl u735)), (ma 43, .inl (y 0, 8, .inl g43)), (ma 48, .inl (y 0, 224, .inl g48)), MB mo ma (nI t1) i2 i3 i4 i5 i6 i7 i8 i42 i49 i51 i53 i54 i59 i61 i64 i66 (nI t67) i76 i78, (ma 62, .inl (y 0, 63, .inl u731)), (ma 68, .inl (y 0, 63, .inl u16))]) [2, 3, 4, 1, 6, 5, 7, 0] rfl (by decide) ?_
                            refine j_locs (lv' := [(7, .int (nI (iy + 1))), (6, .int (nI iz)), (5, .int z601), (4, .int (nI q14)), (3, .int (nI q10)), (0, .ref mo), (1, .int (nI j2)), (2, .int (nI j5))]) [0, 2, 3, 4, 5, 6, 7, 8] rfl ?_
                            exact ih681 ((iy + 1), u735, u731, z601) (show (iy + 1) ≤ 21 by omega) (show 21 - (iy + 1) < 21 - iy by omega)
                          · refine j_aload_n (pc := 138) C d_Model_both_138 rfl 6 rfl ?_
                            refine j_iload_n (pc := 139) C d_Model_both_139 rfl 8 rfl ?_
                            refine j_aload_n (pc := 140) C d_Model_both_140 rfl 6 rfl ?_
                            refine j_get (pc := 141) C gf_Model_161 5 rfl rfl d_Model_both_141 ?_
                            refine j_iload (pc := 144) C d_Model_both_144 4 rfl ?_
                            refine j_iald (pc := 146) C 4 rfl (v := u735 q14) (vp_in_nI (by omega) (by decide)) (by rw [nI_clamp (by omega)]) d_Model_both_146 ?_
                            refine j_callVi (pc := 147) C (c_M_isServed l D y mo ma t1 i2 i3 i4 i5 i6 i7 i8 i42 i49 i51 i53 i54 i59 i61 i64 i66 t67 i76 i78 g48 u731 j5 (u735 q14) (by omega)) kw_Model_550 kv_Model_isServed 0 10 rfl rfl ⟨by decide, by decide⟩ ⟨by decide, by decide⟩ (wr := [(ma 68, .inl (y 0, 63, .inl u16)), (ma 43, .inl (y 0, 8, .inl g43)), (ma 45, .inl (y 0, 14, .inl g45)), (ma 46, .inl (y 0, 108, .inl g46)), (ma 63, .inl (y 0, 9, .inl u735))]) [5, 6, 7] [0, 1, 2, 3, 4] rfl rfl (by decide) (by decide) (by decide) (As := [.int (nI j5), .int (u735 q14)]) (rest := []) rfl (nb rfl) rfl d_Model_both_147 (fun r739 _ hr739 => ?_)
                            have xh740 := hr739
                            refine j_ws (ws' := [(ma 68, .inl (y 0, 63, .inl u16)), (ma 43, .inl (y 0, 8, .inl g43)), (ma 45, .inl (y 0, 14, .inl g45)), (ma 46, .inl (y 0, 108, .inl g46)), (ma 63, .inl (y 0, 9, .inl u735)), MB mo ma (nI t1) i2 i3 i4 i5 i6 i7 i8 i42 i49 i51 i53 i54 i59 i61 i64 i66 (nI t67) i76 i78, (ma 48, .inl (y 0, 224, .inl g48)), (ma 62, .inl (y 0, 63, .inl u731))]) rfl ?_
                            refine j_if_eq (pc := 150) C (tgt := 156) d_Model_both_150 (by decide) (fun c741 => ?_) (fun c741 => ?_)
                            · refine j_iinc (pc := 156) C (v := nI (iy + 1)) (lv' := [(7, .int (nI (iy + 1))), (8, .int r734), (6, .int (nI iz)), (5, .int z601), (4, .int (nI q14)), (3, .int (nI q10)), (0, .ref mo), (1, .int (nI j2)), (2, .int (nI j5))]) d_Model_both_156 1 rfl (nI_add _ _) (by decide) rfl ?_
                              refine j_goto (pc := 159) C (tgt := 61) d_Model_both_159 (by decide) ?_
                              refine j_sub (ws' := [(ma 45, .inl (y 0, 14, .inl g45)), (ma 46, .inl (y 0, 108, .inl g46)), (ma 63, .inl (y 0, 9, .inl u735)), (ma 43, .inl (y 0, 8, .inl g43)), (ma 48, .inl (y 0, 224, .inl g48)), MB mo ma (nI t1) i2 i3 i4 i5 i6 i7 i8 i42 i49 i51 i53 i54 i59 i61 i64 i66 (nI t67) i76 i78, (ma 62, .inl (y 0, 63, .inl u731)), (ma 68, .inl (y 0, 63, .inl u16))]) [2, 3, 4, 1, 6, 5, 7, 0] rfl (by decide) ?_
                              refine j_locs (lv' := [(7, .int (nI (iy + 1))), (6, .int (nI iz)), (5, .int z601), (4, .int (nI q14)), (3, .int (nI q10)), (0, .ref mo), (1, .int (nI j2)), (2, .int (nI j5))]) [0, 2, 3, 4, 5, 6, 7, 8] rfl ?_
                              exact ih681 ((iy + 1), u735, u731, z601) (show (iy + 1) ≤ 21 by omega) (show 21 - (iy + 1) < 21 - iy by omega)
                            · refine j_iconst (pc := 153) C (v := 1) d_Model_both_153 (by decide) ?_
                              refine j_istore (pc := 154) C (lv' := [(5, .int 1), (8, .int r734), (7, .int (nI iy)), (6, .int (nI iz)), (4, .int (nI q14)), (3, .int (nI q10)), (0, .ref mo), (1, .int (nI j2)), (2, .int (nI j5))]) d_Model_both_154 (by decide) rfl ?_
                              refine j_iinc (pc := 156) C (v := nI (iy + 1)) (lv' := [(7, .int (nI (iy + 1))), (5, .int 1), (8, .int r734), (6, .int (nI iz)), (4, .int (nI q14)), (3, .int (nI q10)), (0, .ref mo), (1, .int (nI j2)), (2, .int (nI j5))]) d_Model_both_156 2 rfl (nI_add _ _) (by decide) rfl ?_
                              refine j_goto (pc := 159) C (tgt := 61) d_Model_both_159 (by decide) ?_
                              refine j_sub (ws' := [(ma 45, .inl (y 0, 14, .inl g45)), (ma 46, .inl (y 0, 108, .inl g46)), (ma 63, .inl (y 0, 9, .inl u735)), (ma 43, .inl (y 0, 8, .inl g43)), (ma 48, .inl (y 0, 224, .inl g48)), MB mo ma (nI t1) i2 i3 i4 i5 i6 i7 i8 i42 i49 i51 i53 i54 i59 i61 i64 i66 (nI t67) i76 i78, (ma 62, .inl (y 0, 63, .inl u731)), (ma 68, .inl (y 0, 63, .inl u16))]) [2, 3, 4, 1, 6, 5, 7, 0] rfl (by decide) ?_
                              refine j_locs (lv' := [(7, .int (nI (iy + 1))), (6, .int (nI iz)), (5, .int 1), (4, .int (nI q14)), (3, .int (nI q10)), (0, .ref mo), (1, .int (nI j2)), (2, .int (nI j5))]) [0, 3, 1, 4, 5, 6, 7, 8] rfl ?_
                              exact ih681 ((iy + 1), u735, u731, 1) (show (iy + 1) ≤ 21 by omega) (show 21 - (iy + 1) < 21 - iy by omega)
                        · refine j_icmp_neF (pc := 86) C (tgt := 99) d_Model_both_86 (by decide) (show nI q705 = nI q14 from (nI_eq (by omega) (by omega)).mpr (by omega)) ?_
                          refine j_iload (pc := 89) C d_Model_both_89 1 rfl ?_
                          refine j_iload (pc := 91) C d_Model_both_91 0 rfl ?_
                          by_cases c742 : iz = iy
                          · refine j_icmp_eqT (pc := 93) C (tgt := 99) d_Model_both_93 (by decide) (show nI iz = nI iy from (nI_eq (by omega) (by omega)).mpr (by omega)) ?_
                            refine j_aload_n (pc := 99) C d_Model_both_99 rfl 5 rfl ?_
                            refine j_callVv (pc := 100) C (c_M_takesBack l D y mo ma t1 i2 i3 i4 i5 i6 i7 i8 i42 i49 i51 i53 i54 i59 i61 i64 i66 t67 i76 i78 z600 u16 dy xh18) kw_Model_495 kv_Model_takesBack 0 10 rfl rfl ⟨by decide, by decide⟩ ⟨by decide, by decide⟩ (wr := [(ma 45, .inl (y 0, 14, .inl g45)), (ma 63, .inl (y 0, 9, .inl z599)), (ma 43, .inl (y 0, 8, .inl g43)), (ma 48, .inl (y 0, 224, .inl g48)), (ma 46, .inl (y 0, 108, .inl g46))]) [6, 4, 5] [0, 1, 2, 3, 7] rfl rfl (by decide) (by decide) (by decide) (As := []) (rest := []) rfl (nb rfl) rfl d_Model_both_100 (fun u743 hu744 => ?_)
                            have xh745 := hu744
                            refine j_ws (ws' := [(ma 45, .inl (y 0, 14, .inl g45)), (ma 63, .inl (y 0, 9, .inl z599)), (ma 43, .inl (y 0, 8, .inl g43)), (ma 48, .inl (y 0, 224, .inl g48)), (ma 46, .inl (y 0, 108, .inl g46)), MB mo ma (nI t1) i2 i3 i4 i5 i6 i7 i8 i42 i49 i51 i53 i54 i59 i61 i64 i66 (nI t67) i76 i78, (ma 62, .inl (y 0, 63, .inl u743)), (ma 68, .inl (y 0, 63, .inl u16))]) rfl ?_
                            refine j_aload_n (pc := 103) C d_Model_both_103 rfl 5 rfl ?_
                            refine j_iload_n (pc := 104) C d_Model_both_104 rfl 4 rfl ?_
                            refine j_iload (pc := 105) C d_Model_both_105 1 rfl ?_
                            refine j_callVv (pc := 107) C (c_M_boardsAre l D y mo ma t1 i2 i3 i4 i5 i6 i7 i8 i42 i49 i51 i53 i54 i59 i61 i64 i66 t67 i76 i78 g46 u743 q10 (nI iz) dy (by omega) xh745 (by omega)) kw_Model_536 kv_Model_boardsAre 0 10 rfl rfl ⟨by decide, by decide⟩ ⟨by decide, by decide⟩ (wr := [(ma 45, .inl (y 0, 14, .inl g45)), (ma 63, .inl (y 0, 9, .inl z599)), (ma 43, .inl (y 0, 8, .inl g43)), (ma 48, .inl (y 0, 224, .inl g48)), (ma 68, .inl (y 0, 63, .inl u16))]) [5, 4, 6] [0, 1, 2, 3, 7] rfl rfl (by decide) (by decide) (by decide) (As := [.int (nI q10), .int (nI iz)]) (rest := []) rfl (nb rfl) rfl d_Model_both_107 (fun u746 hu747 => ?_)
                            have xh748 := hu747
                            refine j_ws (ws' := [(ma 45, .inl (y 0, 14, .inl g45)), (ma 63, .inl (y 0, 9, .inl z599)), (ma 43, .inl (y 0, 8, .inl g43)), (ma 48, .inl (y 0, 224, .inl g48)), (ma 68, .inl (y 0, 63, .inl u16)), MB mo ma (nI t1) i2 i3 i4 i5 i6 i7 i8 i42 i49 i51 i53 i54 i59 i61 i64 i66 (nI t67) i76 i78, (ma 46, .inl (y 0, 108, .inl g46)), (ma 62, .inl (y 0, 63, .inl u746))]) rfl ?_
                            refine j_aload_n (pc := 110) C d_Model_both_110 rfl 5 rfl ?_
                            refine j_iload (pc := 111) C d_Model_both_111 3 rfl ?_
                            refine j_iload (pc := 113) C d_Model_both_113 0 rfl ?_
                            refine j_callVv (pc := 115) C (c_M_boardsAre l D y mo ma t1 i2 i3 i4 i5 i6 i7 i8 i42 i49 i51 i53 i54 i59 i61 i64 i66 t67 i76 i78 g46 u746 q14 (nI iy) dy (by omega) xh748 (by omega)) kw_Model_536 kv_Model_boardsAre 0 10 rfl rfl ⟨by decide, by decide⟩ ⟨by decide, by decide⟩ (wr := [(ma 45, .inl (y 0, 14, .inl g45)), (ma 63, .inl (y 0, 9, .inl z599)), (ma 43, .inl (y 0, 8, .inl g43)), (ma 48, .inl (y 0, 224, .inl g48)), (ma 68, .inl (y 0, 63, .inl u16))]) [5, 6, 7] [0, 1, 2, 3, 4] rfl rfl (by decide) (by decide) (by decide) (As := [.int (nI q14), .int (nI iy)]) (rest := []) rfl (nb rfl) rfl d_Model_both_115 (fun u749 hu750 => ?_)
                            have xh751 := hu750
                            refine j_ws (ws' := [(ma 45, .inl (y 0, 14, .inl g45)), (ma 63, .inl (y 0, 9, .inl z599)), (ma 43, .inl (y 0, 8, .inl g43)), (ma 48, .inl (y 0, 224, .inl g48)), (ma 68, .inl (y 0, 63, .inl u16)), MB mo ma (nI t1) i2 i3 i4 i5 i6 i7 i8 i42 i49 i51 i53 i54 i59 i61 i64 i66 (nI t67) i76 i78, (ma 46, .inl (y 0, 108, .inl g46)), (ma 62, .inl (y 0, 63, .inl u749))]) rfl ?_
                            refine j_aload_n (pc := 118) C d_Model_both_118 rfl 5 rfl ?_
                            refine j_callVi (pc := 119) C (c_M_flowsNow l D y mo ma t1 i2 i3 i4 i5 i6 i7 i8 i42 i49 i51 i53 i54 i59 i61 i64 i66 t67 i76 i78 g43 g45 g46 u749 z599 c0 hc0 bc0 hL hS) kw_Model_434 kv_Model_flowsNow 0 10 rfl rfl ⟨by decide, by decide⟩ ⟨by decide, by decide⟩ (wr := [(ma 48, .inl (y 0, 224, .inl g48)), (ma 68, .inl (y 0, 63, .inl u16))]) [5, 2, 0, 6, 7, 1] [3, 4] rfl rfl (by decide) (by decide) (by decide) (As := []) (rest := []) rfl (nb rfl) rfl d_Model_both_119 (fun r752 u753 hr752 => ?_)
                            refine j_ws (ws' := [(ma 48, .inl (y 0, 224, .inl g48)), (ma 68, .inl (y 0, 63, .inl u16)), MB mo ma (nI t1) i2 i3 i4 i5 i6 i7 i8 i42 i49 i51 i53 i54 i59 i61 i64 i66 (nI t67) i76 i78, (ma 43, .inl (y 0, 8, .inl g43)), (ma 45, .inl (y 0, 14, .inl g45)), (ma 46, .inl (y 0, 108, .inl g46)), (ma 62, .inl (y 0, 63, .inl u749)), (ma 63, .inl (y 0, 9, .inl u753))]) rfl ?_
                            refine j_istore (pc := 122) C (lv' := [(8, .int r752), (7, .int (nI iy)), (6, .int (nI iz)), (5, .int z601), (4, .int (nI q14)), (3, .int (nI q10)), (0, .ref mo), (1, .int (nI j2)), (2, .int (nI j5))]) d_Model_both_122 (by decide) rfl ?_
                            refine j_aload_n (pc := 124) C d_Model_both_124 rfl 6 rfl ?_
                            refine j_iload_n (pc := 125) C d_Model_both_125 rfl 7 rfl ?_
                            refine j_aload_n (pc := 126) C d_Model_both_126 rfl 6 rfl ?_
                            refine j_get (pc := 127) C gf_Model_161 2 rfl rfl d_Model_both_127 ?_
                            refine j_iload_n (pc := 130) C d_Model_both_130 rfl 5 rfl ?_
                            refine j_iald (pc := 131) C 7 rfl (v := u753 q10) (vp_in_nI (by omega) (by decide)) (by rw [nI_clamp (by omega)]) d_Model_both_131 ?_
                            refine j_callVi (pc := 132) C (c_M_isServed l D y mo ma t1 i2 i3 i4 i5 i6 i7 i8 i42 i49 i51 i53 i54 i59 i61 i64 i66 t67 i76 i78 g48 u749 j2 (u753 q10) (by omega)) kw_Model_550 kv_Model_isServed 0 10 rfl rfl ⟨by decide, by decide⟩ ⟨by decide, by decide⟩ (wr := [(ma 68, .inl (y 0, 63, .inl u16)), (ma 43, .inl (y 0, 8, .inl g43)), (ma 45, .inl (y 0, 14, .inl g45)), (ma 46, .inl (y 0, 108, .inl g46)), (ma 63, .inl (y 0, 9, .inl u753))]) [2, 0, 6] [1, 3, 4, 5, 7] rfl rfl (by decide) (by decide) (by decide) (As := [.int (nI j2), .int (u753 q10)]) (rest := []) rfl (nb rfl) rfl d_Model_both_132 (fun r754 _ hr754 => ?_)
                            have xh755 := hr754
                            refine j_ws (ws' := [(ma 68, .inl (y 0, 63, .inl u16)), (ma 43, .inl (y 0, 8, .inl g43)), (ma 45, .inl (y 0, 14, .inl g45)), (ma 46, .inl (y 0, 108, .inl g46)), (ma 63, .inl (y 0, 9, .inl u753)), MB mo ma (nI t1) i2 i3 i4 i5 i6 i7 i8 i42 i49 i51 i53 i54 i59 i61 i64 i66 (nI t67) i76 i78, (ma 48, .inl (y 0, 224, .inl g48)), (ma 62, .inl (y 0, 63, .inl u749))]) rfl ?_
                            refine j_if_eq (pc := 135) C (tgt := 156) d_Model_both_135 (by decide) (fun c756 => ?_) (fun c756 => ?_)
                            · refine j_iinc (pc := 156) C (v := nI (iy + 1)) (lv' := [(7, .int (nI (iy + 1))), (8, .int r752), (6, .int (nI iz)), (5, .int z601), (4, .int (nI q14)), (3, .int (nI q10)), (0, .ref mo), (1, .int (nI j2)), (2, .int (nI j5))]) d_Model_both_156 1 rfl (nI_add _ _) (by decide) rfl ?_
                              refine j_goto (pc := 159) C (tgt := 61) d_Model_both_159 (by decide) ?_
                              refine j_sub (ws' := [(ma 45, .inl (y 0, 14, .inl g45)), (ma 46, .inl (y 0, 108, .inl g46)), (ma 63, .inl (y 0, 9, .inl u753)), (ma 43, .inl (y 0, 8, .inl g43)), (ma 48, .inl (y 0, 224, .inl g48)), MB mo ma (nI t1) i2 i3 i4 i5 i6 i7 i8 i42 i49 i51 i53 i54 i59 i61 i64 i66 (nI t67) i76 i78, (ma 62, .inl (y 0, 63, .inl u749)), (ma 68, .inl (y 0, 63, .inl u16))]) [2, 3, 4, 1, 6, 5, 7, 0] rfl (by decide) ?_
                              refine j_locs (lv' := [(7, .int (nI (iy + 1))), (6, .int (nI iz)), (5, .int z601), (4, .int (nI q14)), (3, .int (nI q10)), (0, .ref mo), (1, .int (nI j2)), (2, .int (nI j5))]) [0, 2, 3, 4, 5, 6, 7, 8] rfl ?_
                              exact ih681 ((iy + 1), u753, u749, z601) (show (iy + 1) ≤ 21 by omega) (show 21 - (iy + 1) < 21 - iy by omega)
                            · refine j_aload_n (pc := 138) C d_Model_both_138 rfl 6 rfl ?_
                              refine j_iload_n (pc := 139) C d_Model_both_139 rfl 8 rfl ?_
                              refine j_aload_n (pc := 140) C d_Model_both_140 rfl 6 rfl ?_
                              refine j_get (pc := 141) C gf_Model_161 5 rfl rfl d_Model_both_141 ?_
                              refine j_iload (pc := 144) C d_Model_both_144 4 rfl ?_
                              refine j_iald (pc := 146) C 4 rfl (v := u753 q14) (vp_in_nI (by omega) (by decide)) (by rw [nI_clamp (by omega)]) d_Model_both_146 ?_
                              refine j_callVi (pc := 147) C (c_M_isServed l D y mo ma t1 i2 i3 i4 i5 i6 i7 i8 i42 i49 i51 i53 i54 i59 i61 i64 i66 t67 i76 i78 g48 u749 j5 (u753 q14) (by omega)) kw_Model_550 kv_Model_isServed 0 10 rfl rfl ⟨by decide, by decide⟩ ⟨by decide, by decide⟩ (wr := [(ma 68, .inl (y 0, 63, .inl u16)), (ma 43, .inl (y 0, 8, .inl g43)), (ma 45, .inl (y 0, 14, .inl g45)), (ma 46, .inl (y 0, 108, .inl g46)), (ma 63, .inl (y 0, 9, .inl u753))]) [5, 6, 7] [0, 1, 2, 3, 4] rfl rfl (by decide) (by decide) (by decide) (As := [.int (nI j5), .int (u753 q14)]) (rest := []) rfl (nb rfl) rfl d_Model_both_147 (fun r757 _ hr757 => ?_)
                              have xh758 := hr757
                              refine j_ws (ws' := [(ma 68, .inl (y 0, 63, .inl u16)), (ma 43, .inl (y 0, 8, .inl g43)), (ma 45, .inl (y 0, 14, .inl g45)), (ma 46, .inl (y 0, 108, .inl g46)), (ma 63, .inl (y 0, 9, .inl u753)), MB mo ma (nI t1) i2 i3 i4 i5 i6 i7 i8 i42 i49 i51 i53 i54 i59 i61 i64 i66 (nI t67) i76 i78, (ma 48, .inl (y 0, 224, .inl g48)), (ma 62, .inl (y 0, 63, .inl u749))]) rfl ?_
                              refine j_if_eq (pc := 150) C (tgt := 156) d_Model_both_150 (by decide) (fun c759 => ?_) (fun c759 => ?_)
                              · refine j_iinc (pc := 156) C (v := nI (iy + 1)) (lv' := [(7, .int (nI (iy + 1))), (8, .int r752), (6, .int (nI iz)), (5, .int z601), (4, .int (nI q14)), (3, .int (nI q10)), (0, .ref mo), (1, .int (nI j2)), (2, .int (nI j5))]) d_Model_both_156 1 rfl (nI_add _ _) (by decide) rfl ?_
                                refine j_goto (pc := 159) C (tgt := 61) d_Model_both_159 (by decide) ?_
                                refine j_sub (ws' := [(ma 45, .inl (y 0, 14, .inl g45)), (ma 46, .inl (y 0, 108, .inl g46)), (ma 63, .inl (y 0, 9, .inl u753)), (ma 43, .inl (y 0, 8, .inl g43)), (ma 48, .inl (y 0, 224, .inl g48)), MB mo ma (nI t1) i2 i3 i4 i5 i6 i7 i8 i42 i49 i51 i53 i54 i59 i61 i64 i66 (nI t67) i76 i78, (ma 62, .inl (y 0, 63, .inl u749)), (ma 68, .inl (y 0, 63, .inl u16))]) [2, 3, 4, 1, 6, 5, 7, 0] rfl (by decide) ?_
                                refine j_locs (lv' := [(7, .int (nI (iy + 1))), (6, .int (nI iz)), (5, .int z601), (4, .int (nI q14)), (3, .int (nI q10)), (0, .ref mo), (1, .int (nI j2)), (2, .int (nI j5))]) [0, 2, 3, 4, 5, 6, 7, 8] rfl ?_
                                exact ih681 ((iy + 1), u753, u749, z601) (show (iy + 1) ≤ 21 by omega) (show 21 - (iy + 1) < 21 - iy by omega)
                              · refine j_iconst (pc := 153) C (v := 1) d_Model_both_153 (by decide) ?_
                                refine j_istore (pc := 154) C (lv' := [(5, .int 1), (8, .int r752), (7, .int (nI iy)), (6, .int (nI iz)), (4, .int (nI q14)), (3, .int (nI q10)), (0, .ref mo), (1, .int (nI j2)), (2, .int (nI j5))]) d_Model_both_154 (by decide) rfl ?_
                                refine j_iinc (pc := 156) C (v := nI (iy + 1)) (lv' := [(7, .int (nI (iy + 1))), (5, .int 1), (8, .int r752), (6, .int (nI iz)), (4, .int (nI q14)), (3, .int (nI q10)), (0, .ref mo), (1, .int (nI j2)), (2, .int (nI j5))]) d_Model_both_156 2 rfl (nI_add _ _) (by decide) rfl ?_
                                refine j_goto (pc := 159) C (tgt := 61) d_Model_both_159 (by decide) ?_
                                refine j_sub (ws' := [(ma 45, .inl (y 0, 14, .inl g45)), (ma 46, .inl (y 0, 108, .inl g46)), (ma 63, .inl (y 0, 9, .inl u753)), (ma 43, .inl (y 0, 8, .inl g43)), (ma 48, .inl (y 0, 224, .inl g48)), MB mo ma (nI t1) i2 i3 i4 i5 i6 i7 i8 i42 i49 i51 i53 i54 i59 i61 i64 i66 (nI t67) i76 i78, (ma 62, .inl (y 0, 63, .inl u749)), (ma 68, .inl (y 0, 63, .inl u16))]) [2, 3, 4, 1, 6, 5, 7, 0] rfl (by decide) ?_
                                refine j_locs (lv' := [(7, .int (nI (iy + 1))), (6, .int (nI iz)), (5, .int 1), (4, .int (nI q14)), (3, .int (nI q10)), (0, .ref mo), (1, .int (nI j2)), (2, .int (nI j5))]) [0, 3, 1, 4, 5, 6, 7, 8] rfl ?_
                                exact ih681 ((iy + 1), u753, u749, 1) (show (iy + 1) ≤ 21 by omega) (show 21 - (iy + 1) < 21 - iy by omega)
                          · refine j_icmp_eqF (pc := 93) C (tgt := 99) d_Model_both_93 (by decide) (show ¬ nI iz = nI iy from fun e => absurd ((nI_eq (by omega) (by omega)).mp e) (by omega)) ?_
                            refine j_goto (pc := 96) C (tgt := 156) d_Model_both_96 (by decide) ?_
                            refine j_iinc (pc := 156) C (v := nI (iy + 1)) (lv' := [(7, .int (nI (iy + 1))), (6, .int (nI iz)), (5, .int z601), (4, .int (nI q14)), (3, .int (nI q10)), (0, .ref mo), (1, .int (nI j2)), (2, .int (nI j5))]) d_Model_both_156 0 rfl (nI_add _ _) (by decide) rfl ?_
                            refine j_goto (pc := 159) C (tgt := 61) d_Model_both_159 (by decide) ?_
                            refine j_sub (ws' := [(ma 45, .inl (y 0, 14, .inl g45)), (ma 46, .inl (y 0, 108, .inl g46)), (ma 63, .inl (y 0, 9, .inl z599)), (ma 43, .inl (y 0, 8, .inl g43)), (ma 48, .inl (y 0, 224, .inl g48)), MB mo ma (nI t1) i2 i3 i4 i5 i6 i7 i8 i42 i49 i51 i53 i54 i59 i61 i64 i66 (nI t67) i76 i78, (ma 62, .inl (y 0, 63, .inl z600)), (ma 68, .inl (y 0, 63, .inl u16))]) [0, 7, 1, 2, 3, 6, 4, 5] rfl (by decide) ?_
                            exact ih681 ((iy + 1), z599, z600, z601) (show (iy + 1) ≤ 21 by omega) (show 21 - (iy + 1) < 21 - iy by omega)
      · refine j_icmp_neF (pc := 18) C (tgt := 23) d_Model_both_18 (by decide) (show nI j2 = nI j5 from (nI_eq (by omega) (by omega)).mpr (by omega)) ?_
        refine j_iconst (pc := 21) C (v := (-1)) d_Model_both_21 (by decide) ?_
        exact j_iret (pc := 22) C hr rfl (g62, g63, g68) hD [6, 7, 0, 1, 2, 3, 4, 5] rfl (by decide) (by decide) (by decide) d_Model_both_22
theorem d_Model_until_0 : decode prog_13_method_107_code 0 = .ok (.iconst (-1), 1) := by decide +kernel
theorem d_Model_until_1 : decode prog_13_method_107_code 1 = .ok (.istore_n 3, 1) := by decide +kernel
theorem d_Model_until_2 : decode prog_13_method_107_code 2 = .ok (.aload_n 0, 1) := by decide +kernel
theorem d_Model_until_3 : decode prog_13_method_107_code 3 = .ok (.invokevirtual 510, 3) := by decide +kernel
theorem d_Model_until_6 : decode prog_13_method_107_code 6 = .ok (.iconst 0, 1) := by decide +kernel
theorem d_Model_until_7 : decode prog_13_method_107_code 7 = .ok (.istore 4, 2) := by decide +kernel
theorem d_Model_until_9 : decode prog_13_method_107_code 9 = .ok (.iload 4, 2) := by decide +kernel
theorem d_Model_until_11 : decode prog_13_method_107_code 11 = .ok (.bipush 100, 2) := by decide +kernel
theorem d_Model_until_13 : decode prog_13_method_107_code 13 = .ok (.if_icmp .ge 71, 3) := by decide +kernel
theorem d_Model_until_84 : decode prog_13_method_107_code 84 = .ok (.aload_n 0, 1) := by decide +kernel
theorem d_Model_until_85 : decode prog_13_method_107_code 85 = .ok (.invokevirtual 495, 3) := by decide +kernel
theorem d_Model_until_88 : decode prog_13_method_107_code 88 = .ok (.iload_n 3, 1) := by decide +kernel
theorem d_Model_until_89 : decode prog_13_method_107_code 89 = .ok (.ireturn, 1) := by decide +kernel
theorem d_Model_until_16 : decode prog_13_method_107_code 16 = .ok (.iload_n 3, 1) := by decide +kernel
theorem d_Model_until_17 : decode prog_13_method_107_code 17 = .ok (.iconst (-1), 1) := by decide +kernel
theorem d_Model_until_18 : decode prog_13_method_107_code 18 = .ok (.if_icmp .ne 66, 3) := by decide +kernel
theorem d_Model_until_21 : decode prog_13_method_107_code 21 = .ok (.iload_n 2, 1) := by decide +kernel
theorem d_Model_until_22 : decode prog_13_method_107_code 22 = .ok (.ifCond .eq 14, 3) := by decide +kernel
theorem d_Model_until_36 : decode prog_13_method_107_code 36 = .ok (.aload_n 0, 1) := by decide +kernel
theorem d_Model_until_37 : decode prog_13_method_107_code 37 = .ok (.invokevirtual 427, 3) := by decide +kernel
theorem d_Model_until_40 : decode prog_13_method_107_code 40 = .ok (.iload_n 1, 1) := by decide +kernel
theorem d_Model_until_41 : decode prog_13_method_107_code 41 = .ok (.if_icmp .ge 13, 3) := by decide +kernel
theorem d_Model_until_54 : decode prog_13_method_107_code 54 = .ok (.aload_n 0, 1) := by decide +kernel
theorem d_Model_until_55 : decode prog_13_method_107_code 55 = .ok (.getfield 158, 3) := by decide +kernel
theorem d_Model_until_58 : decode prog_13_method_107_code 58 = .ok (.iconst 0, 1) := by decide +kernel
theorem d_Model_until_59 : decode prog_13_method_107_code 59 = .ok (.iaload, 1) := by decide +kernel
theorem d_Model_until_60 : decode prog_13_method_107_code 60 = .ok (.sipush 999, 3) := by decide +kernel
theorem d_Model_until_63 : decode prog_13_method_107_code 63 = .ok (.if_icmp .ne 10, 3) := by decide +kernel
theorem d_Model_until_73 : decode prog_13_method_107_code 73 = .ok (.aload_n 0, 1) := by decide +kernel
theorem d_Model_until_74 : decode prog_13_method_107_code 74 = .ok (.iconst 0, 1) := by decide +kernel
theorem d_Model_until_75 : decode prog_13_method_107_code 75 = .ok (.invokevirtual 488, 3) := by decide +kernel
theorem d_Model_until_78 : decode prog_13_method_107_code 78 = .ok (.iinc 4 1, 3) := by decide +kernel
theorem d_Model_until_81 : decode prog_13_method_107_code 81 = .ok (.goto (-72), 3) := by decide +kernel
theorem d_Model_until_66 : decode prog_13_method_107_code 66 = .ok (.bipush 100, 2) := by decide +kernel
theorem d_Model_until_68 : decode prog_13_method_107_code 68 = .ok (.istore 4, 2) := by decide +kernel
theorem d_Model_until_70 : decode prog_13_method_107_code 70 = .ok (.goto 8, 3) := by decide +kernel
theorem d_Model_until_44 : decode prog_13_method_107_code 44 = .ok (.aload_n 0, 1) := by decide +kernel
theorem d_Model_until_45 : decode prog_13_method_107_code 45 = .ok (.getfield 158, 3) := by decide +kernel
theorem d_Model_until_48 : decode prog_13_method_107_code 48 = .ok (.iconst 0, 1) := by decide +kernel
theorem d_Model_until_49 : decode prog_13_method_107_code 49 = .ok (.iaload, 1) := by decide +kernel
theorem d_Model_until_50 : decode prog_13_method_107_code 50 = .ok (.istore_n 3, 1) := by decide +kernel
theorem d_Model_until_51 : decode prog_13_method_107_code 51 = .ok (.goto 27, 3) := by decide +kernel
theorem d_Model_until_25 : decode prog_13_method_107_code 25 = .ok (.aload_n 0, 1) := by decide +kernel
theorem d_Model_until_26 : decode prog_13_method_107_code 26 = .ok (.invokevirtual 427, 3) := by decide +kernel
theorem d_Model_until_29 : decode prog_13_method_107_code 29 = .ok (.iload_n 1, 1) := by decide +kernel
theorem d_Model_until_30 : decode prog_13_method_107_code 30 = .ok (.if_icmp .le 24, 3) := by decide +kernel
theorem d_Model_until_33 : decode prog_13_method_107_code 33 = .ok (.goto 11, 3) := by decide +kernel
set_option maxHeartbeats 4000000 in
set_option maxRecDepth 100000 in
theorem c_M_until (l : Launch) (D : va_G) (y : Nat → ClassId) (mo : Nat) (ma : Nat → Nat) (t1 : Nat) (i2 : Int32) (i3 : Int32) (i4 : Int32) (i5 : Int32) (i6 : Int32) (i7 : Int32) (i8 : Int32) (i42 : Int32) (i49 : Int32) (i51 : Int32) (i53 : Int32) (i54 : Int32) (i59 : Int32) (i61 : Int32) (i64 : Int32) (i66 : Int32) (t67 : Nat) (i76 : Int64) (i78 : Int32) (g43 : Nat → Int32) (g45 : Nat → Int32) (g46 : Nat → Int32) (g48 : Nat → Int32) (g50 : Nat → Int32) (g55 : Nat → Int32) (g56 : Nat → Int32) (g57 : Nat → Int32) (g58 : Nat → Int32) (g60 : Nat → Int64) (g62 : Nat → Int32) (g63 : Nat → Int32) (g68 : Nat → Int32) (v1 : Int32) (v2 : Int32) (c0 : Nat) (c1 : Nat) (c2 : Nat) (c3 : Nat) (dy : Nat) (hc0 : g43 4 = nI c0) (bc0 : c0 ≤ 9) (hc1 : g43 5 = nI c1) (bc1 : c1 ≤ 6) (hc2 : g43 6 = nI c2) (bc2 : c2 ≤ 16) (hc3 : g43 7 = nI c3) (bc3 : c3 ≤ 8) (hL : ¬ g45 7 = 0) (hS : ∀ j, j < 9 → g46 (54 + 6 * j) = 2 → ¬ g46 (54 + 6 * j + 1) = 0) (hG : ∀ j, j < 9 → g46 (54 + 6 * j + 5) = -1 ∨ ∃ q, q < 9 ∧ g46 (54 + 6 * j + 5) = nI q) (hTh : ∀ j, j < 16 → (∃ q, q < 6 ∧ g48 (112 + 7 * j) = nI q) ∧ ∃ q, q < 9 ∧ g48 (112 + 7 * j + 1) = nI q) (hC : ∀ k, 8 ≤ k → k < 8 + c3 → ∃ a b c, g56 k = nI a ∧ g57 k = nI b ∧ g58 k = nI c ∧ a ≤ b ∧ b ≤ c ∧ c ≤ 1600 ∧ (∃ q, dp g50 (1600 + a) (b - a) = some q) ∧ (∃ q, dp g50 (1600 + b) (c - b) = some q)) (hD : g62 0 = nI dy) (bD : dy ≤ 999) : CT l D y ⟨"NineBoardsModel", "until", "(IZ)I"⟩ prog_13_method_107_code 5 (some .int) ({ frames := 5, cells := 0, slots := 0, locals := 129 } : Room) [.ref mo, .int v1, .int v2] [MB mo ma (nI t1) i2 i3 i4 i5 i6 i7 i8 i42 i49 i51 i53 i54 i59 i61 i64 i66 (nI t67) i76 i78, (ma 43, .inl (y 0, 8, .inl g43)), (ma 45, .inl (y 0, 14, .inl g45)), (ma 46, .inl (y 0, 108, .inl g46)), (ma 48, .inl (y 0, 224, .inl g48)), (ma 50, .inl (y 0, 3200, .inl g50)), (ma 55, .inl (y 2, 16, .inl g55)), (ma 56, .inl (y 0, 16, .inl g56)), (ma 57, .inl (y 0, 16, .inl g57)), (ma 58, .inl (y 0, 16, .inl g58)), (ma 60, .inl (y 1, 1700, .inr (.inl g60))), (ma 62, .inl (y 0, 63, .inl g62)), (ma 63, .inl (y 0, 9, .inl g63)), (ma 68, .inl (y 0, 63, .inl g68))] (QI D [MB mo ma (nI t1) i2 i3 i4 i5 i6 i7 i8 i42 i49 i51 i53 i54 i59 i61 i64 i66 (nI t67) i76 i78, (ma 43, .inl (y 0, 8, .inl g43)), (ma 45, .inl (y 0, 14, .inl g45)), (ma 46, .inl (y 0, 108, .inl g46)), (ma 48, .inl (y 0, 224, .inl g48)), (ma 50, .inl (y 0, 3200, .inl g50)), (ma 55, .inl (y 2, 16, .inl g55)), (ma 56, .inl (y 0, 16, .inl g56)), (ma 57, .inl (y 0, 16, .inl g57)), (ma 58, .inl (y 0, 16, .inl g58)), (ma 60, .inl (y 1, 1700, .inr (.inl g60))), (ma 62, .inl (y 0, 63, .inl g62)), (ma 63, .inl (y 0, 9, .inl g63)), (ma 68, .inl (y 0, 63, .inl g68))] (fun (r : Int32) (u : Int32 × Int32 × (Nat → Int64) × (Nat → Int32) × (Nat → Int32) × (Nat → Int32)) => u.2.2.2.1 0 = nI dy) (fun u => [MB mo ma (nI t1) i2 i3 i4 i5 i6 i7 i8 i42 i49 i51 i53 i54 i59 u.1 u.2.1 i66 (nI t67) i76 i78, (ma 43, .inl (y 0, 8, .inl g43)), (ma 45, .inl (y 0, 14, .inl g45)), (ma 46, .inl (y 0, 108, .inl g46)), (ma 48, .inl (y 0, 224, .inl g48)), (ma 50, .inl (y 0, 3200, .inl g50)), (ma 55, .inl (y 2, 16, .inl g55)), (ma 56, .inl (y 0, 16, .inl g56)), (ma 57, .inl (y 0, 16, .inl g57)), (ma 58, .inl (y 0, 16, .inl g58)), (ma 60, .inl (y 1, 1700, .inr (.inl u.2.2.1))), (ma 62, .inl (y 0, 63, .inl u.2.2.2.1)), (ma 63, .inl (y 0, 9, .inl u.2.2.2.2.1)), (ma 68, .inl (y 0, 63, .inl u.2.2.2.2.2))])) := by
  refine CT.of (by decide) (nb rfl) ?_
  intro p e s m args below meth c C hr
  refine j_lv (lv' := [(0, .ref mo), (1, .int v1), (2, .int v2)]) rfl ?_
  refine j_iconst (pc := 0) C (v := (-1)) d_Model_until_0 (by decide) ?_
  refine j_istore_n (pc := 1) C (lv' := [(3, .int (-1)), (0, .ref mo), (1, .int v1), (2, .int v2)]) d_Model_until_1 rfl (by decide) rfl ?_
  refine j_aload_n (pc := 2) C d_Model_until_2 rfl 1 rfl ?_
  refine j_callVv (pc := 3) C (c_M_putsAside l D y mo ma t1 i2 i3 i4 i5 i6 i7 i8 i42 i49 i51 i53 i54 i59 i61 i64 i66 t67 i76 i78 g62 g68 dy hD) kw_Model_510 kv_Model_putsAside 0 10 rfl rfl ⟨by decide, by decide⟩ ⟨by decide, by decide⟩ (wr := [(ma 43, .inl (y 0, 8, .inl g43)), (ma 45, .inl (y 0, 14, .inl g45)), (ma 46, .inl (y 0, 108, .inl g46)), (ma 48, .inl (y 0, 224, .inl g48)), (ma 50, .inl (y 0, 3200, .inl g50)), (ma 55, .inl (y 2, 16, .inl g55)), (ma 56, .inl (y 0, 16, .inl g56)), (ma 57, .inl (y 0, 16, .inl g57)), (ma 58, .inl (y 0, 16, .inl g58)), (ma 60, .inl (y 1, 1700, .inr (.inl g60))), (ma 63, .inl (y 0, 9, .inl g63))]) [0, 11, 13] [1, 2, 3, 4, 5, 6, 7, 8, 9, 10, 12] rfl rfl (by decide) (by decide) (by decide) (As := []) (rest := []) rfl (nb rfl) rfl d_Model_until_3 (fun u1 hu2 => ?_)
  have xh3 := hu2
  refine j_ws (ws' := [(ma 43, .inl (y 0, 8, .inl g43)), (ma 45, .inl (y 0, 14, .inl g45)), (ma 46, .inl (y 0, 108, .inl g46)), (ma 48, .inl (y 0, 224, .inl g48)), (ma 50, .inl (y 0, 3200, .inl g50)), (ma 55, .inl (y 2, 16, .inl g55)), (ma 56, .inl (y 0, 16, .inl g56)), (ma 57, .inl (y 0, 16, .inl g57)), (ma 58, .inl (y 0, 16, .inl g58)), (ma 60, .inl (y 1, 1700, .inr (.inl g60))), (ma 63, .inl (y 0, 9, .inl g63)), MB mo ma (nI t1) i2 i3 i4 i5 i6 i7 i8 i42 i49 i51 i53 i54 i59 i61 i64 i66 (nI t67) i76 i78, (ma 62, .inl (y 0, 63, .inl g62)), (ma 68, .inl (y 0, 63, .inl u1))]) rfl ?_
  refine j_iconst (pc := 6) C (v := 0) d_Model_until_6 (by decide) ?_
  refine j_istore (pc := 7) C (lv' := [(4, .int 0), (3, .int (-1)), (0, .ref mo), (1, .int v1), (2, .int v2)]) d_Model_until_7 (by decide) rfl ?_
  refine j_loop (α := Nat × (Nat → Int32) × (Nat → Int64) × (Nat → Int32) × Int32 × Int32 × Int32 × Nat) (fun a => 101 - a.1) (fun a => (a.1 ≤ 101) ∧ (a.2.1 0 = nI a.2.2.2.2.2.2.2) ∧ (a.2.2.2.2.2.2.2 ≤ dy + a.1)) (fun a => [(ma 43, .inl (y 0, 8, .inl g43)), (ma 45, .inl (y 0, 14, .inl g45)), (ma 46, .inl (y 0, 108, .inl g46)), (ma 48, .inl (y 0, 224, .inl g48)), (ma 50, .inl (y 0, 3200, .inl g50)), (ma 55, .inl (y 2, 16, .inl g55)), (ma 56, .inl (y 0, 16, .inl g56)), (ma 57, .inl (y 0, 16, .inl g57)), (ma 58, .inl (y 0, 16, .inl g58)), (ma 60, .inl (y 1, 1700, .inr (.inl a.2.2.1))), (ma 63, .inl (y 0, 9, .inl a.2.2.2.1)), MB mo ma (nI t1) i2 i3 i4 i5 i6 i7 i8 i42 i49 i51 i53 i54 i59 a.2.2.2.2.1 a.2.2.2.2.2.1 i66 (nI t67) i76 i78, (ma 62, .inl (y 0, 63, .inl a.2.1)), (ma 68, .inl (y 0, 63, .inl u1))]) (fun a => [(4, .int (nI a.1)), (3, .int a.2.2.2.2.2.2.1), (0, .ref mo), (1, .int v1), (2, .int v2)]) (0, g62, g60, g63, i61, i64, (-1), dy) rfl rfl ⟨(show 0 ≤ 101 by omega), hD, (show dy ≤ dy + 0 by omega)⟩ ?_
  rintro ⟨iz, nz, z21, z22, z23, z24, z25, qd⟩ hP47 ih48
  obtain ⟨hi__, hn__, hq__⟩ := hP47
  have hi_ : iz ≤ 101 := hi__
  have hn_ : nz 0 = nI qd := hn__
  have hq_ : qd ≤ dy + iz := hq__
  refine j_ws (ws' := [(ma 43, .inl (y 0, 8, .inl g43)), (ma 45, .inl (y 0, 14, .inl g45)), (ma 46, .inl (y 0, 108, .inl g46)), (ma 48, .inl (y 0, 224, .inl g48)), (ma 50, .inl (y 0, 3200, .inl g50)), (ma 55, .inl (y 2, 16, .inl g55)), (ma 56, .inl (y 0, 16, .inl g56)), (ma 57, .inl (y 0, 16, .inl g57)), (ma 58, .inl (y 0, 16, .inl g58)), (ma 60, .inl (y 1, 1700, .inr (.inl z21))), (ma 63, .inl (y 0, 9, .inl z22)), MB mo ma (nI t1) i2 i3 i4 i5 i6 i7 i8 i42 i49 i51 i53 i54 i59 z23 z24 i66 (nI t67) i76 i78, (ma 62, .inl (y 0, 63, .inl nz)), (ma 68, .inl (y 0, 63, .inl u1))]) rfl ?_
  refine j_lv (lv' := [(4, .int (nI iz)), (3, .int z25), (0, .ref mo), (1, .int v1), (2, .int v2)]) rfl ?_
  refine j_iload (pc := 9) C d_Model_until_9 0 rfl ?_
  refine j_bipush (pc := 11) C (v := 100) d_Model_until_11 (by decide) ?_
  by_cases c49 : 100 ≤ iz
  · refine j_icmp_geT (pc := 13) C (tgt := 84) d_Model_until_13 (by decide) (show nI 100 ≤ nI iz from nI_le (by omega) (by omega)) ?_
    refine j_aload_n (pc := 84) C d_Model_until_84 rfl 2 rfl ?_
    refine j_callVv (pc := 85) C (c_M_takesBack l D y mo ma t1 i2 i3 i4 i5 i6 i7 i8 i42 i49 i51 i53 i54 i59 z23 z24 i66 t67 i76 i78 nz u1 dy xh3) kw_Model_495 kv_Model_takesBack 0 10 rfl rfl ⟨by decide, by decide⟩ ⟨by decide, by decide⟩ (wr := [(ma 43, .inl (y 0, 8, .inl g43)), (ma 45, .inl (y 0, 14, .inl g45)), (ma 46, .inl (y 0, 108, .inl g46)), (ma 48, .inl (y 0, 224, .inl g48)), (ma 50, .inl (y 0, 3200, .inl g50)), (ma 55, .inl (y 2, 16, .inl g55)), (ma 56, .inl (y 0, 16, .inl g56)), (ma 57, .inl (y 0, 16, .inl g57)), (ma 58, .inl (y 0, 16, .inl g58)), (ma 60, .inl (y 1, 1700, .inr (.inl z21))), (ma 63, .inl (y 0, 9, .inl z22))]) [11, 12, 13] [0, 1, 2, 3, 4, 5, 6, 7, 8, 9, 10] rfl rfl (by decide) (by decide) (by decide) (As := []) (rest := []) rfl (nb rfl) rfl d_Model_until_85 (fun u50 hu51 => ?_)
    have xh52 := hu51
    refine j_ws (ws' := [(ma 43, .inl (y 0, 8, .inl g43)), (ma 45, .inl (y 0, 14, .inl g45)), (ma 46, .inl (y 0, 108, .inl g46)), (ma 48, .inl (y 0, 224, .inl g48)), (ma 50, .inl (y 0, 3200, .inl g50)), (ma 55, .inl (y 2, 16, .inl g55)), (ma 56, .inl (y 0, 16, .inl g56)), (ma 57, .inl (y 0, 16, .inl g57)), (ma 58, .inl (y 0, 16, .inl g58)), (ma 60, .inl (y 1, 1700, .inr (.inl z21))), (ma 63, .inl (y 0, 9, .inl z22)), MB mo ma (nI t1) i2 i3 i4 i5 i6 i7 i8 i42 i49 i51 i53 i54 i59 z23 z24 i66 (nI t67) i76 i78, (ma 62, .inl (y 0, 63, .inl u50)), (ma 68, .inl (y 0, 63, .inl u1))]) rfl ?_
    refine j_iload_n (pc := 88) C d_Model_until_88 rfl 1 rfl ?_
    exact j_iret (pc := 89) C hr rfl (z23, z24, z21, u50, z22, u1) xh52 [11, 0, 1, 2, 3, 4, 5, 6, 7, 8, 9, 12, 10, 13] rfl (by decide) (by decide) (by decide) d_Model_until_89
  · refine j_icmp_geF (pc := 13) C (tgt := 84) d_Model_until_13 (by decide) (show ¬ nI 100 ≤ nI iz from nI_ge (by omega) (by omega)) ?_
    refine j_iload_n (pc := 16) C d_Model_until_16 rfl 1 rfl ?_
    refine j_iconst (pc := 17) C (v := (-1)) d_Model_until_17 (by decide) ?_
    refine j_icmp_ne (pc := 18) C (tgt := 84) d_Model_until_18 (by decide) (fun c53 => ?_) (fun c53 => ?_)
    · refine j_aload_n (pc := 84) C d_Model_until_84 rfl 2 rfl ?_
      refine j_callVv (pc := 85) C (c_M_takesBack l D y mo ma t1 i2 i3 i4 i5 i6 i7 i8 i42 i49 i51 i53 i54 i59 z23 z24 i66 t67 i76 i78 nz u1 dy xh3) kw_Model_495 kv_Model_takesBack 0 10 rfl rfl ⟨by decide, by decide⟩ ⟨by decide, by decide⟩ (wr := [(ma 43, .inl (y 0, 8, .inl g43)), (ma 45, .inl (y 0, 14, .inl g45)), (ma 46, .inl (y 0, 108, .inl g46)), (ma 48, .inl (y 0, 224, .inl g48)), (ma 50, .inl (y 0, 3200, .inl g50)), (ma 55, .inl (y 2, 16, .inl g55)), (ma 56, .inl (y 0, 16, .inl g56)), (ma 57, .inl (y 0, 16, .inl g57)), (ma 58, .inl (y 0, 16, .inl g58)), (ma 60, .inl (y 1, 1700, .inr (.inl z21))), (ma 63, .inl (y 0, 9, .inl z22))]) [11, 12, 13] [0, 1, 2, 3, 4, 5, 6, 7, 8, 9, 10] rfl rfl (by decide) (by decide) (by decide) (As := []) (rest := []) rfl (nb rfl) rfl d_Model_until_85 (fun u54 hu55 => ?_)
      have xh56 := hu55
      refine j_ws (ws' := [(ma 43, .inl (y 0, 8, .inl g43)), (ma 45, .inl (y 0, 14, .inl g45)), (ma 46, .inl (y 0, 108, .inl g46)), (ma 48, .inl (y 0, 224, .inl g48)), (ma 50, .inl (y 0, 3200, .inl g50)), (ma 55, .inl (y 2, 16, .inl g55)), (ma 56, .inl (y 0, 16, .inl g56)), (ma 57, .inl (y 0, 16, .inl g57)), (ma 58, .inl (y 0, 16, .inl g58)), (ma 60, .inl (y 1, 1700, .inr (.inl z21))), (ma 63, .inl (y 0, 9, .inl z22)), MB mo ma (nI t1) i2 i3 i4 i5 i6 i7 i8 i42 i49 i51 i53 i54 i59 z23 z24 i66 (nI t67) i76 i78, (ma 62, .inl (y 0, 63, .inl u54)), (ma 68, .inl (y 0, 63, .inl u1))]) rfl ?_
      refine j_iload_n (pc := 88) C d_Model_until_88 rfl 1 rfl ?_
      exact j_iret (pc := 89) C hr rfl (z23, z24, z21, u54, z22, u1) xh56 [11, 0, 1, 2, 3, 4, 5, 6, 7, 8, 9, 12, 10, 13] rfl (by decide) (by decide) (by decide) d_Model_until_89
    · refine j_iload_n (pc := 21) C d_Model_until_21 rfl 4 rfl ?_
      refine j_if_eq (pc := 22) C (tgt := 36) d_Model_until_22 (by decide) (fun c57 => ?_) (fun c57 => ?_)
      · refine j_aload_n (pc := 36) C d_Model_until_36 rfl 2 rfl ?_
        refine j_callVi (pc := 37) C (c_M_level l D y mo ma t1 i2 i3 i4 i5 i6 i7 i8 i42 i49 i51 i53 i54 i59 z23 z24 i66 t67 i76 i78 g45 nz hL) kw_Model_427 kv_Model_level 0 10 rfl rfl ⟨by decide, by decide⟩ ⟨by decide, by decide⟩ (wr := [(ma 43, .inl (y 0, 8, .inl g43)), (ma 46, .inl (y 0, 108, .inl g46)), (ma 48, .inl (y 0, 224, .inl g48)), (ma 50, .inl (y 0, 3200, .inl g50)), (ma 55, .inl (y 2, 16, .inl g55)), (ma 56, .inl (y 0, 16, .inl g56)), (ma 57, .inl (y 0, 16, .inl g57)), (ma 58, .inl (y 0, 16, .inl g58)), (ma 60, .inl (y 1, 1700, .inr (.inl z21))), (ma 63, .inl (y 0, 9, .inl z22)), (ma 68, .inl (y 0, 63, .inl u1))]) [11, 1, 12] [0, 2, 3, 4, 5, 6, 7, 8, 9, 10, 13] rfl rfl (by decide) (by decide) (by decide) (As := []) (rest := []) rfl (nb rfl) rfl d_Model_until_37 (fun r58 _ hr58 => ?_)
        refine j_ws (ws' := [(ma 43, .inl (y 0, 8, .inl g43)), (ma 46, .inl (y 0, 108, .inl g46)), (ma 48, .inl (y 0, 224, .inl g48)), (ma 50, .inl (y 0, 3200, .inl g50)), (ma 55, .inl (y 2, 16, .inl g55)), (ma 56, .inl (y 0, 16, .inl g56)), (ma 57, .inl (y 0, 16, .inl g57)), (ma 58, .inl (y 0, 16, .inl g58)), (ma 60, .inl (y 1, 1700, .inr (.inl z21))), (ma 63, .inl (y 0, 9, .inl z22)), (ma 68, .inl (y 0, 63, .inl u1)), MB mo ma (nI t1) i2 i3 i4 i5 i6 i7 i8 i42 i49 i51 i53 i54 i59 z23 z24 i66 (nI t67) i76 i78, (ma 45, .inl (y 0, 14, .inl g45)), (ma 62, .inl (y 0, 63, .inl nz))]) rfl ?_
        refine j_iload_n (pc := 40) C d_Model_until_40 rfl 3 rfl ?_
        refine j_icmp_ge (pc := 41) C (tgt := 54) d_Model_until_41 (by decide) (fun c59 => ?_) (fun c59 => ?_)
        · refine j_aload_n (pc := 54) C d_Model_until_54 rfl 2 rfl ?_
          refine j_get (pc := 55) C gf_Model_158 11 rfl rfl d_Model_until_55 ?_
          refine j_iconst (pc := 58) C (v := 0) d_Model_until_58 (by decide) ?_
          refine j_iald (pc := 59) C 13 rfl (v := nI qd) (vin (by decide)) (by exact hn_) d_Model_until_59 ?_
          refine j_sipush (pc := 60) C (v := 999) d_Model_until_60 (by decide) ?_
          by_cases c60 : ¬ qd = 999
          · refine j_icmp_neT (pc := 63) C (tgt := 73) d_Model_until_63 (by decide) (show ¬ nI qd = nI 999 from fun e => absurd ((nI_eq (by omega) (by omega)).mp e) (by omega)) ?_
            refine j_aload_n (pc := 73) C d_Model_until_73 rfl 2 rfl ?_
            refine j_iconst (pc := 74) C (v := 0) d_Model_until_74 (by decide) ?_
            refine j_callVv (pc := 75) C (c_M_goesBy l D y mo ma t1 i2 i3 i4 i5 i6 i7 i8 i42 i49 i51 i53 i54 i59 z23 z24 i66 t67 i76 i78 g43 g45 g46 g48 g50 g55 g56 g57 g58 z21 nz z22 0 c0 c1 c2 c3 qd hc0 bc0 hc1 bc1 hc2 bc2 hc3 bc3 hL hS hTh hC hn_ (by omega)) kw_Model_488 kv_Model_goesBy 0 10 rfl rfl ⟨by decide, by decide⟩ ⟨by decide, by decide⟩ (wr := [(ma 68, .inl (y 0, 63, .inl u1))]) [11, 0, 12, 1, 2, 3, 4, 5, 6, 7, 8, 13, 9] [10] rfl rfl (by decide) (by decide) (by decide) (As := [.int 0]) (rest := []) rfl (nb rfl) rfl d_Model_until_75 (fun u61 hu62 => ?_)
            have xh63 := hu62
            refine j_ws (ws' := [(ma 68, .inl (y 0, 63, .inl u1)), MB mo ma (nI t1) i2 i3 i4 i5 i6 i7 i8 i42 i49 i51 i53 i54 i59 u61.1 u61.2.1 i66 (nI t67) i76 i78, (ma 43, .inl (y 0, 8, .inl g43)), (ma 45, .inl (y 0, 14, .inl g45)), (ma 46, .inl (y 0, 108, .inl g46)), (ma 48, .inl (y 0, 224, .inl g48)), (ma 50, .inl (y 0, 3200, .inl g50)), (ma 55, .inl (y 2, 16, .inl g55)), (ma 56, .inl (y 0, 16, .inl g56)), (ma 57, .inl (y 0, 16, .inl g57)), (ma 58, .inl (y 0, 16, .inl g58)), (ma 60, .inl (y 1, 1700, .inr (.inl u61.2.2.1))), (ma 62, .inl (y 0, 63, .inl u61.2.2.2.1)), (ma 63, .inl (y 0, 9, .inl u61.2.2.2.2))]) rfl ?_
            refine j_iinc (pc := 78) C (v := nI (iz + 1)) (lv' := [(4, .int (nI (iz + 1))), (3, .int z25), (0, .ref mo), (1, .int v1), (2, .int v2)]) d_Model_until_78 0 rfl (nI_add _ _) (by decide) rfl ?_
            refine j_goto (pc := 81) C (tgt := 9) d_Model_until_81 (by decide) ?_
            refine j_sub (ws' := [(ma 43, .inl (y 0, 8, .inl g43)), (ma 45, .inl (y 0, 14, .inl g45)), (ma 46, .inl (y 0, 108, .inl g46)), (ma 48, .inl (y 0, 224, .inl g48)), (ma 50, .inl (y 0, 3200, .inl g50)), (ma 55, .inl (y 2, 16, .inl g55)), (ma 56, .inl (y 0, 16, .inl g56)), (ma 57, .inl (y 0, 16, .inl g57)), (ma 58, .inl (y 0, 16, .inl g58)), (ma 60, .inl (y 1, 1700, .inr (.inl u61.2.2.1))), (ma 63, .inl (y 0, 9, .inl u61.2.2.2.2)), MB mo ma (nI t1) i2 i3 i4 i5 i6 i7 i8 i42 i49 i51 i53 i54 i59 u61.1 u61.2.1 i66 (nI t67) i76 i78, (ma 62, .inl (y 0, 63, .inl u61.2.2.2.1)), (ma 68, .inl (y 0, 63, .inl u1))]) [2, 3, 4, 5, 6, 7, 8, 9, 10, 11, 13, 1, 12, 0] rfl (by decide) ?_
            exact ih48 ((iz + 1), u61.2.2.2.1, u61.2.2.1, u61.2.2.2.2, u61.1, u61.2.1, z25, (qd + 1)) ⟨(show (iz + 1) ≤ 101 by omega), xh63, (show (qd + 1) ≤ dy + (iz + 1) by omega)⟩ (show 101 - (iz + 1) < 101 - iz by omega)
          · refine j_icmp_neF (pc := 63) C (tgt := 73) d_Model_until_63 (by decide) (show nI qd = nI 999 from (nI_eq (by omega) (by omega)).mpr (by omega)) ?_
            refine j_bipush (pc := 66) C (v := 100) d_Model_until_66 (by decide) ?_
            refine j_istore (pc := 68) C (lv' := [(4, .int 100), (3, .int z25), (0, .ref mo), (1, .int v1), (2, .int v2)]) d_Model_until_68 (by decide) rfl ?_
            refine j_goto (pc := 70) C (tgt := 78) d_Model_until_70 (by decide) ?_
            refine j_iinc (pc := 78) C (v := 101) (lv' := [(4, .int 101), (3, .int z25), (0, .ref mo), (1, .int v1), (2, .int v2)]) d_Model_until_78 0 rfl (by decide) (by decide) rfl ?_
            refine j_goto (pc := 81) C (tgt := 9) d_Model_until_81 (by decide) ?_
            refine j_sub (ws' := [(ma 43, .inl (y 0, 8, .inl g43)), (ma 45, .inl (y 0, 14, .inl g45)), (ma 46, .inl (y 0, 108, .inl g46)), (ma 48, .inl (y 0, 224, .inl g48)), (ma 50, .inl (y 0, 3200, .inl g50)), (ma 55, .inl (y 2, 16, .inl g55)), (ma 56, .inl (y 0, 16, .inl g56)), (ma 57, .inl (y 0, 16, .inl g57)), (ma 58, .inl (y 0, 16, .inl g58)), (ma 60, .inl (y 1, 1700, .inr (.inl z21))), (ma 63, .inl (y 0, 9, .inl z22)), MB mo ma (nI t1) i2 i3 i4 i5 i6 i7 i8 i42 i49 i51 i53 i54 i59 z23 z24 i66 (nI t67) i76 i78, (ma 62, .inl (y 0, 63, .inl nz)), (ma 68, .inl (y 0, 63, .inl u1))]) [0, 12, 1, 2, 3, 4, 5, 6, 7, 8, 9, 11, 13, 10] rfl (by decide) ?_
            exact ih48 (101, nz, z21, z22, z23, z24, z25, qd) ⟨(show 101 ≤ 101 by omega), hn_, (show qd ≤ dy + 101 by omega)⟩ (show 101 - 101 < 101 - iz by omega)
        · refine j_aload_n (pc := 44) C d_Model_until_44 rfl 2 rfl ?_
          refine j_get (pc := 45) C gf_Model_158 11 rfl rfl d_Model_until_45 ?_
          refine j_iconst (pc := 48) C (v := 0) d_Model_until_48 (by decide) ?_
          refine j_iald (pc := 49) C 13 rfl (v := nI qd) (vin (by decide)) (by exact hn_) d_Model_until_49 ?_
          refine j_istore_n (pc := 50) C (lv' := [(3, .int (nI qd)), (4, .int (nI iz)), (0, .ref mo), (1, .int v1), (2, .int v2)]) d_Model_until_50 rfl (by decide) rfl ?_
          refine j_goto (pc := 51) C (tgt := 78) d_Model_until_51 (by decide) ?_
          refine j_iinc (pc := 78) C (v := nI (iz + 1)) (lv' := [(4, .int (nI (iz + 1))), (3, .int (nI qd)), (0, .ref mo), (1, .int v1), (2, .int v2)]) d_Model_until_78 1 rfl (nI_add _ _) (by decide) rfl ?_
          refine j_goto (pc := 81) C (tgt := 9) d_Model_until_81 (by decide) ?_
          refine j_sub (ws' := [(ma 43, .inl (y 0, 8, .inl g43)), (ma 45, .inl (y 0, 14, .inl g45)), (ma 46, .inl (y 0, 108, .inl g46)), (ma 48, .inl (y 0, 224, .inl g48)), (ma 50, .inl (y 0, 3200, .inl g50)), (ma 55, .inl (y 2, 16, .inl g55)), (ma 56, .inl (y 0, 16, .inl g56)), (ma 57, .inl (y 0, 16, .inl g57)), (ma 58, .inl (y 0, 16, .inl g58)), (ma 60, .inl (y 1, 1700, .inr (.inl z21))), (ma 63, .inl (y 0, 9, .inl z22)), MB mo ma (nI t1) i2 i3 i4 i5 i6 i7 i8 i42 i49 i51 i53 i54 i59 z23 z24 i66 (nI t67) i76 i78, (ma 62, .inl (y 0, 63, .inl nz)), (ma 68, .inl (y 0, 63, .inl u1))]) [0, 12, 1, 2, 3, 4, 5, 6, 7, 8, 9, 11, 13, 10] rfl (by decide) ?_
          exact ih48 ((iz + 1), nz, z21, z22, z23, z24, nI qd, qd) ⟨(show (iz + 1) ≤ 101 by omega), hn_, (show qd ≤ dy + (iz + 1) by omega)⟩ (show 101 - (iz + 1) < 101 - iz by omega)
      · refine j_aload_n (pc := 25) C d_Model_until_25 rfl 2 rfl ?_
        refine j_callVi (pc := 26) C (c_M_level l D y mo ma t1 i2 i3 i4 i5 i6 i7 i8 i42 i49 i51 i53 i54 i59 z23 z24 i66 t67 i76 i78 g45 nz hL) kw_Model_427 kv_Model_level 0 10 rfl rfl ⟨by decide, by decide⟩ ⟨by decide, by decide⟩ (wr := [(ma 43, .inl (y 0, 8, .inl g43)), (ma 46, .inl (y 0, 108, .inl g46)), (ma 48, .inl (y 0, 224, .inl g48)), (ma 50, .inl (y 0, 3200, .inl g50)), (ma 55, .inl (y 2, 16, .inl g55)), (ma 56, .inl (y 0, 16, .inl g56)), (ma 57, .inl (y 0, 16, .inl g57)), (ma 58, .inl (y 0, 16, .inl g58)), (ma 60, .inl (y 1, 1700, .inr (.inl z21))), (ma 63, .inl (y 0, 9, .inl z22)), (ma 68, .inl (y 0, 63, .inl u1))]) [11, 1, 12] [0, 2, 3, 4, 5, 6, 7, 8, 9, 10, 13] rfl rfl (by decide) (by decide) (by decide) (As := []) (rest := []) rfl (nb rfl) rfl d_Model_until_26 (fun r64 _ hr64 => ?_)
        refine j_ws (ws' := [(ma 43, .inl (y 0, 8, .inl g43)), (ma 46, .inl (y 0, 108, .inl g46)), (ma 48, .inl (y 0, 224, .inl g48)), (ma 50, .inl (y 0, 3200, .inl g50)), (ma 55, .inl (y 2, 16, .inl g55)), (ma 56, .inl (y 0, 16, .inl g56)), (ma 57, .inl (y 0, 16, .inl g57)), (ma 58, .inl (y 0, 16, .inl g58)), (ma 60, .inl (y 1, 1700, .inr (.inl z21))), (ma 63, .inl (y 0, 9, .inl z22)), (ma 68, .inl (y 0, 63, .inl u1)), MB mo ma (nI t1) i2 i3 i4 i5 i6 i7 i8 i42 i49 i51 i53 i54 i59 z23 z24 i66 (nI t67) i76 i78, (ma 45, .inl (y 0, 14, .inl g45)), (ma 62, .inl (y 0, 63, .inl nz))]) rfl ?_
        refine j_iload_n (pc := 29) C d_Model_until_29 rfl 3 rfl ?_
        refine j_icmp_le (pc := 30) C (tgt := 54) d_Model_until_30 (by decide) (fun c65 => ?_) (fun c65 => ?_)
        · refine j_aload_n (pc := 54) C d_Model_until_54 rfl 2 rfl ?_
          refine j_get (pc := 55) C gf_Model_158 11 rfl rfl d_Model_until_55 ?_
          refine j_iconst (pc := 58) C (v := 0) d_Model_until_58 (by decide) ?_
          refine j_iald (pc := 59) C 13 rfl (v := nI qd) (vin (by decide)) (by exact hn_) d_Model_until_59 ?_
          refine j_sipush (pc := 60) C (v := 999) d_Model_until_60 (by decide) ?_
          by_cases c66 : ¬ qd = 999
          · refine j_icmp_neT (pc := 63) C (tgt := 73) d_Model_until_63 (by decide) (show ¬ nI qd = nI 999 from fun e => absurd ((nI_eq (by omega) (by omega)).mp e) (by omega)) ?_
            refine j_aload_n (pc := 73) C d_Model_until_73 rfl 2 rfl ?_
            refine j_iconst (pc := 74) C (v := 0) d_Model_until_74 (by decide) ?_
            refine j_callVv (pc := 75) C (c_M_goesBy l D y mo ma t1 i2 i3 i4 i5 i6 i7 i8 i42 i49 i51 i53 i54 i59 z23 z24 i66 t67 i76 i78 g43 g45 g46 g48 g50 g55 g56 g57 g58 z21 nz z22 0 c0 c1 c2 c3 qd hc0 bc0 hc1 bc1 hc2 bc2 hc3 bc3 hL hS hTh hC hn_ (by omega)) kw_Model_488 kv_Model_goesBy 0 10 rfl rfl ⟨by decide, by decide⟩ ⟨by decide, by decide⟩ (wr := [(ma 68, .inl (y 0, 63, .inl u1))]) [11, 0, 12, 1, 2, 3, 4, 5, 6, 7, 8, 13, 9] [10] rfl rfl (by decide) (by decide) (by decide) (As := [.int 0]) (rest := []) rfl (nb rfl) rfl d_Model_until_75 (fun u67 hu68 => ?_)
            have xh69 := hu68
            refine j_ws (ws' := [(ma 68, .inl (y 0, 63, .inl u1)), MB mo ma (nI t1) i2 i3 i4 i5 i6 i7 i8 i42 i49 i51 i53 i54 i59 u67.1 u67.2.1 i66 (nI t67) i76 i78, (ma 43, .inl (y 0, 8, .inl g43)), (ma 45, .inl (y 0, 14, .inl g45)), (ma 46, .inl (y 0, 108, .inl g46)), (ma 48, .inl (y 0, 224, .inl g48)), (ma 50, .inl (y 0, 3200, .inl g50)), (ma 55, .inl (y 2, 16, .inl g55)), (ma 56, .inl (y 0, 16, .inl g56)), (ma 57, .inl (y 0, 16, .inl g57)), (ma 58, .inl (y 0, 16, .inl g58)), (ma 60, .inl (y 1, 1700, .inr (.inl u67.2.2.1))), (ma 62, .inl (y 0, 63, .inl u67.2.2.2.1)), (ma 63, .inl (y 0, 9, .inl u67.2.2.2.2))]) rfl ?_
            refine j_iinc (pc := 78) C (v := nI (iz + 1)) (lv' := [(4, .int (nI (iz + 1))), (3, .int z25), (0, .ref mo), (1, .int v1), (2, .int v2)]) d_Model_until_78 0 rfl (nI_add _ _) (by decide) rfl ?_
            refine j_goto (pc := 81) C (tgt := 9) d_Model_until_81 (by decide) ?_
            refine j_sub (ws' := [(ma 43, .inl (y 0, 8, .inl g43)), (ma 45, .inl (y 0, 14, .inl g45)), (ma 46, .inl (y 0, 108, .inl g46)), (ma 48, .inl (y 0, 224, .inl g48)), (ma 50, .inl (y 0, 3200, .inl g50)), (ma 55, .inl (y 2, 16, .inl g55)), (ma 56, .inl (y 0, 16, .inl g56)), (ma 57, .inl (y 0, 16, .inl g57)), (ma 58, .inl (y 0, 16, .inl g58)), (ma 60, .inl (y 1, 1700, .inr (.inl u67.2.2.1))), (ma 63, .inl (y 0, 9, .inl u67.2.2.2.2)), MB mo ma (nI t1) i2 i3 i4 i5 i6 i7 i8 i42 i49 i51 i53 i54 i59 u67.1 u67.2.1 i66 (nI t67) i76 i78, (ma 62, .inl (y 0, 63, .inl u67.2.2.2.1)), (ma 68, .inl (y 0, 63, .inl u1))]) [2, 3, 4, 5, 6, 7, 8, 9, 10, 11, 13, 1, 12, 0] rfl (by decide) ?_
            exact ih48 ((iz + 1), u67.2.2.2.1, u67.2.2.1, u67.2.2.2.2, u67.1, u67.2.1, z25, (qd + 1)) ⟨(show (iz + 1) ≤ 101 by omega), xh69, (show (qd + 1) ≤ dy + (iz + 1) by omega)⟩ (show 101 - (iz + 1) < 101 - iz by omega)
          · refine j_icmp_neF (pc := 63) C (tgt := 73) d_Model_until_63 (by decide) (show nI qd = nI 999 from (nI_eq (by omega) (by omega)).mpr (by omega)) ?_
            refine j_bipush (pc := 66) C (v := 100) d_Model_until_66 (by decide) ?_
            refine j_istore (pc := 68) C (lv' := [(4, .int 100), (3, .int z25), (0, .ref mo), (1, .int v1), (2, .int v2)]) d_Model_until_68 (by decide) rfl ?_
            refine j_goto (pc := 70) C (tgt := 78) d_Model_until_70 (by decide) ?_
            refine j_iinc (pc := 78) C (v := 101) (lv' := [(4, .int 101), (3, .int z25), (0, .ref mo), (1, .int v1), (2, .int v2)]) d_Model_until_78 0 rfl (by decide) (by decide) rfl ?_
            refine j_goto (pc := 81) C (tgt := 9) d_Model_until_81 (by decide) ?_
            refine j_sub (ws' := [(ma 43, .inl (y 0, 8, .inl g43)), (ma 45, .inl (y 0, 14, .inl g45)), (ma 46, .inl (y 0, 108, .inl g46)), (ma 48, .inl (y 0, 224, .inl g48)), (ma 50, .inl (y 0, 3200, .inl g50)), (ma 55, .inl (y 2, 16, .inl g55)), (ma 56, .inl (y 0, 16, .inl g56)), (ma 57, .inl (y 0, 16, .inl g57)), (ma 58, .inl (y 0, 16, .inl g58)), (ma 60, .inl (y 1, 1700, .inr (.inl z21))), (ma 63, .inl (y 0, 9, .inl z22)), MB mo ma (nI t1) i2 i3 i4 i5 i6 i7 i8 i42 i49 i51 i53 i54 i59 z23 z24 i66 (nI t67) i76 i78, (ma 62, .inl (y 0, 63, .inl nz)), (ma 68, .inl (y 0, 63, .inl u1))]) [0, 12, 1, 2, 3, 4, 5, 6, 7, 8, 9, 11, 13, 10] rfl (by decide) ?_
            exact ih48 (101, nz, z21, z22, z23, z24, z25, qd) ⟨(show 101 ≤ 101 by omega), hn_, (show qd ≤ dy + 101 by omega)⟩ (show 101 - 101 < 101 - iz by omega)
        · refine j_goto (pc := 33) C (tgt := 44) d_Model_until_33 (by decide) ?_
          refine j_aload_n (pc := 44) C d_Model_until_44 rfl 2 rfl ?_
          refine j_get (pc := 45) C gf_Model_158 11 rfl rfl d_Model_until_45 ?_
          refine j_iconst (pc := 48) C (v := 0) d_Model_until_48 (by decide) ?_
          refine j_iald (pc := 49) C 13 rfl (v := nI qd) (vin (by decide)) (by exact hn_) d_Model_until_49 ?_
          refine j_istore_n (pc := 50) C (lv' := [(3, .int (nI qd)), (4, .int (nI iz)), (0, .ref mo), (1, .int v1), (2, .int v2)]) d_Model_until_50 rfl (by decide) rfl ?_
          refine j_goto (pc := 51) C (tgt := 78) d_Model_until_51 (by decide) ?_
          refine j_iinc (pc := 78) C (v := nI (iz + 1)) (lv' := [(4, .int (nI (iz + 1))), (3, .int (nI qd)), (0, .ref mo), (1, .int v1), (2, .int v2)]) d_Model_until_78 1 rfl (nI_add _ _) (by decide) rfl ?_
          refine j_goto (pc := 81) C (tgt := 9) d_Model_until_81 (by decide) ?_
          refine j_sub (ws' := [(ma 43, .inl (y 0, 8, .inl g43)), (ma 45, .inl (y 0, 14, .inl g45)), (ma 46, .inl (y 0, 108, .inl g46)), (ma 48, .inl (y 0, 224, .inl g48)), (ma 50, .inl (y 0, 3200, .inl g50)), (ma 55, .inl (y 2, 16, .inl g55)), (ma 56, .inl (y 0, 16, .inl g56)), (ma 57, .inl (y 0, 16, .inl g57)), (ma 58, .inl (y 0, 16, .inl g58)), (ma 60, .inl (y 1, 1700, .inr (.inl z21))), (ma 63, .inl (y 0, 9, .inl z22)), MB mo ma (nI t1) i2 i3 i4 i5 i6 i7 i8 i42 i49 i51 i53 i54 i59 z23 z24 i66 (nI t67) i76 i78, (ma 62, .inl (y 0, 63, .inl nz)), (ma 68, .inl (y 0, 63, .inl u1))]) [0, 12, 1, 2, 3, 4, 5, 6, 7, 8, 9, 11, 13, 10] rfl (by decide) ?_
          exact ih48 ((iz + 1), nz, z21, z22, z23, z24, nI qd, qd) ⟨(show (iz + 1) ≤ 101 by omega), hn_, (show qd ≤ dy + (iz + 1) by omega)⟩ (show 101 - (iz + 1) < 101 - iz by omega)
theorem d_Model_today_0 : decode prog_13_method_110_code 0 = .ok (.iload_n 2, 1) := by decide +kernel
theorem d_Model_today_1 : decode prog_13_method_110_code 1 = .ok (.i2l, 1) := by decide +kernel
theorem d_Model_today_2 : decode prog_13_method_110_code 2 = .ok (.lconst 0, 1) := by decide +kernel
theorem d_Model_today_3 : decode prog_13_method_110_code 3 = .ok (.lconst 1, 1) := by decide +kernel
theorem d_Model_today_4 : decode prog_13_method_110_code 4 = .ok (.invokestatic 240, 3) := by decide +kernel
theorem d_Model_today_7 : decode prog_13_method_110_code 7 = .ok (.ifCond .eq 27, 3) := by decide +kernel
theorem d_Model_today_34 : decode prog_13_method_110_code 34 = .ok (.iconst (-1), 1) := by decide +kernel
theorem d_Model_today_35 : decode prog_13_method_110_code 35 = .ok (.ireturn, 1) := by decide +kernel
theorem d_Model_today_10 : decode prog_13_method_110_code 10 = .ok (.aload_n 0, 1) := by decide +kernel
theorem d_Model_today_11 : decode prog_13_method_110_code 11 = .ok (.getfield 158, 3) := by decide +kernel
theorem d_Model_today_14 : decode prog_13_method_110_code 14 = .ok (.iconst 0, 1) := by decide +kernel
theorem d_Model_today_15 : decode prog_13_method_110_code 15 = .ok (.iaload, 1) := by decide +kernel
theorem d_Model_today_16 : decode prog_13_method_110_code 16 = .ok (.sipush 999, 3) := by decide +kernel
theorem d_Model_today_19 : decode prog_13_method_110_code 19 = .ok (.if_icmp .eq 15, 3) := by decide +kernel
theorem d_Model_today_22 : decode prog_13_method_110_code 22 = .ok (.iload_n 2, 1) := by decide +kernel
theorem d_Model_today_23 : decode prog_13_method_110_code 23 = .ok (.ifCond .ne 13, 3) := by decide +kernel
theorem d_Model_today_26 : decode prog_13_method_110_code 26 = .ok (.aload_n 0, 1) := by decide +kernel
theorem d_Model_today_27 : decode prog_13_method_110_code 27 = .ok (.iload_n 1, 1) := by decide +kernel
theorem d_Model_today_28 : decode prog_13_method_110_code 28 = .ok (.invokevirtual 472, 3) := by decide +kernel
theorem d_Model_today_31 : decode prog_13_method_110_code 31 = .ok (.ifCond .ne 5, 3) := by decide +kernel
theorem d_Model_today_36 : decode prog_13_method_110_code 36 = .ok (.iconst (-1), 1) := by decide +kernel
theorem d_Model_today_37 : decode prog_13_method_110_code 37 = .ok (.istore_n 3, 1) := by decide +kernel
theorem d_Model_today_38 : decode prog_13_method_110_code 38 = .ok (.iconst 0, 1) := by decide +kernel
theorem d_Model_today_39 : decode prog_13_method_110_code 39 = .ok (.istore 4, 2) := by decide +kernel
theorem d_Model_today_41 : decode prog_13_method_110_code 41 = .ok (.aload_n 0, 1) := by decide +kernel
theorem d_Model_today_42 : decode prog_13_method_110_code 42 = .ok (.invokevirtual 510, 3) := by decide +kernel
theorem d_Model_today_45 : decode prog_13_method_110_code 45 = .ok (.iconst 0, 1) := by decide +kernel
theorem d_Model_today_46 : decode prog_13_method_110_code 46 = .ok (.istore 5, 2) := by decide +kernel
theorem d_Model_today_48 : decode prog_13_method_110_code 48 = .ok (.iload 5, 2) := by decide +kernel
theorem d_Model_today_50 : decode prog_13_method_110_code 50 = .ok (.iconst 2, 1) := by decide +kernel
theorem d_Model_today_51 : decode prog_13_method_110_code 51 = .ok (.if_icmp .gt 82, 3) := by decide +kernel
theorem d_Model_today_133 : decode prog_13_method_110_code 133 = .ok (.aload_n 0, 1) := by decide +kernel
theorem d_Model_today_134 : decode prog_13_method_110_code 134 = .ok (.invokevirtual 495, 3) := by decide +kernel
theorem d_Model_today_137 : decode prog_13_method_110_code 137 = .ok (.iload_n 3, 1) := by decide +kernel
theorem d_Model_today_138 : decode prog_13_method_110_code 138 = .ok (.ireturn, 1) := by decide +kernel
theorem d_Model_today_54 : decode prog_13_method_110_code 54 = .ok (.aload_n 0, 1) := by decide +kernel
theorem d_Model_today_55 : decode prog_13_method_110_code 55 = .ok (.invokevirtual 495, 3) := by decide +kernel
theorem d_Model_today_58 : decode prog_13_method_110_code 58 = .ok (.aload_n 0, 1) := by decide +kernel
theorem d_Model_today_59 : decode prog_13_method_110_code 59 = .ok (.iconst 0, 1) := by decide +kernel
theorem d_Model_today_60 : decode prog_13_method_110_code 60 = .ok (.iload 5, 2) := by decide +kernel
theorem d_Model_today_62 : decode prog_13_method_110_code 62 = .ok (.invokevirtual 478, 3) := by decide +kernel
theorem d_Model_today_65 : decode prog_13_method_110_code 65 = .ok (.ifCond .ne 6, 3) := by decide +kernel
theorem d_Model_today_71 : decode prog_13_method_110_code 71 = .ok (.aload_n 0, 1) := by decide +kernel
theorem d_Model_today_72 : decode prog_13_method_110_code 72 = .ok (.iload 5, 2) := by decide +kernel
theorem d_Model_today_74 : decode prog_13_method_110_code 74 = .ok (.invokevirtual 485, 3) := by decide +kernel
theorem d_Model_today_77 : decode prog_13_method_110_code 77 = .ok (.aload_n 0, 1) := by decide +kernel
theorem d_Model_today_78 : decode prog_13_method_110_code 78 = .ok (.iconst 0, 1) := by decide +kernel
theorem d_Model_today_79 : decode prog_13_method_110_code 79 = .ok (.invokevirtual 488, 3) := by decide +kernel
theorem d_Model_today_82 : decode prog_13_method_110_code 82 = .ok (.iload_n 2, 1) := by decide +kernel
theorem d_Model_today_83 : decode prog_13_method_110_code 83 = .ok (.iconst 1, 1) := by decide +kernel
theorem d_Model_today_84 : decode prog_13_method_110_code 84 = .ok (.if_icmp .ne 10, 3) := by decide +kernel
theorem d_Model_today_94 : decode prog_13_method_110_code 94 = .ok (.aload_n 0, 1) := by decide +kernel
theorem d_Model_today_95 : decode prog_13_method_110_code 95 = .ok (.getfield 158, 3) := by decide +kernel
theorem d_Model_today_98 : decode prog_13_method_110_code 98 = .ok (.bipush 41, 2) := by decide +kernel
theorem d_Model_today_100 : decode prog_13_method_110_code 100 = .ok (.iload_n 1, 1) := by decide +kernel
theorem d_Model_today_101 : decode prog_13_method_110_code 101 = .ok (.iadd, 1) := by decide +kernel
theorem d_Model_today_102 : decode prog_13_method_110_code 102 = .ok (.iaload, 1) := by decide +kernel
theorem d_Model_today_103 : decode prog_13_method_110_code 103 = .ok (.istore 6, 2) := by decide +kernel
theorem d_Model_today_105 : decode prog_13_method_110_code 105 = .ok (.iload_n 3, 1) := by decide +kernel
theorem d_Model_today_106 : decode prog_13_method_110_code 106 = .ok (.iconst (-1), 1) := by decide +kernel
theorem d_Model_today_107 : decode prog_13_method_110_code 107 = .ok (.if_icmp .eq 13, 3) := by decide +kernel
theorem d_Model_today_120 : decode prog_13_method_110_code 120 = .ok (.iload 5, 2) := by decide +kernel
theorem d_Model_today_122 : decode prog_13_method_110_code 122 = .ok (.istore_n 3, 1) := by decide +kernel
theorem d_Model_today_123 : decode prog_13_method_110_code 123 = .ok (.iload 6, 2) := by decide +kernel
theorem d_Model_today_125 : decode prog_13_method_110_code 125 = .ok (.istore 4, 2) := by decide +kernel
theorem d_Model_today_127 : decode prog_13_method_110_code 127 = .ok (.iinc 5 1, 3) := by decide +kernel
theorem d_Model_today_130 : decode prog_13_method_110_code 130 = .ok (.goto (-82), 3) := by decide +kernel
theorem d_Model_today_68 : decode prog_13_method_110_code 68 = .ok (.goto 59, 3) := by decide +kernel
theorem d_Model_today_110 : decode prog_13_method_110_code 110 = .ok (.iload 6, 2) := by decide +kernel
theorem d_Model_today_112 : decode prog_13_method_110_code 112 = .ok (.iload 4, 2) := by decide +kernel
theorem d_Model_today_114 : decode prog_13_method_110_code 114 = .ok (.if_icmp .gt 6, 3) := by decide +kernel
theorem d_Model_today_117 : decode prog_13_method_110_code 117 = .ok (.goto 10, 3) := by decide +kernel
theorem d_Model_today_87 : decode prog_13_method_110_code 87 = .ok (.aload_n 0, 1) := by decide +kernel
theorem d_Model_today_88 : decode prog_13_method_110_code 88 = .ok (.invokevirtual 427, 3) := by decide +kernel
theorem d_Model_today_91 : decode prog_13_method_110_code 91 = .ok (.goto 12, 3) := by decide +kernel
set_option maxHeartbeats 4000000 in
set_option maxRecDepth 100000 in
theorem c_M_today (l : Launch) (D : va_G) (y : Nat → ClassId) (mo : Nat) (ma : Nat → Nat) (t1 : Nat) (i2 : Int32) (i3 : Int32) (i4 : Int32) (i5 : Int32) (i6 : Int32) (i7 : Int32) (i8 : Int32) (i42 : Int32) (i49 : Int32) (i51 : Int32) (i53 : Int32) (i54 : Int32) (i59 : Int32) (i61 : Int32) (i64 : Int32) (i66 : Int32) (t67 : Nat) (i76 : Int64) (i78 : Int32) (g43 : Nat → Int32) (g45 : Nat → Int32) (g46 : Nat → Int32) (g47 : Nat → Int32) (g48 : Nat → Int32) (g50 : Nat → Int32) (g55 : Nat → Int32) (g56 : Nat → Int32) (g57 : Nat → Int32) (g58 : Nat → Int32) (g60 : Nat → Int64) (g62 : Nat → Int32) (g63 : Nat → Int32) (g68 : Nat → Int32) (v1 : Int32) (v2 : Int32) (c0 : Nat) (c1 : Nat) (c2 : Nat) (c3 : Nat) (dy : Nat) (hc0 : g43 4 = nI c0) (bc0 : c0 ≤ 9) (hc1 : g43 5 = nI c1) (bc1 : c1 ≤ 6) (hc2 : g43 6 = nI c2) (bc2 : c2 ≤ 16) (hc3 : g43 7 = nI c3) (bc3 : c3 ≤ 8) (hL : ¬ g45 7 = 0) (hS : ∀ j, j < 9 → g46 (54 + 6 * j) = 2 → ¬ g46 (54 + 6 * j + 1) = 0) (hG : ∀ j, j < 9 → g46 (54 + 6 * j + 5) = -1 ∨ ∃ q, q < 9 ∧ g46 (54 + 6 * j + 5) = nI q) (hO : ∀ j, j < 6 → ∃ q, q < 9 ∧ g47 (6 + j) = nI q) (hTh : ∀ j, j < 16 → (∃ q, q < 6 ∧ g48 (112 + 7 * j) = nI q) ∧ ∃ q, q < 9 ∧ g48 (112 + 7 * j + 1) = nI q) (hC : ∀ k, 8 ≤ k → k < 8 + c3 → ∃ a b c, g56 k = nI a ∧ g57 k = nI b ∧ g58 k = nI c ∧ a ≤ b ∧ b ≤ c ∧ c ≤ 1600 ∧ (∃ q, dp g50 (1600 + a) (b - a) = some q) ∧ (∃ q, dp g50 (1600 + b) (c - b) = some q)) (hD : g62 0 = nI dy) (bD : dy ≤ 999) : CT l D y ⟨"NineBoardsModel", "today", "(II)I"⟩ prog_13_method_110_code 7 (some .int) ({ frames := 5, cells := 0, slots := 0, locals := 129 } : Room) [.ref mo, .int v1, .int v2] [MB mo ma (nI t1) i2 i3 i4 i5 i6 i7 i8 i42 i49 i51 i53 i54 i59 i61 i64 i66 (nI t67) i76 i78, (ma 43, .inl (y 0, 8, .inl g43)), (ma 45, .inl (y 0, 14, .inl g45)), (ma 46, .inl (y 0, 108, .inl g46)), (ma 47, .inl (y 0, 12, .inl g47)), (ma 48, .inl (y 0, 224, .inl g48)), (ma 50, .inl (y 0, 3200, .inl g50)), (ma 55, .inl (y 2, 16, .inl g55)), (ma 56, .inl (y 0, 16, .inl g56)), (ma 57, .inl (y 0, 16, .inl g57)), (ma 58, .inl (y 0, 16, .inl g58)), (ma 60, .inl (y 1, 1700, .inr (.inl g60))), (ma 62, .inl (y 0, 63, .inl g62)), (ma 63, .inl (y 0, 9, .inl g63)), (ma 68, .inl (y 0, 63, .inl g68))] (QI D [MB mo ma (nI t1) i2 i3 i4 i5 i6 i7 i8 i42 i49 i51 i53 i54 i59 i61 i64 i66 (nI t67) i76 i78, (ma 43, .inl (y 0, 8, .inl g43)), (ma 45, .inl (y 0, 14, .inl g45)), (ma 46, .inl (y 0, 108, .inl g46)), (ma 47, .inl (y 0, 12, .inl g47)), (ma 48, .inl (y 0, 224, .inl g48)), (ma 50, .inl (y 0, 3200, .inl g50)), (ma 55, .inl (y 2, 16, .inl g55)), (ma 56, .inl (y 0, 16, .inl g56)), (ma 57, .inl (y 0, 16, .inl g57)), (ma 58, .inl (y 0, 16, .inl g58)), (ma 60, .inl (y 1, 1700, .inr (.inl g60))), (ma 62, .inl (y 0, 63, .inl g62)), (ma 63, .inl (y 0, 9, .inl g63)), (ma 68, .inl (y 0, 63, .inl g68))] (fun (r : Int32) (u : Int32 × Int32 × (Nat → Int64) × (Nat → Int32) × (Nat → Int32) × (Nat → Int32)) => u.2.2.2.1 0 = nI dy) (fun u => [MB mo ma (nI t1) i2 i3 i4 i5 i6 i7 i8 i42 i49 i51 i53 i54 i59 u.1 u.2.1 i66 (nI t67) i76 i78, (ma 43, .inl (y 0, 8, .inl g43)), (ma 45, .inl (y 0, 14, .inl g45)), (ma 46, .inl (y 0, 108, .inl g46)), (ma 47, .inl (y 0, 12, .inl g47)), (ma 48, .inl (y 0, 224, .inl g48)), (ma 50, .inl (y 0, 3200, .inl g50)), (ma 55, .inl (y 2, 16, .inl g55)), (ma 56, .inl (y 0, 16, .inl g56)), (ma 57, .inl (y 0, 16, .inl g57)), (ma 58, .inl (y 0, 16, .inl g58)), (ma 60, .inl (y 1, 1700, .inr (.inl u.2.2.1))), (ma 62, .inl (y 0, 63, .inl u.2.2.2.1)), (ma 63, .inl (y 0, 9, .inl u.2.2.2.2.1)), (ma 68, .inl (y 0, 63, .inl u.2.2.2.2.2))])) := by
  refine CT.of (by decide) (nb rfl) ?_
  intro p e s m args below meth c C hr
  refine j_lv (lv' := [(0, .ref mo), (1, .int v1), (2, .int v2)]) rfl ?_
  refine j_iload_n (pc := 0) C d_Model_today_0 rfl 2 rfl ?_
  refine j_i2l (pc := 1) C (v := v2.toInt64) d_Model_today_1 rfl ?_
  refine j_lconst (pc := 2) C (v := 0) d_Model_today_2 (by decide) ?_
  refine j_lconst (pc := 3) C (v := 1) d_Model_today_3 (by decide) ?_
  refine j_callSi (pc := 4) C (c_isIn_01 l D y v2) kw_Model_240 ks_Model_isIn ⟨by decide, by decide⟩ ⟨by decide, by decide⟩ (wr := [MB mo ma (nI t1) i2 i3 i4 i5 i6 i7 i8 i42 i49 i51 i53 i54 i59 i61 i64 i66 (nI t67) i76 i78, (ma 43, .inl (y 0, 8, .inl g43)), (ma 45, .inl (y 0, 14, .inl g45)), (ma 46, .inl (y 0, 108, .inl g46)), (ma 47, .inl (y 0, 12, .inl g47)), (ma 48, .inl (y 0, 224, .inl g48)), (ma 50, .inl (y 0, 3200, .inl g50)), (ma 55, .inl (y 2, 16, .inl g55)), (ma 56, .inl (y 0, 16, .inl g56)), (ma 57, .inl (y 0, 16, .inl g57)), (ma 58, .inl (y 0, 16, .inl g58)), (ma 60, .inl (y 1, 1700, .inr (.inl g60))), (ma 62, .inl (y 0, 63, .inl g62)), (ma 63, .inl (y 0, 9, .inl g63)), (ma 68, .inl (y 0, 63, .inl g68))]) [] [0, 1, 2, 3, 4, 5, 6, 7, 8, 9, 10, 11, 12, 13, 14] rfl rfl (by decide) (by decide) (by decide) (As := [.long v2.toInt64, .long 0, .long 1]) (rest := []) rfl (nb rfl) rfl d_Model_today_4 (fun r1 _ hr1 => ?_)
  refine j_ws (ws' := [MB mo ma (nI t1) i2 i3 i4 i5 i6 i7 i8 i42 i49 i51 i53 i54 i59 i61 i64 i66 (nI t67) i76 i78, (ma 43, .inl (y 0, 8, .inl g43)), (ma 45, .inl (y 0, 14, .inl g45)), (ma 46, .inl (y 0, 108, .inl g46)), (ma 47, .inl (y 0, 12, .inl g47)), (ma 48, .inl (y 0, 224, .inl g48)), (ma 50, .inl (y 0, 3200, .inl g50)), (ma 55, .inl (y 2, 16, .inl g55)), (ma 56, .inl (y 0, 16, .inl g56)), (ma 57, .inl (y 0, 16, .inl g57)), (ma 58, .inl (y 0, 16, .inl g58)), (ma 60, .inl (y 1, 1700, .inr (.inl g60))), (ma 62, .inl (y 0, 63, .inl g62)), (ma 63, .inl (y 0, 9, .inl g63)), (ma 68, .inl (y 0, 63, .inl g68))]) rfl ?_
  rcases hr1 with rfl | ⟨rfl, rfl⟩ | ⟨rfl, rfl⟩
  · refine j_if_eqT (pc := 7) C (tgt := 34) d_Model_today_7 (by decide) (by decide) ?_
    refine j_iconst (pc := 34) C (v := (-1)) d_Model_today_34 (by decide) ?_
    exact j_iret (pc := 35) C hr rfl (i61, i64, g60, g62, g63, g68) hD [0, 1, 2, 3, 4, 5, 6, 7, 8, 9, 10, 11, 12, 13, 14] rfl (by decide) (by decide) (by decide) d_Model_today_35
  · refine j_if_eqF (pc := 7) C (tgt := 34) d_Model_today_7 (by decide) (by decide) ?_
    refine j_aload_n (pc := 10) C d_Model_today_10 rfl 0 rfl ?_
    refine j_get (pc := 11) C gf_Model_158 0 rfl rfl d_Model_today_11 ?_
    refine j_iconst (pc := 14) C (v := 0) d_Model_today_14 (by decide) ?_
    refine j_iald (pc := 15) C 12 rfl (v := nI dy) (vin (by decide)) (by exact hD) d_Model_today_15 ?_
    refine j_sipush (pc := 16) C (v := 999) d_Model_today_16 (by decide) ?_
    by_cases c4 : dy = 999
    · refine j_icmp_eqT (pc := 19) C (tgt := 34) d_Model_today_19 (by decide) (show nI dy = nI 999 from (nI_eq (by omega) (by omega)).mpr (by omega)) ?_
      refine j_iconst (pc := 34) C (v := (-1)) d_Model_today_34 (by decide) ?_
      exact j_iret (pc := 35) C hr rfl (i61, i64, g60, g62, g63, g68) hD [0, 1, 2, 3, 4, 5, 6, 7, 8, 9, 10, 11, 12, 13, 14] rfl (by decide) (by decide) (by decide) d_Model_today_35
    · refine j_icmp_eqF (pc := 19) C (tgt := 34) d_Model_today_19 (by decide) (show ¬ nI dy = nI 999 from fun e => absurd ((nI_eq (by omega) (by omega)).mp e) (by omega)) ?_
      refine j_iload_n (pc := 22) C d_Model_today_22 rfl 2 rfl ?_
      refine j_if_neF (pc := 23) C (tgt := 36) d_Model_today_23 (by decide) (by decide) ?_
      refine j_aload_n (pc := 26) C d_Model_today_26 rfl 0 rfl ?_
      refine j_iload_n (pc := 27) C d_Model_today_27 rfl 1 rfl ?_
      refine j_callVi (pc := 28) C (c_M_isVillage l D y mo ma t1 i2 i3 i4 i5 i6 i7 i8 i42 i49 i51 i53 i54 i59 i61 i64 i66 t67 i76 i78 g43 v1 c1 hc1 bc1) kw_Model_472 kv_Model_isVillage 0 10 rfl rfl ⟨by decide, by decide⟩ ⟨by decide, by decide⟩ (wr := [(ma 45, .inl (y 0, 14, .inl g45)), (ma 46, .inl (y 0, 108, .inl g46)), (ma 47, .inl (y 0, 12, .inl g47)), (ma 48, .inl (y 0, 224, .inl g48)), (ma 50, .inl (y 0, 3200, .inl g50)), (ma 55, .inl (y 2, 16, .inl g55)), (ma 56, .inl (y 0, 16, .inl g56)), (ma 57, .inl (y 0, 16, .inl g57)), (ma 58, .inl (y 0, 16, .inl g58)), (ma 60, .inl (y 1, 1700, .inr (.inl g60))), (ma 62, .inl (y 0, 63, .inl g62)), (ma 63, .inl (y 0, 9, .inl g63)), (ma 68, .inl (y 0, 63, .inl g68))]) [0, 1] [2, 3, 4, 5, 6, 7, 8, 9, 10, 11, 12, 13, 14] rfl rfl (by decide) (by decide) (by decide) (As := [.int v1]) (rest := []) rfl (nb rfl) rfl d_Model_today_28 (fun r5 _ hr5 => ?_)
      refine j_ws (ws' := [(ma 45, .inl (y 0, 14, .inl g45)), (ma 46, .inl (y 0, 108, .inl g46)), (ma 47, .inl (y 0, 12, .inl g47)), (ma 48, .inl (y 0, 224, .inl g48)), (ma 50, .inl (y 0, 3200, .inl g50)), (ma 55, .inl (y 2, 16, .inl g55)), (ma 56, .inl (y 0, 16, .inl g56)), (ma 57, .inl (y 0, 16, .inl g57)), (ma 58, .inl (y 0, 16, .inl g58)), (ma 60, .inl (y 1, 1700, .inr (.inl g60))), (ma 62, .inl (y 0, 63, .inl g62)), (ma 63, .inl (y 0, 9, .inl g63)), (ma 68, .inl (y 0, 63, .inl g68)), MB mo ma (nI t1) i2 i3 i4 i5 i6 i7 i8 i42 i49 i51 i53 i54 i59 i61 i64 i66 (nI t67) i76 i78, (ma 43, .inl (y 0, 8, .inl g43))]) rfl ?_
      rcases hr5 with rfl | ⟨rfl, j6, xh7, rfl⟩
      · refine j_if_neF (pc := 31) C (tgt := 36) d_Model_today_31 (by decide) (by decide) ?_
        refine j_iconst (pc := 34) C (v := (-1)) d_Model_today_34 (by decide) ?_
        exact j_iret (pc := 35) C hr rfl (i61, i64, g60, g62, g63, g68) hD [13, 14, 0, 1, 2, 3, 4, 5, 6, 7, 8, 9, 10, 11, 12] rfl (by decide) (by decide) (by decide) d_Model_today_35
      · refine j_if_neT (pc := 31) C (tgt := 36) d_Model_today_31 (by decide) (by decide) ?_
        refine j_iconst (pc := 36) C (v := (-1)) d_Model_today_36 (by decide) ?_
        refine j_istore_n (pc := 37) C (lv' := [(3, .int (-1)), (0, .ref mo), (1, .int (nI j6)), (2, .int 0)]) d_Model_today_37 rfl (by decide) rfl ?_
        refine j_iconst (pc := 38) C (v := 0) d_Model_today_38 (by decide) ?_
        refine j_istore (pc := 39) C (lv' := [(4, .int 0), (3, .int (-1)), (0, .ref mo), (1, .int (nI j6)), (2, .int 0)]) d_Model_today_39 (by decide) rfl ?_
        refine j_aload_n (pc := 41) C d_Model_today_41 rfl 2 rfl ?_
        refine j_callVv (pc := 42) C (c_M_putsAside l D y mo ma t1 i2 i3 i4 i5 i6 i7 i8 i42 i49 i51 i53 i54 i59 i61 i64 i66 t67 i76 i78 g62 g68 dy hD) kw_Model_510 kv_Model_putsAside 0 10 rfl rfl ⟨by decide, by decide⟩ ⟨by decide, by decide⟩ (wr := [(ma 45, .inl (y 0, 14, .inl g45)), (ma 46, .inl (y 0, 108, .inl g46)), (ma 47, .inl (y 0, 12, .inl g47)), (ma 48, .inl (y 0, 224, .inl g48)), (ma 50, .inl (y 0, 3200, .inl g50)), (ma 55, .inl (y 2, 16, .inl g55)), (ma 56, .inl (y 0, 16, .inl g56)), (ma 57, .inl (y 0, 16, .inl g57)), (ma 58, .inl (y 0, 16, .inl g58)), (ma 60, .inl (y 1, 1700, .inr (.inl g60))), (ma 63, .inl (y 0, 9, .inl g63)), (ma 43, .inl (y 0, 8, .inl g43))]) [13, 10, 12] [0, 1, 2, 3, 4, 5, 6, 7, 8, 9, 11, 14] rfl rfl (by decide) (by decide) (by decide) (As := []) (rest := []) rfl (nb rfl) rfl d_Model_today_42 (fun u8 hu9 => ?_)
        have xh10 := hu9
        refine j_ws (ws' := [(ma 45, .inl (y 0, 14, .inl g45)), (ma 46, .inl (y 0, 108, .inl g46)), (ma 47, .inl (y 0, 12, .inl g47)), (ma 48, .inl (y 0, 224, .inl g48)), (ma 50, .inl (y 0, 3200, .inl g50)), (ma 55, .inl (y 2, 16, .inl g55)), (ma 56, .inl (y 0, 16, .inl g56)), (ma 57, .inl (y 0, 16, .inl g57)), (ma 58, .inl (y 0, 16, .inl g58)), (ma 60, .inl (y 1, 1700, .inr (.inl g60))), (ma 63, .inl (y 0, 9, .inl g63)), (ma 43, .inl (y 0, 8, .inl g43)), MB mo ma (nI t1) i2 i3 i4 i5 i6 i7 i8 i42 i49 i51 i53 i54 i59 i61 i64 i66 (nI t67) i76 i78, (ma 62, .inl (y 0, 63, .inl g62)), (ma 68, .inl (y 0, 63, .inl u8))]) rfl ?_
        refine j_iconst (pc := 45) C (v := 0) d_Model_today_45 (by decide) ?_
        refine j_istore (pc := 46) C (lv' := [(5, .int 0), (4, .int 0), (3, .int (-1)), (0, .ref mo), (1, .int (nI j6)), (2, .int 0)]) d_Model_today_46 (by decide) rfl ?_
        refine j_loop (α := Nat × Int32 × Int32 × (Nat → Int64) × (Nat → Int32) × Int32 × Int32 × (Nat → Int32)) (fun a => 3 - a.1) (fun a => (a.1 ≤ 3)) (fun a => [(ma 45, .inl (y 0, 14, .inl g45)), (ma 46, .inl (y 0, 108, .inl g46)), (ma 47, .inl (y 0, 12, .inl g47)), (ma 48, .inl (y 0, 224, .inl g48)), (ma 50, .inl (y 0, 3200, .inl g50)), (ma 55, .inl (y 2, 16, .inl g55)), (ma 56, .inl (y 0, 16, .inl g56)), (ma 57, .inl (y 0, 16, .inl g57)), (ma 58, .inl (y 0, 16, .inl g58)), (ma 60, .inl (y 1, 1700, .inr (.inl a.2.2.2.1))), (ma 63, .inl (y 0, 9, .inl a.2.2.2.2.1)), (ma 43, .inl (y 0, 8, .inl g43)), MB mo ma (nI t1) i2 i3 i4 i5 i6 i7 i8 i42 i49 i51 i53 i54 i59 a.2.2.2.2.2.1 a.2.2.2.2.2.2.1 i66 (nI t67) i76 i78, (ma 62, .inl (y 0, 63, .inl a.2.2.2.2.2.2.2)), (ma 68, .inl (y 0, 63, .inl u8))]) (fun a => [(5, .int (nI a.1)), (4, .int a.2.1), (3, .int a.2.2.1), (0, .ref mo), (1, .int (nI j6)), (2, .int 0)]) (0, 0, (-1), g60, g63, i61, i64, g62) rfl rfl (show 0 ≤ 3 by omega) ?_
        rintro ⟨iz, z28, z29, z30, z31, z32, z33, z34⟩ hP54 ih55
        have hi__ := hP54
        have hi_ : iz ≤ 3 := hi__
        refine j_ws (ws' := [(ma 45, .inl (y 0, 14, .inl g45)), (ma 46, .inl (y 0, 108, .inl g46)), (ma 47, .inl (y 0, 12, .inl g47)), (ma 48, .inl (y 0, 224, .inl g48)), (ma 50, .inl (y 0, 3200, .inl g50)), (ma 55, .inl (y 2, 16, .inl g55)), (ma 56, .inl (y 0, 16, .inl g56)), (ma 57, .inl (y 0, 16, .inl g57)), (ma 58, .inl (y 0, 16, .inl g58)), (ma 60, .inl (y 1, 1700, .inr (.inl z30))), (ma 63, .inl (y 0, 9, .inl z31)), (ma 43, .inl (y 0, 8, .inl g43)), MB mo ma (nI t1) i2 i3 i4 i5 i6 i7 i8 i42 i49 i51 i53 i54 i59 z32 z33 i66 (nI t67) i76 i78, (ma 62, .inl (y 0, 63, .inl z34)), (ma 68, .inl (y 0, 63, .inl u8))]) rfl ?_
        refine j_lv (lv' := [(5, .int (nI iz)), (4, .int z28), (3, .int z29), (0, .ref mo), (1, .int (nI j6)), (2, .int 0)]) rfl ?_
        refine j_iload (pc := 48) C d_Model_today_48 0 rfl ?_
        refine j_iconst (pc := 50) C (v := 2) d_Model_today_50 (by decide) ?_
        by_cases c56 : 2 < iz
        · refine j_icmp_gtT (pc := 51) C (tgt := 133) d_Model_today_51 (by decide) (show nI 2 < nI iz from nI_lt (by omega) (by omega)) ?_
          refine j_aload_n (pc := 133) C d_Model_today_133 rfl 3 rfl ?_
          refine j_callVv (pc := 134) C (c_M_takesBack l D y mo ma t1 i2 i3 i4 i5 i6 i7 i8 i42 i49 i51 i53 i54 i59 z32 z33 i66 t67 i76 i78 z34 u8 dy xh10) kw_Model_495 kv_Model_takesBack 0 10 rfl rfl ⟨by decide, by decide⟩ ⟨by decide, by decide⟩ (wr := [(ma 45, .inl (y 0, 14, .inl g45)), (ma 46, .inl (y 0, 108, .inl g46)), (ma 47, .inl (y 0, 12, .inl g47)), (ma 48, .inl (y 0, 224, .inl g48)), (ma 50, .inl (y 0, 3200, .inl g50)), (ma 55, .inl (y 2, 16, .inl g55)), (ma 56, .inl (y 0, 16, .inl g56)), (ma 57, .inl (y 0, 16, .inl g57)), (ma 58, .inl (y 0, 16, .inl g58)), (ma 60, .inl (y 1, 1700, .inr (.inl z30))), (ma 63, .inl (y 0, 9, .inl z31)), (ma 43, .inl (y 0, 8, .inl g43))]) [12, 13, 14] [0, 1, 2, 3, 4, 5, 6, 7, 8, 9, 10, 11] rfl rfl (by decide) (by decide) (by decide) (As := []) (rest := []) rfl (nb rfl) rfl d_Model_today_134 (fun u57 hu58 => ?_)
          have xh59 := hu58
          refine j_ws (ws' := [(ma 45, .inl (y 0, 14, .inl g45)), (ma 46, .inl (y 0, 108, .inl g46)), (ma 47, .inl (y 0, 12, .inl g47)), (ma 48, .inl (y 0, 224, .inl g48)), (ma 50, .inl (y 0, 3200, .inl g50)), (ma 55, .inl (y 2, 16, .inl g55)), (ma 56, .inl (y 0, 16, .inl g56)), (ma 57, .inl (y 0, 16, .inl g57)), (ma 58, .inl (y 0, 16, .inl g58)), (ma 60, .inl (y 1, 1700, .inr (.inl z30))), (ma 63, .inl (y 0, 9, .inl z31)), (ma 43, .inl (y 0, 8, .inl g43)), MB mo ma (nI t1) i2 i3 i4 i5 i6 i7 i8 i42 i49 i51 i53 i54 i59 z32 z33 i66 (nI t67) i76 i78, (ma 62, .inl (y 0, 63, .inl u57)), (ma 68, .inl (y 0, 63, .inl u8))]) rfl ?_
          refine j_iload_n (pc := 137) C d_Model_today_137 rfl 2 rfl ?_
          exact j_iret (pc := 138) C hr rfl (z32, z33, z30, u57, z31, u8) xh59 [12, 11, 0, 1, 2, 3, 4, 5, 6, 7, 8, 9, 13, 10, 14] rfl (by decide) (by decide) (by decide) d_Model_today_138
        · refine j_icmp_gtF (pc := 51) C (tgt := 133) d_Model_today_51 (by decide) (show ¬ nI 2 < nI iz from nI_nlt (by omega) (by omega)) ?_
          refine j_aload_n (pc := 54) C d_Model_today_54 rfl 3 rfl ?_
          refine j_callVv (pc := 55) C (c_M_takesBack l D y mo ma t1 i2 i3 i4 i5 i6 i7 i8 i42 i49 i51 i53 i54 i59 z32 z33 i66 t67 i76 i78 z34 u8 dy xh10) kw_Model_495 kv_Model_takesBack 0 10 rfl rfl ⟨by decide, by decide⟩ ⟨by decide, by decide⟩ (wr := [(ma 45, .inl (y 0, 14, .inl g45)), (ma 46, .inl (y 0, 108, .inl g46)), (ma 47, .inl (y 0, 12, .inl g47)), (ma 48, .inl (y 0, 224, .inl g48)), (ma 50, .inl (y 0, 3200, .inl g50)), (ma 55, .inl (y 2, 16, .inl g55)), (ma 56, .inl (y 0, 16, .inl g56)), (ma 57, .inl (y 0, 16, .inl g57)), (ma 58, .inl (y 0, 16, .inl g58)), (ma 60, .inl (y 1, 1700, .inr (.inl z30))), (ma 63, .inl (y 0, 9, .inl z31)), (ma 43, .inl (y 0, 8, .inl g43))]) [12, 13, 14] [0, 1, 2, 3, 4, 5, 6, 7, 8, 9, 10, 11] rfl rfl (by decide) (by decide) (by decide) (As := []) (rest := []) rfl (nb rfl) rfl d_Model_today_55 (fun u60 hu61 => ?_)
          have xh62 := hu61
          refine j_ws (ws' := [(ma 45, .inl (y 0, 14, .inl g45)), (ma 46, .inl (y 0, 108, .inl g46)), (ma 47, .inl (y 0, 12, .inl g47)), (ma 48, .inl (y 0, 224, .inl g48)), (ma 50, .inl (y 0, 3200, .inl g50)), (ma 55, .inl (y 2, 16, .inl g55)), (ma 56, .inl (y 0, 16, .inl g56)), (ma 57, .inl (y 0, 16, .inl g57)), (ma 58, .inl (y 0, 16, .inl g58)), (ma 60, .inl (y 1, 1700, .inr (.inl z30))), (ma 63, .inl (y 0, 9, .inl z31)), (ma 43, .inl (y 0, 8, .inl g43)), MB mo ma (nI t1) i2 i3 i4 i5 i6 i7 i8 i42 i49 i51 i53 i54 i59 z32 z33 i66 (nI t67) i76 i78, (ma 62, .inl (y 0, 63, .inl u60)), (ma 68, .inl (y 0, 63, .inl u8))]) rfl ?_
          refine j_aload_n (pc := 58) C d_Model_today_58 rfl 3 rfl ?_
          refine j_iconst (pc := 59) C (v := 0) d_Model_today_59 (by decide) ?_
          refine j_iload (pc := 60) C d_Model_today_60 0 rfl ?_
          refine j_callVi (pc := 62) C (c_M_mayDo l D y mo ma t1 i2 i3 i4 i5 i6 i7 i8 i42 i49 i51 i53 i54 i59 z32 z33 i66 t67 i76 i78 g43 g46 g47 u60 0 (nI iz) c1 dy hc1 bc1 hG hO xh62 (by omega)) kw_Model_478 kv_Model_mayDo 0 10 rfl rfl ⟨by decide, by decide⟩ ⟨by decide, by decide⟩ (wr := [(ma 45, .inl (y 0, 14, .inl g45)), (ma 48, .inl (y 0, 224, .inl g48)), (ma 50, .inl (y 0, 3200, .inl g50)), (ma 55, .inl (y 2, 16, .inl g55)), (ma 56, .inl (y 0, 16, .inl g56)), (ma 57, .inl (y 0, 16, .inl g57)), (ma 58, .inl (y 0, 16, .inl g58)), (ma 60, .inl (y 1, 1700, .inr (.inl z30))), (ma 63, .inl (y 0, 9, .inl z31)), (ma 68, .inl (y 0, 63, .inl u8))]) [12, 11, 1, 2, 13] [0, 3, 4, 5, 6, 7, 8, 9, 10, 14] rfl rfl (by decide) (by decide) (by decide) (As := [.int 0, .int (nI iz)]) (rest := []) rfl (nb rfl) rfl d_Model_today_62 (fun r63 _ hr63 => ?_)
          obtain ⟨xh64, xh65⟩ := hr63
          refine j_ws (ws' := [(ma 45, .inl (y 0, 14, .inl g45)), (ma 48, .inl (y 0, 224, .inl g48)), (ma 50, .inl (y 0, 3200, .inl g50)), (ma 55, .inl (y 2, 16, .inl g55)), (ma 56, .inl (y 0, 16, .inl g56)), (ma 57, .inl (y 0, 16, .inl g57)), (ma 58, .inl (y 0, 16, .inl g58)), (ma 60, .inl (y 1, 1700, .inr (.inl z30))), (ma 63, .inl (y 0, 9, .inl z31)), (ma 68, .inl (y 0, 63, .inl u8)), MB mo ma (nI t1) i2 i3 i4 i5 i6 i7 i8 i42 i49 i51 i53 i54 i59 z32 z33 i66 (nI t67) i76 i78, (ma 43, .inl (y 0, 8, .inl g43)), (ma 46, .inl (y 0, 108, .inl g46)), (ma 47, .inl (y 0, 12, .inl g47)), (ma 62, .inl (y 0, 63, .inl u60))]) rfl ?_
          refine j_if_ne (pc := 65) C (tgt := 71) d_Model_today_65 (by decide) (fun c66 => ?_) (fun c66 => ?_)
          · refine j_aload_n (pc := 71) C d_Model_today_71 rfl 3 rfl ?_
            refine j_iload (pc := 72) C d_Model_today_72 0 rfl ?_
            refine j_callVv (pc := 74) C (c_M_acts l D y mo ma t1 i2 i3 i4 i5 i6 i7 i8 i42 i49 i51 i53 i54 i59 z32 z33 i66 t67 i76 i78 g43 g46 g47 u60 (nI iz) c1 dy hc1 bc1 hG hO xh62 (by omega) (xh65 (xh64.resolve_left c66))) kw_Model_485 kv_Model_acts 0 10 rfl rfl ⟨by decide, by decide⟩ ⟨by decide, by decide⟩ (wr := [(ma 45, .inl (y 0, 14, .inl g45)), (ma 48, .inl (y 0, 224, .inl g48)), (ma 50, .inl (y 0, 3200, .inl g50)), (ma 55, .inl (y 2, 16, .inl g55)), (ma 56, .inl (y 0, 16, .inl g56)), (ma 57, .inl (y 0, 16, .inl g57)), (ma 58, .inl (y 0, 16, .inl g58)), (ma 60, .inl (y 1, 1700, .inr (.inl z30))), (ma 63, .inl (y 0, 9, .inl z31)), (ma 68, .inl (y 0, 63, .inl u8))]) [10, 11, 12, 13, 14] [0, 1, 2, 3, 4, 5, 6, 7, 8, 9] rfl rfl (by decide) (by decide) (by decide) (As := [.int (nI iz)]) (rest := []) rfl (nb rfl) rfl d_Model_today_74 (fun u67 hu68 => ?_)
            have xh69 := hu68
            refine j_ws (ws' := [(ma 45, .inl (y 0, 14, .inl g45)), (ma 48, .inl (y 0, 224, .inl g48)), (ma 50, .inl (y 0, 3200, .inl g50)), (ma 55, .inl (y 2, 16, .inl g55)), (ma 56, .inl (y 0, 16, .inl g56)), (ma 57, .inl (y 0, 16, .inl g57)), (ma 58, .inl (y 0, 16, .inl g58)), (ma 60, .inl (y 1, 1700, .inr (.inl z30))), (ma 63, .inl (y 0, 9, .inl z31)), (ma 68, .inl (y 0, 63, .inl u8)), MB mo ma (nI t1) i2 i3 i4 i5 i6 i7 i8 i42 i49 i51 i53 i54 i59 z32 z33 i66 (nI t67) i76 i78, (ma 43, .inl (y 0, 8, .inl g43)), (ma 46, .inl (y 0, 108, .inl g46)), (ma 47, .inl (y 0, 12, .inl g47)), (ma 62, .inl (y 0, 63, .inl u67))]) rfl ?_
            refine j_aload_n (pc := 77) C d_Model_today_77 rfl 3 rfl ?_
            refine j_iconst (pc := 78) C (v := 0) d_Model_today_78 (by decide) ?_
            refine j_callVv (pc := 79) C (c_M_goesBy l D y mo ma t1 i2 i3 i4 i5 i6 i7 i8 i42 i49 i51 i53 i54 i59 z32 z33 i66 t67 i76 i78 g43 g45 g46 g48 g50 g55 g56 g57 g58 z30 u67 z31 0 c0 c1 c2 c3 dy hc0 bc0 hc1 bc1 hc2 bc2 hc3 bc3 hL hS hTh hC xh69 (by omega)) kw_Model_488 kv_Model_goesBy 0 10 rfl rfl ⟨by decide, by decide⟩ ⟨by decide, by decide⟩ (wr := [(ma 68, .inl (y 0, 63, .inl u8)), (ma 47, .inl (y 0, 12, .inl g47))]) [10, 11, 0, 12, 1, 2, 3, 4, 5, 6, 7, 14, 8] [9, 13] rfl rfl (by decide) (by decide) (by decide) (As := [.int 0]) (rest := []) rfl (nb rfl) rfl d_Model_today_79 (fun u70 hu71 => ?_)
            have xh72 := hu71
            refine j_ws (ws' := [(ma 68, .inl (y 0, 63, .inl u8)), (ma 47, .inl (y 0, 12, .inl g47)), MB mo ma (nI t1) i2 i3 i4 i5 i6 i7 i8 i42 i49 i51 i53 i54 i59 u70.1 u70.2.1 i66 (nI t67) i76 i78, (ma 43, .inl (y 0, 8, .inl g43)), (ma 45, .inl (y 0, 14, .inl g45)), (ma 46, .inl (y 0, 108, .inl g46)), (ma 48, .inl (y 0, 224, .inl g48)), (ma 50, .inl (y 0, 3200, .inl g50)), (ma 55, .inl (y 2, 16, .inl g55)), (ma 56, .inl (y 0, 16, .inl g56)), (ma 57, .inl (y 0, 16, .inl g57)), (ma 58, .inl (y 0, 16, .inl g58)), (ma 60, .inl (y 1, 1700, .inr (.inl u70.2.2.1))), (ma 62, .inl (y 0, 63, .inl u70.2.2.2.1)), (ma 63, .inl (y 0, 9, .inl u70.2.2.2.2))]) rfl ?_
            refine j_iload_n (pc := 82) C d_Model_today_82 rfl 5 rfl ?_
            refine j_iconst (pc := 83) C (v := 1) d_Model_today_83 (by decide) ?_
            refine j_icmp_neT (pc := 84) C (tgt := 94) d_Model_today_84 (by decide) (by decide) ?_
            refine j_aload_n (pc := 94) C d_Model_today_94 rfl 3 rfl ?_
            refine j_get (pc := 95) C gf_Model_158 2 rfl rfl d_Model_today_95 ?_
            refine j_bipush (pc := 98) C (v := 41) d_Model_today_98 (by decide) ?_
            refine j_iload_n (pc := 100) C d_Model_today_100 rfl 4 rfl ?_
            refine j_iadd (pc := 101) C (v := nI (41 + j6)) d_Model_today_101 (nI_add _ _) ?_
            refine j_iald (pc := 102) C 13 rfl (v := u70.2.2.2.1 (41 + j6)) (vp_in_nI (by omega) (by decide)) (by rw [nI_clamp (by omega)]) d_Model_today_102 ?_
            refine j_istore (pc := 103) C (lv' := [(6, .int (u70.2.2.2.1 (41 + j6))), (5, .int (nI iz)), (4, .int z28), (3, .int z29), (0, .ref mo), (1, .int (nI j6)), (2, .int 0)]) d_Model_today_103 (by decide) rfl ?_
            refine j_iload_n (pc := 105) C d_Model_today_105 rfl 3 rfl ?_
            refine j_iconst (pc := 106) C (v := (-1)) d_Model_today_106 (by decide) ?_
            refine j_icmp_eq (pc := 107) C (tgt := 120) d_Model_today_107 (by decide) (fun c73 => ?_) (fun c73 => ?_)
            · refine j_iload (pc := 120) C d_Model_today_120 1 rfl ?_
              refine j_istore_n (pc := 122) C (lv' := [(3, .int (nI iz)), (6, .int (u70.2.2.2.1 (41 + j6))), (5, .int (nI iz)), (4, .int z28), (0, .ref mo), (1, .int (nI j6)), (2, .int 0)]) d_Model_today_122 rfl (by decide) rfl ?_
              refine j_iload (pc := 123) C d_Model_today_123 1 rfl ?_
              refine j_istore (pc := 125) C (lv' := [(4, .int (u70.2.2.2.1 (41 + j6))), (3, .int (nI iz)), (6, .int (u70.2.2.2.1 (41 + j6))), (5, .int (nI iz)), (0, .ref mo), (1, .int (nI j6)), (2, .int 0)]) d_Model_today_125 (by decide) rfl ?_
              refine j_iinc (pc := 127) C (v := nI (iz + 1)) (lv' := [(5, .int (nI (iz + 1))), (4, .int (u70.2.2.2.1 (41 + j6))), (3, .int (nI iz)), (6, .int (u70.2.2.2.1 (41 + j6))), (0, .ref mo), (1, .int (nI j6)), (2, .int 0)]) d_Model_today_127 3 rfl (nI_add _ _) (by decide) rfl ?_
              refine j_goto (pc := 130) C (tgt := 48) d_Model_today_130 (by decide) ?_
              refine j_sub (ws' := [(ma 45, .inl (y 0, 14, .inl g45)), (ma 46, .inl (y 0, 108, .inl g46)), (ma 47, .inl (y 0, 12, .inl g47)), (ma 48, .inl (y 0, 224, .inl g48)), (ma 50, .inl (y 0, 3200, .inl g50)), (ma 55, .inl (y 2, 16, .inl g55)), (ma 56, .inl (y 0, 16, .inl g56)), (ma 57, .inl (y 0, 16, .inl g57)), (ma 58, .inl (y 0, 16, .inl g58)), (ma 60, .inl (y 1, 1700, .inr (.inl u70.2.2.1))), (ma 63, .inl (y 0, 9, .inl u70.2.2.2.2)), (ma 43, .inl (y 0, 8, .inl g43)), MB mo ma (nI t1) i2 i3 i4 i5 i6 i7 i8 i42 i49 i51 i53 i54 i59 u70.1 u70.2.1 i66 (nI t67) i76 i78, (ma 62, .inl (y 0, 63, .inl u70.2.2.2.1)), (ma 68, .inl (y 0, 63, .inl u8))]) [4, 5, 1, 6, 7, 8, 9, 10, 11, 12, 14, 3, 2, 13, 0] rfl (by decide) ?_
              refine j_locs (lv' := [(5, .int (nI (iz + 1))), (4, .int (u70.2.2.2.1 (41 + j6))), (3, .int (nI iz)), (0, .ref mo), (1, .int (nI j6)), (2, .int 0)]) [0, 1, 2, 4, 5, 6] rfl ?_
              exact ih55 ((iz + 1), u70.2.2.2.1 (41 + j6), nI iz, u70.2.2.1, u70.2.2.2.2, u70.1, u70.2.1, u70.2.2.2.1) (show (iz + 1) ≤ 3 by omega) (show 3 - (iz + 1) < 3 - iz by omega)
            · refine j_iload (pc := 110) C d_Model_today_110 0 rfl ?_
              refine j_iload (pc := 112) C d_Model_today_112 2 rfl ?_
              refine j_icmp_gt (pc := 114) C (tgt := 120) d_Model_today_114 (by decide) (fun c74 => ?_) (fun c74 => ?_)
              · refine j_iload (pc := 120) C d_Model_today_120 1 rfl ?_
                refine j_istore_n (pc := 122) C (lv' := [(3, .int (nI iz)), (6, .int (u70.2.2.2.1 (41 + j6))), (5, .int (nI iz)), (4, .int z28), (0, .ref mo), (1, .int (nI j6)), (2, .int 0)]) d_Model_today_122 rfl (by decide) rfl ?_
                refine j_iload (pc := 123) C d_Model_today_123 1 rfl ?_
                refine j_istore (pc := 125) C (lv' := [(4, .int (u70.2.2.2.1 (41 + j6))), (3, .int (nI iz)), (6, .int (u70.2.2.2.1 (41 + j6))), (5, .int (nI iz)), (0, .ref mo), (1, .int (nI j6)), (2, .int 0)]) d_Model_today_125 (by decide) rfl ?_
                refine j_iinc (pc := 127) C (v := nI (iz + 1)) (lv' := [(5, .int (nI (iz + 1))), (4, .int (u70.2.2.2.1 (41 + j6))), (3, .int (nI iz)), (6, .int (u70.2.2.2.1 (41 + j6))), (0, .ref mo), (1, .int (nI j6)), (2, .int 0)]) d_Model_today_127 3 rfl (nI_add _ _) (by decide) rfl ?_
                refine j_goto (pc := 130) C (tgt := 48) d_Model_today_130 (by decide) ?_
                refine j_sub (ws' := [(ma 45, .inl (y 0, 14, .inl g45)), (ma 46, .inl (y 0, 108, .inl g46)), (ma 47, .inl (y 0, 12, .inl g47)), (ma 48, .inl (y 0, 224, .inl g48)), (ma 50, .inl (y 0, 3200, .inl g50)), (ma 55, .inl (y 2, 16, .inl g55)), (ma 56, .inl (y 0, 16, .inl g56)), (ma 57, .inl (y 0, 16, .inl g57)), (ma 58, .inl (y 0, 16, .inl g58)), (ma 60, .inl (y 1, 1700, .inr (.inl u70.2.2.1))), (ma 63, .inl (y 0, 9, .inl u70.2.2.2.2)), (ma 43, .inl (y 0, 8, .inl g43)), MB mo ma (nI t1) i2 i3 i4 i5 i6 i7 i8 i42 i49 i51 i53 i54 i59 u70.1 u70.2.1 i66 (nI t67) i76 i78, (ma 62, .inl (y 0, 63, .inl u70.2.2.2.1)), (ma 68, .inl (y 0, 63, .inl u8))]) [4, 5, 1, 6, 7, 8, 9, 10, 11, 12, 14, 3, 2, 13, 0] rfl (by decide) ?_
                refine j_locs (lv' := [(5, .int (nI (iz + 1))), (4, .int (u70.2.2.2.1 (41 + j6))), (3, .int (nI iz)), (0, .ref mo), (1, .int (nI j6)), (2, .int 0)]) [0, 1, 2, 4, 5, 6] rfl ?_
                exact ih55 ((iz + 1), u70.2.2.2.1 (41 + j6), nI iz, u70.2.2.1, u70.2.2.2.2, u70.1, u70.2.1, u70.2.2.2.1) (show (iz + 1) ≤ 3 by omega) (show 3 - (iz + 1) < 3 - iz by omega)
              · refine j_goto (pc := 117) C (tgt := 127) d_Model_today_117 (by decide) ?_
                refine j_iinc (pc := 127) C (v := nI (iz + 1)) (lv' := [(5, .int (nI (iz + 1))), (6, .int (u70.2.2.2.1 (41 + j6))), (4, .int z28), (3, .int z29), (0, .ref mo), (1, .int (nI j6)), (2, .int 0)]) d_Model_today_127 1 rfl (nI_add _ _) (by decide) rfl ?_
                refine j_goto (pc := 130) C (tgt := 48) d_Model_today_130 (by decide) ?_
                refine j_sub (ws' := [(ma 45, .inl (y 0, 14, .inl g45)), (ma 46, .inl (y 0, 108, .inl g46)), (ma 47, .inl (y 0, 12, .inl g47)), (ma 48, .inl (y 0, 224, .inl g48)), (ma 50, .inl (y 0, 3200, .inl g50)), (ma 55, .inl (y 2, 16, .inl g55)), (ma 56, .inl (y 0, 16, .inl g56)), (ma 57, .inl (y 0, 16, .inl g57)), (ma 58, .inl (y 0, 16, .inl g58)), (ma 60, .inl (y 1, 1700, .inr (.inl u70.2.2.1))), (ma 63, .inl (y 0, 9, .inl u70.2.2.2.2)), (ma 43, .inl (y 0, 8, .inl g43)), MB mo ma (nI t1) i2 i3 i4 i5 i6 i7 i8 i42 i49 i51 i53 i54 i59 u70.1 u70.2.1 i66 (nI t67) i76 i78, (ma 62, .inl (y 0, 63, .inl u70.2.2.2.1)), (ma 68, .inl (y 0, 63, .inl u8))]) [4, 5, 1, 6, 7, 8, 9, 10, 11, 12, 14, 3, 2, 13, 0] rfl (by decide) ?_
                refine j_locs (lv' := [(5, .int (nI (iz + 1))), (4, .int z28), (3, .int z29), (0, .ref mo), (1, .int (nI j6)), (2, .int 0)]) [0, 2, 3, 4, 5, 6] rfl ?_
                exact ih55 ((iz + 1), z28, z29, u70.2.2.1, u70.2.2.2.2, u70.1, u70.2.1, u70.2.2.2.1) (show (iz + 1) ≤ 3 by omega) (show 3 - (iz + 1) < 3 - iz by omega)
          · refine j_goto (pc := 68) C (tgt := 127) d_Model_today_68 (by decide) ?_
            refine j_iinc (pc := 127) C (v := nI (iz + 1)) (lv' := [(5, .int (nI (iz + 1))), (4, .int z28), (3, .int z29), (0, .ref mo), (1, .int (nI j6)), (2, .int 0)]) d_Model_today_127 0 rfl (nI_add _ _) (by decide) rfl ?_
            refine j_goto (pc := 130) C (tgt := 48) d_Model_today_130 (by decide) ?_
            refine j_sub (ws' := [(ma 45, .inl (y 0, 14, .inl g45)), (ma 46, .inl (y 0, 108, .inl g46)), (ma 47, .inl (y 0, 12, .inl g47)), (ma 48, .inl (y 0, 224, .inl g48)), (ma 50, .inl (y 0, 3200, .inl g50)), (ma 55, .inl (y 2, 16, .inl g55)), (ma 56, .inl (y 0, 16, .inl g56)), (ma 57, .inl (y 0, 16, .inl g57)), (ma 58, .inl (y 0, 16, .inl g58)), (ma 60, .inl (y 1, 1700, .inr (.inl z30))), (ma 63, .inl (y 0, 9, .inl z31)), (ma 43, .inl (y 0, 8, .inl g43)), MB mo ma (nI t1) i2 i3 i4 i5 i6 i7 i8 i42 i49 i51 i53 i54 i59 z32 z33 i66 (nI t67) i76 i78, (ma 62, .inl (y 0, 63, .inl u60)), (ma 68, .inl (y 0, 63, .inl u8))]) [0, 12, 13, 1, 2, 3, 4, 5, 6, 7, 8, 11, 10, 14, 9] rfl (by decide) ?_
            exact ih55 ((iz + 1), z28, z29, z30, z31, z32, z33, u60) (show (iz + 1) ≤ 3 by omega) (show 3 - (iz + 1) < 3 - iz by omega)
  · refine j_if_eqF (pc := 7) C (tgt := 34) d_Model_today_7 (by decide) (by decide) ?_
    refine j_aload_n (pc := 10) C d_Model_today_10 rfl 0 rfl ?_
    refine j_get (pc := 11) C gf_Model_158 0 rfl rfl d_Model_today_11 ?_
    refine j_iconst (pc := 14) C (v := 0) d_Model_today_14 (by decide) ?_
    refine j_iald (pc := 15) C 12 rfl (v := nI dy) (vin (by decide)) (by exact hD) d_Model_today_15 ?_
    refine j_sipush (pc := 16) C (v := 999) d_Model_today_16 (by decide) ?_
    by_cases c75 : dy = 999
    · refine j_icmp_eqT (pc := 19) C (tgt := 34) d_Model_today_19 (by decide) (show nI dy = nI 999 from (nI_eq (by omega) (by omega)).mpr (by omega)) ?_
      refine j_iconst (pc := 34) C (v := (-1)) d_Model_today_34 (by decide) ?_
      exact j_iret (pc := 35) C hr rfl (i61, i64, g60, g62, g63, g68) hD [0, 1, 2, 3, 4, 5, 6, 7, 8, 9, 10, 11, 12, 13, 14] rfl (by decide) (by decide) (by decide) d_Model_today_35
    · refine j_icmp_eqF (pc := 19) C (tgt := 34) d_Model_today_19 (by decide) (show ¬ nI dy = nI 999 from fun e => absurd ((nI_eq (by omega) (by omega)).mp e) (by omega)) ?_
      refine j_iload_n (pc := 22) C d_Model_today_22 rfl 2 rfl ?_
      refine j_if_neT (pc := 23) C (tgt := 36) d_Model_today_23 (by decide) (by decide) ?_
      refine j_iconst (pc := 36) C (v := (-1)) d_Model_today_36 (by decide) ?_
      refine j_istore_n (pc := 37) C (lv' := [(3, .int (-1)), (0, .ref mo), (1, .int v1), (2, .int 1)]) d_Model_today_37 rfl (by decide) rfl ?_
      refine j_iconst (pc := 38) C (v := 0) d_Model_today_38 (by decide) ?_
      refine j_istore (pc := 39) C (lv' := [(4, .int 0), (3, .int (-1)), (0, .ref mo), (1, .int v1), (2, .int 1)]) d_Model_today_39 (by decide) rfl ?_
      refine j_aload_n (pc := 41) C d_Model_today_41 rfl 2 rfl ?_
      refine j_callVv (pc := 42) C (c_M_putsAside l D y mo ma t1 i2 i3 i4 i5 i6 i7 i8 i42 i49 i51 i53 i54 i59 i61 i64 i66 t67 i76 i78 g62 g68 dy hD) kw_Model_510 kv_Model_putsAside 0 10 rfl rfl ⟨by decide, by decide⟩ ⟨by decide, by decide⟩ (wr := [(ma 43, .inl (y 0, 8, .inl g43)), (ma 45, .inl (y 0, 14, .inl g45)), (ma 46, .inl (y 0, 108, .inl g46)), (ma 47, .inl (y 0, 12, .inl g47)), (ma 48, .inl (y 0, 224, .inl g48)), (ma 50, .inl (y 0, 3200, .inl g50)), (ma 55, .inl (y 2, 16, .inl g55)), (ma 56, .inl (y 0, 16, .inl g56)), (ma 57, .inl (y 0, 16, .inl g57)), (ma 58, .inl (y 0, 16, .inl g58)), (ma 60, .inl (y 1, 1700, .inr (.inl g60))), (ma 63, .inl (y 0, 9, .inl g63))]) [0, 12, 14] [1, 2, 3, 4, 5, 6, 7, 8, 9, 10, 11, 13] rfl rfl (by decide) (by decide) (by decide) (As := []) (rest := []) rfl (nb rfl) rfl d_Model_today_42 (fun u76 hu77 => ?_)
      have xh78 := hu77
      refine j_ws (ws' := [(ma 43, .inl (y 0, 8, .inl g43)), (ma 45, .inl (y 0, 14, .inl g45)), (ma 46, .inl (y 0, 108, .inl g46)), (ma 47, .inl (y 0, 12, .inl g47)), (ma 48, .inl (y 0, 224, .inl g48)), (ma 50, .inl (y 0, 3200, .inl g50)), (ma 55, .inl (y 2, 16, .inl g55)), (ma 56, .inl (y 0, 16, .inl g56)), (ma 57, .inl (y 0, 16, .inl g57)), (ma 58, .inl (y 0, 16, .inl g58)), (ma 60, .inl (y 1, 1700, .inr (.inl g60))), (ma 63, .inl (y 0, 9, .inl g63)), MB mo ma (nI t1) i2 i3 i4 i5 i6 i7 i8 i42 i49 i51 i53 i54 i59 i61 i64 i66 (nI t67) i76 i78, (ma 62, .inl (y 0, 63, .inl g62)), (ma 68, .inl (y 0, 63, .inl u76))]) rfl ?_
      refine j_iconst (pc := 45) C (v := 0) d_Model_today_45 (by decide) ?_
      refine j_istore (pc := 46) C (lv' := [(5, .int 0), (4, .int 0), (3, .int (-1)), (0, .ref mo), (1, .int v1), (2, .int 1)]) d_Model_today_46 (by decide) rfl ?_
      refine j_loop (α := Nat × Int32 × Int32 × (Nat → Int64) × (Nat → Int32) × Int32 × Int32 × (Nat → Int32)) (fun a => 3 - a.1) (fun a => (a.1 ≤ 3)) (fun a => [(ma 43, .inl (y 0, 8, .inl g43)), (ma 45, .inl (y 0, 14, .inl g45)), (ma 46, .inl (y 0, 108, .inl g46)), (ma 47, .inl (y 0, 12, .inl g47)), (ma 48, .inl (y 0, 224, .inl g48)), (ma 50, .inl (y 0, 3200, .inl g50)), (ma 55, .inl (y 2, 16, .inl g55)), (ma 56, .inl (y 0, 16, .inl g56)), (ma 57, .inl (y 0, 16, .inl g57)), (ma 58, .inl (y 0, 16, .inl g58)), (ma 60, .inl (y 1, 1700, .inr (.inl a.2.2.2.1))), (ma 63, .inl (y 0, 9, .inl a.2.2.2.2.1)), MB mo ma (nI t1) i2 i3 i4 i5 i6 i7 i8 i42 i49 i51 i53 i54 i59 a.2.2.2.2.2.1 a.2.2.2.2.2.2.1 i66 (nI t67) i76 i78, (ma 62, .inl (y 0, 63, .inl a.2.2.2.2.2.2.2)), (ma 68, .inl (y 0, 63, .inl u76))]) (fun a => [(5, .int (nI a.1)), (4, .int a.2.1), (3, .int a.2.2.1), (0, .ref mo), (1, .int v1), (2, .int 1)]) (0, 0, (-1), g60, g63, i61, i64, g62) rfl rfl (show 0 ≤ 3 by omega) ?_
      rintro ⟨iz, z97, z98, z99, z100, z101, z102, z103⟩ hP124 ih125
      have hi__ := hP124
      have hi_ : iz ≤ 3 := hi__
      refine j_ws (ws' := [(ma 43, .inl (y 0, 8, .inl g43)), (ma 45, .inl (y 0, 14, .inl g45)), (ma 46, .inl (y 0, 108, .inl g46)), (ma 47, .inl (y 0, 12, .inl g47)), (ma 48, .inl (y 0, 224, .inl g48)), (ma 50, .inl (y 0, 3200, .inl g50)), (ma 55, .inl (y 2, 16, .inl g55)), (ma 56, .inl (y 0, 16, .inl g56)), (ma 57, .inl (y 0, 16, .inl g57)), (ma 58, .inl (y 0, 16, .inl g58)), (ma 60, .inl (y 1, 1700, .inr (.inl z99))), (ma 63, .inl (y 0, 9, .inl z100)), MB mo ma (nI t1) i2 i3 i4 i5 i6 i7 i8 i42 i49 i51 i53 i54 i59 z101 z102 i66 (nI t67) i76 i78, (ma 62, .inl (y 0, 63, .inl z103)), (ma 68, .inl (y 0, 63, .inl u76))]) rfl ?_
      refine j_lv (lv' := [(5, .int (nI iz)), (4, .int z97), (3, .int z98), (0, .ref mo), (1, .int v1), (2, .int 1)]) rfl ?_
      refine j_iload (pc := 48) C d_Model_today_48 0 rfl ?_
      refine j_iconst (pc := 50) C (v := 2) d_Model_today_50 (by decide) ?_
      by_cases c126 : 2 < iz
      · refine j_icmp_gtT (pc := 51) C (tgt := 133) d_Model_today_51 (by decide) (show nI 2 < nI iz from nI_lt (by omega) (by omega)) ?_
        refine j_aload_n (pc := 133) C d_Model_today_133 rfl 3 rfl ?_
        refine j_callVv (pc := 134) C (c_M_takesBack l D y mo ma t1 i2 i3 i4 i5 i6 i7 i8 i42 i49 i51 i53 i54 i59 z101 z102 i66 t67 i76 i78 z103 u76 dy xh78) kw_Model_495 kv_Model_takesBack 0 10 rfl rfl ⟨by decide, by decide⟩ ⟨by decide, by decide⟩ (wr := [(ma 43, .inl (y 0, 8, .inl g43)), (ma 45, .inl (y 0, 14, .inl g45)), (ma 46, .inl (y 0, 108, .inl g46)), (ma 47, .inl (y 0, 12, .inl g47)), (ma 48, .inl (y 0, 224, .inl g48)), (ma 50, .inl (y 0, 3200, .inl g50)), (ma 55, .inl (y 2, 16, .inl g55)), (ma 56, .inl (y 0, 16, .inl g56)), (ma 57, .inl (y 0, 16, .inl g57)), (ma 58, .inl (y 0, 16, .inl g58)), (ma 60, .inl (y 1, 1700, .inr (.inl z99))), (ma 63, .inl (y 0, 9, .inl z100))]) [12, 13, 14] [0, 1, 2, 3, 4, 5, 6, 7, 8, 9, 10, 11] rfl rfl (by decide) (by decide) (by decide) (As := []) (rest := []) rfl (nb rfl) rfl d_Model_today_134 (fun u127 hu128 => ?_)
        have xh129 := hu128
        refine j_ws (ws' := [(ma 43, .inl (y 0, 8, .inl g43)), (ma 45, .inl (y 0, 14, .inl g45)), (ma 46, .inl (y 0, 108, .inl g46)), (ma 47, .inl (y 0, 12, .inl g47)), (ma 48, .inl (y 0, 224, .inl g48)), (ma 50, .inl (y 0, 3200, .inl g50)), (ma 55, .inl (y 2, 16, .inl g55)), (ma 56, .inl (y 0, 16, .inl g56)), (ma 57, .inl (y 0, 16, .inl g57)), (ma 58, .inl (y 0, 16, .inl g58)), (ma 60, .inl (y 1, 1700, .inr (.inl z99))), (ma 63, .inl (y 0, 9, .inl z100)), MB mo ma (nI t1) i2 i3 i4 i5 i6 i7 i8 i42 i49 i51 i53 i54 i59 z101 z102 i66 (nI t67) i76 i78, (ma 62, .inl (y 0, 63, .inl u127)), (ma 68, .inl (y 0, 63, .inl u76))]) rfl ?_
        refine j_iload_n (pc := 137) C d_Model_today_137 rfl 2 rfl ?_
        exact j_iret (pc := 138) C hr rfl (z101, z102, z99, u127, z100, u76) xh129 [12, 0, 1, 2, 3, 4, 5, 6, 7, 8, 9, 10, 13, 11, 14] rfl (by decide) (by decide) (by decide) d_Model_today_138
      · refine j_icmp_gtF (pc := 51) C (tgt := 133) d_Model_today_51 (by decide) (show ¬ nI 2 < nI iz from nI_nlt (by omega) (by omega)) ?_
        refine j_aload_n (pc := 54) C d_Model_today_54 rfl 3 rfl ?_
        refine j_callVv (pc := 55) C (c_M_takesBack l D y mo ma t1 i2 i3 i4 i5 i6 i7 i8 i42 i49 i51 i53 i54 i59 z101 z102 i66 t67 i76 i78 z103 u76 dy xh78) kw_Model_495 kv_Model_takesBack 0 10 rfl rfl ⟨by decide, by decide⟩ ⟨by decide, by decide⟩ (wr := [(ma 43, .inl (y 0, 8, .inl g43)), (ma 45, .inl (y 0, 14, .inl g45)), (ma 46, .inl (y 0, 108, .inl g46)), (ma 47, .inl (y 0, 12, .inl g47)), (ma 48, .inl (y 0, 224, .inl g48)), (ma 50, .inl (y 0, 3200, .inl g50)), (ma 55, .inl (y 2, 16, .inl g55)), (ma 56, .inl (y 0, 16, .inl g56)), (ma 57, .inl (y 0, 16, .inl g57)), (ma 58, .inl (y 0, 16, .inl g58)), (ma 60, .inl (y 1, 1700, .inr (.inl z99))), (ma 63, .inl (y 0, 9, .inl z100))]) [12, 13, 14] [0, 1, 2, 3, 4, 5, 6, 7, 8, 9, 10, 11] rfl rfl (by decide) (by decide) (by decide) (As := []) (rest := []) rfl (nb rfl) rfl d_Model_today_55 (fun u130 hu131 => ?_)
        have xh132 := hu131
        refine j_ws (ws' := [(ma 43, .inl (y 0, 8, .inl g43)), (ma 45, .inl (y 0, 14, .inl g45)), (ma 46, .inl (y 0, 108, .inl g46)), (ma 47, .inl (y 0, 12, .inl g47)), (ma 48, .inl (y 0, 224, .inl g48)), (ma 50, .inl (y 0, 3200, .inl g50)), (ma 55, .inl (y 2, 16, .inl g55)), (ma 56, .inl (y 0, 16, .inl g56)), (ma 57, .inl (y 0, 16, .inl g57)), (ma 58, .inl (y 0, 16, .inl g58)), (ma 60, .inl (y 1, 1700, .inr (.inl z99))), (ma 63, .inl (y 0, 9, .inl z100)), MB mo ma (nI t1) i2 i3 i4 i5 i6 i7 i8 i42 i49 i51 i53 i54 i59 z101 z102 i66 (nI t67) i76 i78, (ma 62, .inl (y 0, 63, .inl u130)), (ma 68, .inl (y 0, 63, .inl u76))]) rfl ?_
        refine j_aload_n (pc := 58) C d_Model_today_58 rfl 3 rfl ?_
        refine j_iconst (pc := 59) C (v := 0) d_Model_today_59 (by decide) ?_
        refine j_iload (pc := 60) C d_Model_today_60 0 rfl ?_
        refine j_callVi (pc := 62) C (c_M_mayDo l D y mo ma t1 i2 i3 i4 i5 i6 i7 i8 i42 i49 i51 i53 i54 i59 z101 z102 i66 t67 i76 i78 g43 g46 g47 u130 0 (nI iz) c1 dy hc1 bc1 hG hO xh132 (by omega)) kw_Model_478 kv_Model_mayDo 0 10 rfl rfl ⟨by decide, by decide⟩ ⟨by decide, by decide⟩ (wr := [(ma 45, .inl (y 0, 14, .inl g45)), (ma 48, .inl (y 0, 224, .inl g48)), (ma 50, .inl (y 0, 3200, .inl g50)), (ma 55, .inl (y 2, 16, .inl g55)), (ma 56, .inl (y 0, 16, .inl g56)), (ma 57, .inl (y 0, 16, .inl g57)), (ma 58, .inl (y 0, 16, .inl g58)), (ma 60, .inl (y 1, 1700, .inr (.inl z99))), (ma 63, .inl (y 0, 9, .inl z100)), (ma 68, .inl (y 0, 63, .inl u76))]) [12, 0, 2, 3, 13] [1, 4, 5, 6, 7, 8, 9, 10, 11, 14] rfl rfl (by decide) (by decide) (by decide) (As := [.int 0, .int (nI iz)]) (rest := []) rfl (nb rfl) rfl d_Model_today_62 (fun r133 _ hr133 => ?_)
        obtain ⟨xh134, xh135⟩ := hr133
        refine j_ws (ws' := [(ma 45, .inl (y 0, 14, .inl g45)), (ma 48, .inl (y 0, 224, .inl g48)), (ma 50, .inl (y 0, 3200, .inl g50)), (ma 55, .inl (y 2, 16, .inl g55)), (ma 56, .inl (y 0, 16, .inl g56)), (ma 57, .inl (y 0, 16, .inl g57)), (ma 58, .inl (y 0, 16, .inl g58)), (ma 60, .inl (y 1, 1700, .inr (.inl z99))), (ma 63, .inl (y 0, 9, .inl z100)), (ma 68, .inl (y 0, 63, .inl u76)), MB mo ma (nI t1) i2 i3 i4 i5 i6 i7 i8 i42 i49 i51 i53 i54 i59 z101 z102 i66 (nI t67) i76 i78, (ma 43, .inl (y 0, 8, .inl g43)), (ma 46, .inl (y 0, 108, .inl g46)), (ma 47, .inl (y 0, 12, .inl g47)), (ma 62, .inl (y 0, 63, .inl u130))]) rfl ?_
        refine j_if_ne (pc := 65) C (tgt := 71) d_Model_today_65 (by decide) (fun c136 => ?_) (fun c136 => ?_)
        · refine j_aload_n (pc := 71) C d_Model_today_71 rfl 3 rfl ?_
          refine j_iload (pc := 72) C d_Model_today_72 0 rfl ?_
          refine j_callVv (pc := 74) C (c_M_acts l D y mo ma t1 i2 i3 i4 i5 i6 i7 i8 i42 i49 i51 i53 i54 i59 z101 z102 i66 t67 i76 i78 g43 g46 g47 u130 (nI iz) c1 dy hc1 bc1 hG hO xh132 (by omega) (xh135 (xh134.resolve_left c136))) kw_Model_485 kv_Model_acts 0 10 rfl rfl ⟨by decide, by decide⟩ ⟨by decide, by decide⟩ (wr := [(ma 45, .inl (y 0, 14, .inl g45)), (ma 48, .inl (y 0, 224, .inl g48)), (ma 50, .inl (y 0, 3200, .inl g50)), (ma 55, .inl (y 2, 16, .inl g55)), (ma 56, .inl (y 0, 16, .inl g56)), (ma 57, .inl (y 0, 16, .inl g57)), (ma 58, .inl (y 0, 16, .inl g58)), (ma 60, .inl (y 1, 1700, .inr (.inl z99))), (ma 63, .inl (y 0, 9, .inl z100)), (ma 68, .inl (y 0, 63, .inl u76))]) [10, 11, 12, 13, 14] [0, 1, 2, 3, 4, 5, 6, 7, 8, 9] rfl rfl (by decide) (by decide) (by decide) (As := [.int (nI iz)]) (rest := []) rfl (nb rfl) rfl d_Model_today_74 (fun u137 hu138 => ?_)
          have xh139 := hu138
          refine j_ws (ws' := [(ma 45, .inl (y 0, 14, .inl g45)), (ma 48, .inl (y 0, 224, .inl g48)), (ma 50, .inl (y 0, 3200, .inl g50)), (ma 55, .inl (y 2, 16, .inl g55)), (ma 56, .inl (y 0, 16, .inl g56)), (ma 57, .inl (y 0, 16, .inl g57)), (ma 58, .inl (y 0, 16, .inl g58)), (ma 60, .inl (y 1, 1700, .inr (.inl z99))), (ma 63, .inl (y 0, 9, .inl z100)), (ma 68, .inl (y 0, 63, .inl u76)), MB mo ma (nI t1) i2 i3 i4 i5 i6 i7 i8 i42 i49 i51 i53 i54 i59 z101 z102 i66 (nI t67) i76 i78, (ma 43, .inl (y 0, 8, .inl g43)), (ma 46, .inl (y 0, 108, .inl g46)), (ma 47, .inl (y 0, 12, .inl g47)), (ma 62, .inl (y 0, 63, .inl u137))]) rfl ?_
          refine j_aload_n (pc := 77) C d_Model_today_77 rfl 3 rfl ?_
          refine j_iconst (pc := 78) C (v := 0) d_Model_today_78 (by decide) ?_
          refine j_callVv (pc := 79) C (c_M_goesBy l D y mo ma t1 i2 i3 i4 i5 i6 i7 i8 i42 i49 i51 i53 i54 i59 z101 z102 i66 t67 i76 i78 g43 g45 g46 g48 g50 g55 g56 g57 g58 z99 u137 z100 0 c0 c1 c2 c3 dy hc0 bc0 hc1 bc1 hc2 bc2 hc3 bc3 hL hS hTh hC xh139 (by omega)) kw_Model_488 kv_Model_goesBy 0 10 rfl rfl ⟨by decide, by decide⟩ ⟨by decide, by decide⟩ (wr := [(ma 68, .inl (y 0, 63, .inl u76)), (ma 47, .inl (y 0, 12, .inl g47))]) [10, 11, 0, 12, 1, 2, 3, 4, 5, 6, 7, 14, 8] [9, 13] rfl rfl (by decide) (by decide) (by decide) (As := [.int 0]) (rest := []) rfl (nb rfl) rfl d_Model_today_79 (fun u140 hu141 => ?_)
          have xh142 := hu141
          refine j_ws (ws' := [(ma 68, .inl (y 0, 63, .inl u76)), (ma 47, .inl (y 0, 12, .inl g47)), MB mo ma (nI t1) i2 i3 i4 i5 i6 i7 i8 i42 i49 i51 i53 i54 i59 u140.1 u140.2.1 i66 (nI t67) i76 i78, (ma 43, .inl (y 0, 8, .inl g43)), (ma 45, .inl (y 0, 14, .inl g45)), (ma 46, .inl (y 0, 108, .inl g46)), (ma 48, .inl (y 0, 224, .inl g48)), (ma 50, .inl (y 0, 3200, .inl g50)), (ma 55, .inl (y 2, 16, .inl g55)), (ma 56, .inl (y 0, 16, .inl g56)), (ma 57, .inl (y 0, 16, .inl g57)), (ma 58, .inl (y 0, 16, .inl g58)), (ma 60, .inl (y 1, 1700, .inr (.inl u140.2.2.1))), (ma 62, .inl (y 0, 63, .inl u140.2.2.2.1)), (ma 63, .inl (y 0, 9, .inl u140.2.2.2.2))]) rfl ?_
          refine j_iload_n (pc := 82) C d_Model_today_82 rfl 5 rfl ?_
          refine j_iconst (pc := 83) C (v := 1) d_Model_today_83 (by decide) ?_
          refine j_icmp_neF (pc := 84) C (tgt := 94) d_Model_today_84 (by decide) (by decide) ?_
          refine j_aload_n (pc := 87) C d_Model_today_87 rfl 3 rfl ?_
          refine j_callVi (pc := 88) C (c_M_level l D y mo ma t1 i2 i3 i4 i5 i6 i7 i8 i42 i49 i51 i53 i54 i59 u140.1 u140.2.1 i66 t67 i76 i78 g45 u140.2.2.2.1 hL) kw_Model_427 kv_Model_level 0 10 rfl rfl ⟨by decide, by decide⟩ ⟨by decide, by decide⟩ (wr := [(ma 68, .inl (y 0, 63, .inl u76)), (ma 47, .inl (y 0, 12, .inl g47)), (ma 43, .inl (y 0, 8, .inl g43)), (ma 46, .inl (y 0, 108, .inl g46)), (ma 48, .inl (y 0, 224, .inl g48)), (ma 50, .inl (y 0, 3200, .inl g50)), (ma 55, .inl (y 2, 16, .inl g55)), (ma 56, .inl (y 0, 16, .inl g56)), (ma 57, .inl (y 0, 16, .inl g57)), (ma 58, .inl (y 0, 16, .inl g58)), (ma 60, .inl (y 1, 1700, .inr (.inl u140.2.2.1))), (ma 63, .inl (y 0, 9, .inl u140.2.2.2.2))]) [2, 4, 13] [0, 1, 3, 5, 6, 7, 8, 9, 10, 11, 12, 14] rfl rfl (by decide) (by decide) (by decide) (As := []) (rest := []) rfl (nb rfl) rfl d_Model_today_88 (fun r143 _ hr143 => ?_)
          refine j_ws (ws' := [(ma 68, .inl (y 0, 63, .inl u76)), (ma 47, .inl (y 0, 12, .inl g47)), (ma 43, .inl (y 0, 8, .inl g43)), (ma 46, .inl (y 0, 108, .inl g46)), (ma 48, .inl (y 0, 224, .inl g48)), (ma 50, .inl (y 0, 3200, .inl g50)), (ma 55, .inl (y 2, 16, .inl g55)), (ma 56, .inl (y 0, 16, .inl g56)), (ma 57, .inl (y 0, 16, .inl g57)), (ma 58, .inl (y 0, 16, .inl g58)), (ma 60, .inl (y 1, 1700, .inr (.inl u140.2.2.1))), (ma 63, .inl (y 0, 9, .inl u140.2.2.2.2)), MB mo ma (nI t1) i2 i3 i4 i5 i6 i7 i8 i42 i49 i51 i53 i54 i59 u140.1 u140.2.1 i66 (nI t67) i76 i78, (ma 45, .inl (y 0, 14, .inl g45)), (ma 62, .inl (y 0, 63, .inl u140.2.2.2.1))]) rfl ?_
          refine j_goto (pc := 91) C (tgt := 103) d_Model_today_91 (by decide) ?_
          refine j_istore (pc := 103) C (lv' := [(6, .int r143), (5, .int (nI iz)), (4, .int z97), (3, .int z98), (0, .ref mo), (1, .int v1), (2, .int 1)]) d_Model_today_103 (by decide) rfl ?_
          refine j_iload_n (pc := 105) C d_Model_today_105 rfl 3 rfl ?_
          refine j_iconst (pc := 106) C (v := (-1)) d_Model_today_106 (by decide) ?_
          refine j_icmp_eq (pc := 107) C (tgt := 120) d_Model_today_107 (by decide) (fun c144 => ?_) (fun c144 => ?_)
          · refine j_iload (pc := 120) C d_Model_today_120 1 rfl ?_
            refine j_istore_n (pc := 122) C (lv' := [(3, .int (nI iz)), (6, .int r143), (5, .int (nI iz)), (4, .int z97), (0, .ref mo), (1, .int v1), (2, .int 1)]) d_Model_today_122 rfl (by decide) rfl ?_
            refine j_iload (pc := 123) C d_Model_today_123 1 rfl ?_
            refine j_istore (pc := 125) C (lv' := [(4, .int r143), (3, .int (nI iz)), (6, .int r143), (5, .int (nI iz)), (0, .ref mo), (1, .int v1), (2, .int 1)]) d_Model_today_125 (by decide) rfl ?_
            refine j_iinc (pc := 127) C (v := nI (iz + 1)) (lv' := [(5, .int (nI (iz + 1))), (4, .int r143), (3, .int (nI iz)), (6, .int r143), (0, .ref mo), (1, .int v1), (2, .int 1)]) d_Model_today_127 3 rfl (nI_add _ _) (by decide) rfl ?_
            refine j_goto (pc := 130) C (tgt := 48) d_Model_today_130 (by decide) ?_
            refine j_sub (ws' := [(ma 43, .inl (y 0, 8, .inl g43)), (ma 45, .inl (y 0, 14, .inl g45)), (ma 46, .inl (y 0, 108, .inl g46)), (ma 47, .inl (y 0, 12, .inl g47)), (ma 48, .inl (y 0, 224, .inl g48)), (ma 50, .inl (y 0, 3200, .inl g50)), (ma 55, .inl (y 2, 16, .inl g55)), (ma 56, .inl (y 0, 16, .inl g56)), (ma 57, .inl (y 0, 16, .inl g57)), (ma 58, .inl (y 0, 16, .inl g58)), (ma 60, .inl (y 1, 1700, .inr (.inl u140.2.2.1))), (ma 63, .inl (y 0, 9, .inl u140.2.2.2.2)), MB mo ma (nI t1) i2 i3 i4 i5 i6 i7 i8 i42 i49 i51 i53 i54 i59 u140.1 u140.2.1 i66 (nI t67) i76 i78, (ma 62, .inl (y 0, 63, .inl u140.2.2.2.1)), (ma 68, .inl (y 0, 63, .inl u76))]) [2, 13, 3, 1, 4, 5, 6, 7, 8, 9, 10, 11, 12, 14, 0] rfl (by decide) ?_
            refine j_locs (lv' := [(5, .int (nI (iz + 1))), (4, .int r143), (3, .int (nI iz)), (0, .ref mo), (1, .int v1), (2, .int 1)]) [0, 1, 2, 4, 5, 6] rfl ?_
            exact ih125 ((iz + 1), r143, nI iz, u140.2.2.1, u140.2.2.2.2, u140.1, u140.2.1, u140.2.2.2.1) (show (iz + 1) ≤ 3 by omega) (show 3 - (iz + 1) < 3 - iz by omega)
          · refine j_iload (pc := 110) C d_Model_today_110 0 rfl ?_
            refine j_iload (pc := 112) C d_Model_today_112 2 rfl ?_
            refine j_icmp_gt (pc := 114) C (tgt := 120) d_Model_today_114 (by decide) (fun c145 => ?_) (fun c145 => ?_)
            · refine j_iload (pc := 120) C d_Model_today_120 1 rfl ?_
              refine j_istore_n (pc := 122) C (lv' := [(3, .int (nI iz)), (6, .int r143), (5, .int (nI iz)), (4, .int z97), (0, .ref mo), (1, .int v1), (2, .int 1)]) d_Model_today_122 rfl (by decide) rfl ?_
              refine j_iload (pc := 123) C d_Model_today_123 1 rfl ?_
              refine j_istore (pc := 125) C (lv' := [(4, .int r143), (3, .int (nI iz)), (6, .int r143), (5, .int (nI iz)), (0, .ref mo), (1, .int v1), (2, .int 1)]) d_Model_today_125 (by decide) rfl ?_
              refine j_iinc (pc := 127) C (v := nI (iz + 1)) (lv' := [(5, .int (nI (iz + 1))), (4, .int r143), (3, .int (nI iz)), (6, .int r143), (0, .ref mo), (1, .int v1), (2, .int 1)]) d_Model_today_127 3 rfl (nI_add _ _) (by decide) rfl ?_
              refine j_goto (pc := 130) C (tgt := 48) d_Model_today_130 (by decide) ?_
              refine j_sub (ws' := [(ma 43, .inl (y 0, 8, .inl g43)), (ma 45, .inl (y 0, 14, .inl g45)), (ma 46, .inl (y 0, 108, .inl g46)), (ma 47, .inl (y 0, 12, .inl g47)), (ma 48, .inl (y 0, 224, .inl g48)), (ma 50, .inl (y 0, 3200, .inl g50)), (ma 55, .inl (y 2, 16, .inl g55)), (ma 56, .inl (y 0, 16, .inl g56)), (ma 57, .inl (y 0, 16, .inl g57)), (ma 58, .inl (y 0, 16, .inl g58)), (ma 60, .inl (y 1, 1700, .inr (.inl u140.2.2.1))), (ma 63, .inl (y 0, 9, .inl u140.2.2.2.2)), MB mo ma (nI t1) i2 i3 i4 i5 i6 i7 i8 i42 i49 i51 i53 i54 i59 u140.1 u140.2.1 i66 (nI t67) i76 i78, (ma 62, .inl (y 0, 63, .inl u140.2.2.2.1)), (ma 68, .inl (y 0, 63, .inl u76))]) [2, 13, 3, 1, 4, 5, 6, 7, 8, 9, 10, 11, 12, 14, 0] rfl (by decide) ?_
              refine j_locs (lv' := [(5, .int (nI (iz + 1))), (4, .int r143), (3, .int (nI iz)), (0, .ref mo), (1, .int v1), (2, .int 1)]) [0, 1, 2, 4, 5, 6] rfl ?_
              exact ih125 ((iz + 1), r143, nI iz, u140.2.2.1, u140.2.2.2.2, u140.1, u140.2.1, u140.2.2.2.1) (show (iz + 1) ≤ 3 by omega) (show 3 - (iz + 1) < 3 - iz by omega)
            · refine j_goto (pc := 117) C (tgt := 127) d_Model_today_117 (by decide) ?_
              refine j_iinc (pc := 127) C (v := nI (iz + 1)) (lv' := [(5, .int (nI (iz + 1))), (6, .int r143), (4, .int z97), (3, .int z98), (0, .ref mo), (1, .int v1), (2, .int 1)]) d_Model_today_127 1 rfl (nI_add _ _) (by decide) rfl ?_
              refine j_goto (pc := 130) C (tgt := 48) d_Model_today_130 (by decide) ?_
              refine j_sub (ws' := [(ma 43, .inl (y 0, 8, .inl g43)), (ma 45, .inl (y 0, 14, .inl g45)), (ma 46, .inl (y 0, 108, .inl g46)), (ma 47, .inl (y 0, 12, .inl g47)), (ma 48, .inl (y 0, 224, .inl g48)), (ma 50, .inl (y 0, 3200, .inl g50)), (ma 55, .inl (y 2, 16, .inl g55)), (ma 56, .inl (y 0, 16, .inl g56)), (ma 57, .inl (y 0, 16, .inl g57)), (ma 58, .inl (y 0, 16, .inl g58)), (ma 60, .inl (y 1, 1700, .inr (.inl u140.2.2.1))), (ma 63, .inl (y 0, 9, .inl u140.2.2.2.2)), MB mo ma (nI t1) i2 i3 i4 i5 i6 i7 i8 i42 i49 i51 i53 i54 i59 u140.1 u140.2.1 i66 (nI t67) i76 i78, (ma 62, .inl (y 0, 63, .inl u140.2.2.2.1)), (ma 68, .inl (y 0, 63, .inl u76))]) [2, 13, 3, 1, 4, 5, 6, 7, 8, 9, 10, 11, 12, 14, 0] rfl (by decide) ?_
              refine j_locs (lv' := [(5, .int (nI (iz + 1))), (4, .int z97), (3, .int z98), (0, .ref mo), (1, .int v1), (2, .int 1)]) [0, 2, 3, 4, 5, 6] rfl ?_
              exact ih125 ((iz + 1), z97, z98, u140.2.2.1, u140.2.2.2.2, u140.1, u140.2.1, u140.2.2.2.1) (show (iz + 1) ≤ 3 by omega) (show 3 - (iz + 1) < 3 - iz by omega)
        · refine j_goto (pc := 68) C (tgt := 127) d_Model_today_68 (by decide) ?_
          refine j_iinc (pc := 127) C (v := nI (iz + 1)) (lv' := [(5, .int (nI (iz + 1))), (4, .int z97), (3, .int z98), (0, .ref mo), (1, .int v1), (2, .int 1)]) d_Model_today_127 0 rfl (nI_add _ _) (by decide) rfl ?_
          refine j_goto (pc := 130) C (tgt := 48) d_Model_today_130 (by decide) ?_
          refine j_sub (ws' := [(ma 43, .inl (y 0, 8, .inl g43)), (ma 45, .inl (y 0, 14, .inl g45)), (ma 46, .inl (y 0, 108, .inl g46)), (ma 47, .inl (y 0, 12, .inl g47)), (ma 48, .inl (y 0, 224, .inl g48)), (ma 50, .inl (y 0, 3200, .inl g50)), (ma 55, .inl (y 2, 16, .inl g55)), (ma 56, .inl (y 0, 16, .inl g56)), (ma 57, .inl (y 0, 16, .inl g57)), (ma 58, .inl (y 0, 16, .inl g58)), (ma 60, .inl (y 1, 1700, .inr (.inl z99))), (ma 63, .inl (y 0, 9, .inl z100)), MB mo ma (nI t1) i2 i3 i4 i5 i6 i7 i8 i42 i49 i51 i53 i54 i59 z101 z102 i66 (nI t67) i76 i78, (ma 62, .inl (y 0, 63, .inl u130)), (ma 68, .inl (y 0, 63, .inl u76))]) [11, 0, 12, 13, 1, 2, 3, 4, 5, 6, 7, 8, 10, 14, 9] rfl (by decide) ?_
          exact ih125 ((iz + 1), z97, z98, z99, z100, z101, z102, u130) (show (iz + 1) ≤ 3 by omega) (show 3 - (iz + 1) < 3 - iz by omega)
theorem d_Model_steal_0 : decode prog_13_method_111_code 0 = .ok (.aload_n 0, 1) := by decide +kernel
theorem d_Model_steal_1 : decode prog_13_method_111_code 1 = .ok (.iload_n 1, 1) := by decide +kernel
theorem d_Model_steal_2 : decode prog_13_method_111_code 2 = .ok (.invokevirtual 465, 3) := by decide +kernel
theorem d_Model_steal_5 : decode prog_13_method_111_code 5 = .ok (.ifCond .eq 14, 3) := by decide +kernel
theorem d_Model_steal_19 : decode prog_13_method_111_code 19 = .ok (.iconst (-1), 1) := by decide +kernel
theorem d_Model_steal_20 : decode prog_13_method_111_code 20 = .ok (.ireturn, 1) := by decide +kernel
theorem d_Model_steal_8 : decode prog_13_method_111_code 8 = .ok (.aload_n 0, 1) := by decide +kernel
theorem d_Model_steal_9 : decode prog_13_method_111_code 9 = .ok (.iload_n 1, 1) := by decide +kernel
theorem d_Model_steal_10 : decode prog_13_method_111_code 10 = .ok (.iconst 1, 1) := by decide +kernel
theorem d_Model_steal_11 : decode prog_13_method_111_code 11 = .ok (.bipush 20, 2) := by decide +kernel
theorem d_Model_steal_13 : decode prog_13_method_111_code 13 = .ok (.invokevirtual 424, 3) := by decide +kernel
theorem d_Model_steal_16 : decode prog_13_method_111_code 16 = .ok (.ifCond .ne 5, 3) := by decide +kernel
theorem d_Model_steal_21 : decode prog_13_method_111_code 21 = .ok (.aload_n 0, 1) := by decide +kernel
theorem d_Model_steal_22 : decode prog_13_method_111_code 22 = .ok (.iload_n 1, 1) := by decide +kernel
theorem d_Model_steal_23 : decode prog_13_method_111_code 23 = .ok (.iconst (-1), 1) := by decide +kernel
theorem d_Model_steal_24 : decode prog_13_method_111_code 24 = .ok (.invokevirtual 454, 3) := by decide +kernel
theorem d_Model_steal_27 : decode prog_13_method_111_code 27 = .ok (.aload_n 0, 1) := by decide +kernel
theorem d_Model_steal_28 : decode prog_13_method_111_code 28 = .ok (.iload_n 1, 1) := by decide +kernel
theorem d_Model_steal_29 : decode prog_13_method_111_code 29 = .ok (.invokevirtual 421, 3) := by decide +kernel
theorem d_Model_steal_32 : decode prog_13_method_111_code 32 = .ok (.ireturn, 1) := by decide +kernel
set_option maxHeartbeats 4000000 in
set_option maxRecDepth 100000 in
theorem c_M_steal (l : Launch) (D : va_G) (y : Nat → ClassId) (mo : Nat) (ma : Nat → Nat) (t1 : Nat) (i2 : Int32) (i3 : Int32) (i4 : Int32) (i5 : Int32) (i6 : Int32) (i7 : Int32) (i8 : Int32) (i42 : Int32) (i49 : Int32) (i51 : Int32) (i53 : Int32) (i54 : Int32) (i59 : Int32) (i61 : Int32) (i64 : Int32) (i66 : Int32) (t67 : Nat) (i76 : Int64) (i78 : Int32) (g43 : Nat → Int32) (g46 : Nat → Int32) (g62 : Nat → Int32) (v : Int32) (c0 : Nat) (dy : Nat) (hc0 : g43 4 = nI c0) (bc0 : c0 ≤ 9) (hG : ∀ j, j < 9 → g46 (54 + 6 * j + 5) = -1 ∨ ∃ q, q < 9 ∧ g46 (54 + 6 * j + 5) = nI q) (hD : g62 0 = nI dy) (bD : dy ≤ 999) : CT l D y ⟨"NineBoardsModel", "steal", "(I)I"⟩ prog_13_method_111_code 2 (some .int) ({ frames := 2, cells := 0, slots := 0, locals := 49 } : Room) [.ref mo, .int v] [MB mo ma (nI t1) i2 i3 i4 i5 i6 i7 i8 i42 i49 i51 i53 i54 i59 i61 i64 i66 (nI t67) i76 i78, (ma 43, .inl (y 0, 8, .inl g43)), (ma 46, .inl (y 0, 108, .inl g46)), (ma 62, .inl (y 0, 63, .inl g62))] (QI D [MB mo ma (nI t1) i2 i3 i4 i5 i6 i7 i8 i42 i49 i51 i53 i54 i59 i61 i64 i66 (nI t67) i76 i78, (ma 43, .inl (y 0, 8, .inl g43)), (ma 46, .inl (y 0, 108, .inl g46)), (ma 62, .inl (y 0, 63, .inl g62))] (fun (r : Int32) (u : (Nat → Int32)) => u 0 = nI dy) (fun u => [MB mo ma (nI t1) i2 i3 i4 i5 i6 i7 i8 i42 i49 i51 i53 i54 i59 i61 i64 i66 (nI t67) i76 i78, (ma 43, .inl (y 0, 8, .inl g43)), (ma 46, .inl (y 0, 108, .inl g46)), (ma 62, .inl (y 0, 63, .inl u))])) := by
  refine CT.of (by decide) (nb rfl) ?_
  intro p e s m args below meth c C hr
  refine j_lv (lv' := [(0, .ref mo), (1, .int v)]) rfl ?_
  refine j_aload_n (pc := 0) C d_Model_steal_0 rfl 0 rfl ?_
  refine j_iload_n (pc := 1) C d_Model_steal_1 rfl 1 rfl ?_
  refine j_callVi (pc := 2) C (c_M_isGate l D y mo ma t1 i2 i3 i4 i5 i6 i7 i8 i42 i49 i51 i53 i54 i59 i61 i64 i66 t67 i76 i78 g43 v c0 hc0 bc0) kw_Model_465 kv_Model_isGate 0 10 rfl rfl ⟨by decide, by decide⟩ ⟨by decide, by decide⟩ (wr := [(ma 46, .inl (y 0, 108, .inl g46)), (ma 62, .inl (y 0, 63, .inl g62))]) [0, 1] [2, 3] rfl rfl (by decide) (by decide) (by decide) (As := [.int v]) (rest := []) rfl (nb rfl) rfl d_Model_steal_2 (fun r1 _ hr1 => ?_)
  refine j_ws (ws' := [(ma 46, .inl (y 0, 108, .inl g46)), (ma 62, .inl (y 0, 63, .inl g62)), MB mo ma (nI t1) i2 i3 i4 i5 i6 i7 i8 i42 i49 i51 i53 i54 i59 i61 i64 i66 (nI t67) i76 i78, (ma 43, .inl (y 0, 8, .inl g43))]) rfl ?_
  rcases hr1 with rfl | ⟨rfl, j2, xh3, rfl⟩
  · refine j_if_eqT (pc := 5) C (tgt := 19) d_Model_steal_5 (by decide) (by decide) ?_
    refine j_iconst (pc := 19) C (v := (-1)) d_Model_steal_19 (by decide) ?_
    exact j_iret (pc := 20) C hr rfl g62 hD [2, 3, 0, 1] rfl (by decide) (by decide) (by decide) d_Model_steal_20
  · refine j_if_eqF (pc := 5) C (tgt := 19) d_Model_steal_5 (by decide) (by decide) ?_
    refine j_aload_n (pc := 8) C d_Model_steal_8 rfl 0 rfl ?_
    refine j_iload_n (pc := 9) C d_Model_steal_9 rfl 1 rfl ?_
    refine j_iconst (pc := 10) C (v := 1) d_Model_steal_10 (by decide) ?_
    refine j_bipush (pc := 11) C (v := 20) d_Model_steal_11 (by decide) ?_
    refine j_callVi (pc := 13) C (c_M_areBoards l D y mo ma t1 i2 i3 i4 i5 i6 i7 i8 i42 i49 i51 i53 i54 i59 i61 i64 i66 t67 i76 i78 g46 g62 j2 1 20 (by omega) (by omega)) kw_Model_424 kv_Model_areBoards 0 10 rfl rfl ⟨by decide, by decide⟩ ⟨by decide, by decide⟩ (wr := [(ma 43, .inl (y 0, 8, .inl g43))]) [2, 0, 1] [3] rfl rfl (by decide) (by decide) (by decide) (As := [.int (nI j2), .int 1, .int 20]) (rest := []) rfl (nb rfl) rfl d_Model_steal_13 (fun r4 _ hr4 => ?_)
    have xh5 := hr4
    refine j_ws (ws' := [(ma 43, .inl (y 0, 8, .inl g43)), MB mo ma (nI t1) i2 i3 i4 i5 i6 i7 i8 i42 i49 i51 i53 i54 i59 i61 i64 i66 (nI t67) i76 i78, (ma 46, .inl (y 0, 108, .inl g46)), (ma 62, .inl (y 0, 63, .inl g62))]) rfl ?_
    refine j_if_ne (pc := 16) C (tgt := 21) d_Model_steal_16 (by decide) (fun c6 => ?_) (fun c6 => ?_)
    · refine j_aload_n (pc := 21) C d_Model_steal_21 rfl 0 rfl ?_
      refine j_iload_n (pc := 22) C d_Model_steal_22 rfl 1 rfl ?_
      refine j_iconst (pc := 23) C (v := (-1)) d_Model_steal_23 (by decide) ?_
      refine j_callVv (pc := 24) C (c_M_alters l D y mo ma t1 i2 i3 i4 i5 i6 i7 i8 i42 i49 i51 i53 i54 i59 i61 i64 i66 t67 i76 i78 g46 g62 j2 (-1) dy (by omega) (by omega) hD) kw_Model_454 kv_Model_alters 0 10 rfl rfl ⟨by decide, by decide⟩ ⟨by decide, by decide⟩ (wr := [(ma 43, .inl (y 0, 8, .inl g43))]) [1, 2, 3] [0] rfl rfl (by decide) (by decide) (by decide) (As := [.int (nI j2), .int (-1)]) (rest := []) rfl (nb rfl) rfl d_Model_steal_24 (fun u7 hu8 => ?_)
      have xh9 := hu8
      refine j_ws (ws' := [(ma 43, .inl (y 0, 8, .inl g43)), MB mo ma (nI t1) i2 i3 i4 i5 i6 i7 i8 i42 i49 i51 i53 i54 i59 i61 i64 i66 (nI t67) i76 i78, (ma 46, .inl (y 0, 108, .inl g46)), (ma 62, .inl (y 0, 63, .inl u7))]) rfl ?_
      refine j_aload_n (pc := 27) C d_Model_steal_27 rfl 0 rfl ?_
      refine j_iload_n (pc := 28) C d_Model_steal_28 rfl 1 rfl ?_
      refine j_callVi (pc := 29) C (c_M_boards l D y mo ma t1 i2 i3 i4 i5 i6 i7 i8 i42 i49 i51 i53 i54 i59 i61 i64 i66 t67 i76 i78 u7 j2 (by omega)) kw_Model_421 kv_Model_boards 0 10 rfl rfl ⟨by decide, by decide⟩ ⟨by decide, by decide⟩ (wr := [(ma 43, .inl (y 0, 8, .inl g43)), (ma 46, .inl (y 0, 108, .inl g46))]) [1, 3] [0, 2] rfl rfl (by decide) (by decide) (by decide) (As := [.int (nI j2)]) (rest := []) rfl (nb rfl) rfl d_Model_steal_29 (fun r10 _ hr10 => ?_)
      refine j_ws (ws' := [(ma 43, .inl (y 0, 8, .inl g43)), (ma 46, .inl (y 0, 108, .inl g46)), MB mo ma (nI t1) i2 i3 i4 i5 i6 i7 i8 i42 i49 i51 i53 i54 i59 i61 i64 i66 (nI t67) i76 i78, (ma 62, .inl (y 0, 63, .inl u7))]) rfl ?_
      exact j_iret (pc := 32) C hr rfl u7 xh9 [2, 0, 1, 3] rfl (by decide) (by decide) (by decide) d_Model_steal_32
    · refine j_iconst (pc := 19) C (v := (-1)) d_Model_steal_19 (by decide) ?_
      exact j_iret (pc := 20) C hr rfl g62 hD [1, 0, 2, 3] rfl (by decide) (by decide) (by decide) d_Model_steal_20
theorem d_Model_areSeen_0 : decode prog_13_method_112_code 0 = .ok (.aload_n 0, 1) := by decide +kernel
theorem d_Model_areSeen_1 : decode prog_13_method_112_code 1 = .ok (.getfield 198, 3) := by decide +kernel
theorem gf_Model_198 : GF "NineBoardsModel" 198 10 1 := ⟨_, _, _, rfl, ci_Model, by decide, (mt_5 (List.mem_of_getElem? (i := 89) rfl) rfl)⟩
theorem d_Model_areSeen_4 : decode prog_13_method_112_code 4 = .ok (.istore_n 1, 1) := by decide +kernel
theorem d_Model_areSeen_5 : decode prog_13_method_112_code 5 = .ok (.aload_n 0, 1) := by decide +kernel
theorem d_Model_areSeen_6 : decode prog_13_method_112_code 6 = .ok (.iconst 0, 1) := by decide +kernel
theorem d_Model_areSeen_7 : decode prog_13_method_112_code 7 = .ok (.putfield 198, 3) := by decide +kernel
theorem pf_Model_198 : PF "NineBoardsModel" 198 10 1 (.int) false := ⟨_, _, _, ct_Model, rfl, ci_Model, by decide, (mt_5 (List.mem_of_getElem? (i := 89) rfl) rfl), cp_Model, cn_Model, rfl, by decide +kernel, (fun h => by cases h)⟩
theorem d_Model_areSeen_10 : decode prog_13_method_112_code 10 = .ok (.iload_n 1, 1) := by decide +kernel
theorem d_Model_areSeen_11 : decode prog_13_method_112_code 11 = .ok (.iconst 2, 1) := by decide +kernel
theorem d_Model_areSeen_12 : decode prog_13_method_112_code 12 = .ok (.aload_n 0, 1) := by decide +kernel
theorem d_Model_areSeen_13 : decode prog_13_method_112_code 13 = .ok (.invokevirtual 341, 3) := by decide +kernel
theorem d_Model_areSeen_16 : decode prog_13_method_112_code 16 = .ok (.imul, 1) := by decide +kernel
theorem d_Model_areSeen_17 : decode prog_13_method_112_code 17 = .ok (.if_icmp .ne 19, 3) := by decide +kernel
theorem d_Model_areSeen_36 : decode prog_13_method_112_code 36 = .ok (.iconst 0, 1) := by decide +kernel
theorem d_Model_areSeen_37 : decode prog_13_method_112_code 37 = .ok (.ireturn, 1) := by decide +kernel
theorem d_Model_areSeen_20 : decode prog_13_method_112_code 20 = .ok (.aload_n 0, 1) := by decide +kernel
theorem d_Model_areSeen_21 : decode prog_13_method_112_code 21 = .ok (.getfield 158, 3) := by decide +kernel
theorem d_Model_areSeen_24 : decode prog_13_method_112_code 24 = .ok (.iconst 0, 1) := by decide +kernel
theorem d_Model_areSeen_25 : decode prog_13_method_112_code 25 = .ok (.iaload, 1) := by decide +kernel
theorem d_Model_areSeen_26 : decode prog_13_method_112_code 26 = .ok (.sipush 999, 3) := by decide +kernel
theorem d_Model_areSeen_29 : decode prog_13_method_112_code 29 = .ok (.if_icmp .ge 7, 3) := by decide +kernel
theorem d_Model_areSeen_32 : decode prog_13_method_112_code 32 = .ok (.iconst 1, 1) := by decide +kernel
theorem d_Model_areSeen_33 : decode prog_13_method_112_code 33 = .ok (.goto 4, 3) := by decide +kernel
set_option maxHeartbeats 4000000 in
set_option maxRecDepth 100000 in
theorem c_M_areSeen (l : Launch) (D : va_G) (y : Nat → ClassId) (mo : Nat) (ma : Nat → Nat) (t1 : Nat) (i2 : Int32) (i3 : Int32) (i4 : Int32) (i5 : Int32) (i6 : Int32) (i7 : Int32) (i8 : Int32) (i42 : Int32) (i49 : Int32) (i51 : Int32) (i53 : Int32) (i54 : Int32) (i59 : Int32) (i61 : Int32) (i64 : Int32) (i66 : Int32) (t67 : Nat) (i76 : Int64) (i78 : Int32) (g43 : Nat → Int32) (g62 : Nat → Int32) (c0 : Nat) (dy : Nat) (hc0 : g43 4 = nI c0) (bc0 : c0 ≤ 9) (hD : g62 0 = nI dy) (bD : dy ≤ 999) (bt : t1 ≤ 1600) : CT l D y ⟨"NineBoardsModel", "areSeen", "()Z"⟩ prog_13_method_112_code 2 (some .boolean) ({ frames := 1, cells := 0, slots := 0, locals := 20 } : Room) [.ref mo] [MB mo ma (nI t1) i2 i3 i4 i5 i6 i7 i8 i42 i49 i51 i53 i54 i59 i61 i64 i66 (nI t67) i76 i78, (ma 43, .inl (y 0, 8, .inl g43)), (ma 62, .inl (y 0, 63, .inl g62))] (QI D [MB mo ma (nI t1) i2 i3 i4 i5 i6 i7 i8 i42 i49 i51 i53 i54 i59 i61 i64 i66 (nI t67) i76 i78, (ma 43, .inl (y 0, 8, .inl g43)), (ma 62, .inl (y 0, 63, .inl g62))] (fun (r : Int32) (u : Nat) => (r = 0 ∨ r = 1) ∧ u = 0) (fun u => [MB mo ma (nI u) i2 i3 i4 i5 i6 i7 i8 i42 i49 i51 i53 i54 i59 i61 i64 i66 (nI t67) i76 i78, (ma 43, .inl (y 0, 8, .inl g43)), (ma 62, .inl (y 0, 63, .inl g62))])) := by
  refine CT.of (by decide) (nb rfl) ?_
  intro p e s m args below meth c C hr
  refine j_lv (lv' := [(0, .ref mo)]) rfl ?_
  refine j_aload_n (pc := 0) C d_Model_areSeen_0 rfl 0 rfl ?_
  refine j_get (pc := 1) C gf_Model_198 0 rfl rfl d_Model_areSeen_1 ?_
  refine j_istore_n (pc := 4) C (lv' := [(1, .int (nI t1)), (0, .ref mo)]) d_Model_areSeen_4 rfl (by decide) rfl ?_
  refine j_aload_n (pc := 5) C d_Model_areSeen_5 rfl 1 rfl ?_
  refine j_iconst (pc := 6) C (v := 0) d_Model_areSeen_6 (by decide) ?_
  refine j_put (pc := 7) C pf_Model_198 0 (ws' := [MB mo ma 0 i2 i3 i4 i5 i6 i7 i8 i42 i49 i51 i53 i54 i59 i61 i64 i66 (nI t67) i76 i78, (ma 43, .inl (y 0, 8, .inl g43)), (ma 62, .inl (y 0, 63, .inl g62))]) rfl rfl rfl (nl rfl) rfl d_Model_areSeen_7 ?_
  refine j_iload_n (pc := 10) C d_Model_areSeen_10 rfl 0 rfl ?_
  refine j_iconst (pc := 11) C (v := 2) d_Model_areSeen_11 (by decide) ?_
  refine j_aload_n (pc := 12) C d_Model_areSeen_12 rfl 1 rfl ?_
  refine j_callVi (pc := 13) C (c_M_gateMany l D y mo ma 0 i2 i3 i4 i5 i6 i7 i8 i42 i49 i51 i53 i54 i59 i61 i64 i66 t67 i76 i78 g43 c0 hc0 bc0) kw_Model_341 kv_Model_gateMany 0 10 rfl rfl ⟨by decide, by decide⟩ ⟨by decide, by decide⟩ (wr := [(ma 62, .inl (y 0, 63, .inl g62))]) [0, 1] [2] rfl rfl (by decide) (by decide) (by decide) (As := []) (rest := [.int 2, .int (nI t1)]) rfl (nb rfl) rfl d_Model_areSeen_13 (fun r1 _ hr1 => ?_)
  obtain rfl := hr1
  refine j_ws (ws' := [(ma 62, .inl (y 0, 63, .inl g62)), MB mo ma (nI 0) i2 i3 i4 i5 i6 i7 i8 i42 i49 i51 i53 i54 i59 i61 i64 i66 (nI t67) i76 i78, (ma 43, .inl (y 0, 8, .inl g43))]) rfl ?_
  refine j_imul (pc := 16) C (v := nI (2 * c0)) d_Model_areSeen_16 (pk_mul _ _) ?_
  by_cases c2 : ¬ t1 = (2 * c0)
  · refine j_icmp_neT (pc := 17) C (tgt := 36) d_Model_areSeen_17 (by decide) (show ¬ nI t1 = nI (2 * c0) from fun e => absurd ((nI_eq (by omega) (by omega)).mp e) (by omega)) ?_
    refine j_iconst (pc := 36) C (v := 0) d_Model_areSeen_36 (by decide) ?_
    exact j_iret (pc := 37) C hr (by decide) 0 ⟨(by decide), rfl⟩ [1, 2, 0] rfl (by decide) (by decide) (by decide) d_Model_areSeen_37
  · refine j_icmp_neF (pc := 17) C (tgt := 36) d_Model_areSeen_17 (by decide) (show nI t1 = nI (2 * c0) from (nI_eq (by omega) (by omega)).mpr (by omega)) ?_
    refine j_aload_n (pc := 20) C d_Model_areSeen_20 rfl 1 rfl ?_
    refine j_get (pc := 21) C gf_Model_158 1 rfl rfl d_Model_areSeen_21 ?_
    refine j_iconst (pc := 24) C (v := 0) d_Model_areSeen_24 (by decide) ?_
    refine j_iald (pc := 25) C 0 rfl (v := nI dy) (vin (by decide)) (by exact hD) d_Model_areSeen_25 ?_
    refine j_sipush (pc := 26) C (v := 999) d_Model_areSeen_26 (by decide) ?_
    by_cases c3 : 999 ≤ dy
    · refine j_icmp_geT (pc := 29) C (tgt := 36) d_Model_areSeen_29 (by decide) (show nI 999 ≤ nI dy from nI_le (by omega) (by omega)) ?_
      refine j_iconst (pc := 36) C (v := 0) d_Model_areSeen_36 (by decide) ?_
      exact j_iret (pc := 37) C hr (by decide) 0 ⟨(by decide), rfl⟩ [1, 2, 0] rfl (by decide) (by decide) (by decide) d_Model_areSeen_37
    · refine j_icmp_geF (pc := 29) C (tgt := 36) d_Model_areSeen_29 (by decide) (show ¬ nI 999 ≤ nI dy from nI_ge (by omega) (by omega)) ?_
      refine j_iconst (pc := 32) C (v := 1) d_Model_areSeen_32 (by decide) ?_
      refine j_goto (pc := 33) C (tgt := 37) d_Model_areSeen_33 (by decide) ?_
      exact j_iret (pc := 37) C hr (by decide) 0 ⟨(by decide), rfl⟩ [1, 2, 0] rfl (by decide) (by decide) (by decide) d_Model_areSeen_37
theorem d_Model_seenAt_0 : decode prog_13_method_113_code 0 = .ok (.sipush 256, 3) := by decide +kernel
theorem d_Model_seenAt_3 : decode prog_13_method_113_code 3 = .ok (.aload_n 0, 1) := by decide +kernel
theorem d_Model_seenAt_4 : decode prog_13_method_113_code 4 = .ok (.getfield 7, 3) := by decide +kernel
theorem gf_Model_7 : GF "NineBoardsModel" 7 10 0 := ⟨_, _, _, rfl, ci_Model, by decide, (mt_5 (List.mem_of_getElem? (i := 88) rfl) rfl)⟩
theorem d_Model_seenAt_7 : decode prog_13_method_113_code 7 = .ok (.iconst 2, 1) := by decide +kernel
theorem d_Model_seenAt_8 : decode prog_13_method_113_code 8 = .ok (.iload_n 1, 1) := by decide +kernel
theorem d_Model_seenAt_9 : decode prog_13_method_113_code 9 = .ok (.imul, 1) := by decide +kernel
theorem d_Model_seenAt_10 : decode prog_13_method_113_code 10 = .ok (.iaload, 1) := by decide +kernel
theorem d_Model_seenAt_11 : decode prog_13_method_113_code 11 = .ok (.imul, 1) := by decide +kernel
theorem d_Model_seenAt_12 : decode prog_13_method_113_code 12 = .ok (.aload_n 0, 1) := by decide +kernel
theorem d_Model_seenAt_13 : decode prog_13_method_113_code 13 = .ok (.getfield 7, 3) := by decide +kernel
theorem d_Model_seenAt_16 : decode prog_13_method_113_code 16 = .ok (.iconst 2, 1) := by decide +kernel
theorem d_Model_seenAt_17 : decode prog_13_method_113_code 17 = .ok (.iload_n 1, 1) := by decide +kernel
theorem d_Model_seenAt_18 : decode prog_13_method_113_code 18 = .ok (.imul, 1) := by decide +kernel
theorem d_Model_seenAt_19 : decode prog_13_method_113_code 19 = .ok (.iconst 1, 1) := by decide +kernel
theorem d_Model_seenAt_20 : decode prog_13_method_113_code 20 = .ok (.iadd, 1) := by decide +kernel
theorem d_Model_seenAt_21 : decode prog_13_method_113_code 21 = .ok (.iaload, 1) := by decide +kernel
theorem d_Model_seenAt_22 : decode prog_13_method_113_code 22 = .ok (.iadd, 1) := by decide +kernel
theorem d_Model_seenAt_23 : decode prog_13_method_113_code 23 = .ok (.ireturn, 1) := by decide +kernel
set_option maxHeartbeats 4000000 in
set_option maxRecDepth 100000 in
theorem c_M_seenAt (l : Launch) (D : va_G) (y : Nat → ClassId) (mo : Nat) (ma : Nat → Nat) (t1 : Nat) (i2 : Int32) (i3 : Int32) (i4 : Int32) (i5 : Int32) (i6 : Int32) (i7 : Int32) (i8 : Int32) (i42 : Int32) (i49 : Int32) (i51 : Int32) (i53 : Int32) (i54 : Int32) (i59 : Int32) (i61 : Int32) (i64 : Int32) (i66 : Int32) (t67 : Nat) (i76 : Int64) (i78 : Int32) (g0 : Nat → Int32) (j : Nat) (hj : j < 9) : CT l D y ⟨"NineBoardsModel", "seenAt", "(I)I"⟩ prog_13_method_113_code 2 (some .int) ({ frames := 0, cells := 0, slots := 0, locals := 0 } : Room) [.ref mo, .int (nI j)] [MB mo ma (nI t1) i2 i3 i4 i5 i6 i7 i8 i42 i49 i51 i53 i54 i59 i61 i64 i66 (nI t67) i76 i78, (ma 0, .inl (y 0, 1600, .inl g0))] (QI D [MB mo ma (nI t1) i2 i3 i4 i5 i6 i7 i8 i42 i49 i51 i53 i54 i59 i61 i64 i66 (nI t67) i76 i78, (ma 0, .inl (y 0, 1600, .inl g0))] (fun (r : Int32) (u : Unit) => True) (fun _ => [MB mo ma (nI t1) i2 i3 i4 i5 i6 i7 i8 i42 i49 i51 i53 i54 i59 i61 i64 i66 (nI t67) i76 i78, (ma 0, .inl (y 0, 1600, .inl g0))])) := by
  refine CT.of (by decide) (nb rfl) ?_
  intro p e s m args below meth c C hr
  refine j_lv (lv' := [(0, .ref mo), (1, .int (nI j))]) rfl ?_
  refine j_sipush (pc := 0) C (v := 256) d_Model_seenAt_0 (by decide) ?_
  refine j_aload_n (pc := 3) C d_Model_seenAt_3 rfl 0 rfl ?_
  refine j_get (pc := 4) C gf_Model_7 0 rfl rfl d_Model_seenAt_4 ?_
  refine j_iconst (pc := 7) C (v := 2) d_Model_seenAt_7 (by decide) ?_
  refine j_iload_n (pc := 8) C d_Model_seenAt_8 rfl 1 rfl ?_
  refine j_imul (pc := 9) C (v := nI (2 * j)) d_Model_seenAt_9 (pk_mul _ _) ?_
  refine j_iald (pc := 10) C 1 rfl (v := g0 (2 * j)) (vp_in_nI (by omega) (by decide)) (by rw [nI_clamp (by omega)]) d_Model_seenAt_10 ?_
  refine j_imul (pc := 11) C (v := 256 * (g0 (2 * j))) d_Model_seenAt_11 rfl ?_
  refine j_aload_n (pc := 12) C d_Model_seenAt_12 rfl 0 rfl ?_
  refine j_get (pc := 13) C gf_Model_7 0 rfl rfl d_Model_seenAt_13 ?_
  refine j_iconst (pc := 16) C (v := 2) d_Model_seenAt_16 (by decide) ?_
  refine j_iload_n (pc := 17) C d_Model_seenAt_17 rfl 1 rfl ?_
  refine j_imul (pc := 18) C (v := nI (2 * j)) d_Model_seenAt_18 (pk_mul _ _) ?_
  refine j_iconst (pc := 19) C (v := 1) d_Model_seenAt_19 (by decide) ?_
  refine j_iadd (pc := 20) C (v := nI ((2 * j) + 1)) d_Model_seenAt_20 (nI_add _ _) ?_
  refine j_iald (pc := 21) C 1 rfl (v := g0 ((2 * j) + 1)) (vp_in_nI (by omega) (by decide)) (by rw [nI_clamp (by omega)]) d_Model_seenAt_21 ?_
  refine j_iadd (pc := 22) C (v := (256 * (g0 (2 * j))) + (g0 ((2 * j) + 1))) d_Model_seenAt_22 rfl ?_
  refine j_anyI (fun v1 => ?_)
  exact j_iret (pc := 23) C hr rfl () trivial [0, 1] rfl (by decide) (by decide) (by decide) d_Model_seenAt_23
theorem d_Model_isAsSeen_0 : decode prog_13_method_114_code 0 = .ok (.aload_n 0, 1) := by decide +kernel
theorem d_Model_isAsSeen_1 : decode prog_13_method_114_code 1 = .ok (.invokevirtual 434, 3) := by decide +kernel
theorem d_Model_isAsSeen_4 : decode prog_13_method_114_code 4 = .ok (.istore_n 1, 1) := by decide +kernel
theorem d_Model_isAsSeen_5 : decode prog_13_method_114_code 5 = .ok (.iconst 0, 1) := by decide +kernel
theorem d_Model_isAsSeen_6 : decode prog_13_method_114_code 6 = .ok (.istore_n 2, 1) := by decide +kernel
theorem d_Model_isAsSeen_7 : decode prog_13_method_114_code 7 = .ok (.iload_n 2, 1) := by decide +kernel
theorem d_Model_isAsSeen_8 : decode prog_13_method_114_code 8 = .ok (.aload_n 0, 1) := by decide +kernel
theorem d_Model_isAsSeen_9 : decode prog_13_method_114_code 9 = .ok (.invokevirtual 341, 3) := by decide +kernel
theorem d_Model_isAsSeen_12 : decode prog_13_method_114_code 12 = .ok (.if_icmp .ge 25, 3) := by decide +kernel
theorem d_Model_isAsSeen_37 : decode prog_13_method_114_code 37 = .ok (.iconst 1, 1) := by decide +kernel
theorem d_Model_isAsSeen_38 : decode prog_13_method_114_code 38 = .ok (.ireturn, 1) := by decide +kernel
theorem d_Model_isAsSeen_15 : decode prog_13_method_114_code 15 = .ok (.aload_n 0, 1) := by decide +kernel
theorem d_Model_isAsSeen_16 : decode prog_13_method_114_code 16 = .ok (.getfield 161, 3) := by decide +kernel
theorem d_Model_isAsSeen_19 : decode prog_13_method_114_code 19 = .ok (.iload_n 2, 1) := by decide +kernel
theorem d_Model_isAsSeen_20 : decode prog_13_method_114_code 20 = .ok (.iaload, 1) := by decide +kernel
theorem d_Model_isAsSeen_21 : decode prog_13_method_114_code 21 = .ok (.aload_n 0, 1) := by decide +kernel
theorem d_Model_isAsSeen_22 : decode prog_13_method_114_code 22 = .ok (.iload_n 2, 1) := by decide +kernel
theorem d_Model_isAsSeen_23 : decode prog_13_method_114_code 23 = .ok (.invokevirtual 558, 3) := by decide +kernel
theorem kw_Model_558 : KW "NineBoardsModel" 558 ⟨"NineBoardsModel", "seenAt", "(I)I"⟩ prog_13_method_113_code 2 (some .int) 1 := ⟨(mt_8 (List.mem_of_getElem? (i := 73) rfl) rfl), (mt_1 (List.mem_of_getElem? (i := 16) rfl) rfl), (mt_8 (List.mem_of_getElem? (i := 76) rfl) rfl), by decide +kernel⟩
theorem kv_Model_seenAt : Cond.instanceMethod ⟨"NineBoardsModel", "seenAt", "(I)I"⟩ ∈ TB ∧ Cond.selects "NineBoardsModel" ⟨"NineBoardsModel", "seenAt", "(I)I"⟩ ⟨"NineBoardsModel", "seenAt", "(I)I"⟩ ∈ TB := ⟨(mt_8 (List.mem_of_getElem? (i := 75) rfl) rfl), (ms_0 (List.mem_map.mpr ⟨(⟨"NineBoardsModel", "seenAt", "(I)I"⟩, 79), List.mem_of_getElem? (i := 130) (by decide +kernel), rfl⟩) rfl)⟩
theorem d_Model_isAsSeen_26 : decode prog_13_method_114_code 26 = .ok (.if_icmp .eq 5, 3) := by decide +kernel
theorem d_Model_isAsSeen_31 : decode prog_13_method_114_code 31 = .ok (.iinc 2 1, 3) := by decide +kernel
theorem d_Model_isAsSeen_34 : decode prog_13_method_114_code 34 = .ok (.goto (-27), 3) := by decide +kernel
theorem d_Model_isAsSeen_29 : decode prog_13_method_114_code 29 = .ok (.iconst 0, 1) := by decide +kernel
theorem d_Model_isAsSeen_30 : decode prog_13_method_114_code 30 = .ok (.ireturn, 1) := by decide +kernel
set_option maxHeartbeats 4000000 in
set_option maxRecDepth 100000 in
theorem c_M_isAsSeen (l : Launch) (D : va_G) (y : Nat → ClassId) (mo : Nat) (ma : Nat → Nat) (t1 : Nat) (i2 : Int32) (i3 : Int32) (i4 : Int32) (i5 : Int32) (i6 : Int32) (i7 : Int32) (i8 : Int32) (i42 : Int32) (i49 : Int32) (i51 : Int32) (i53 : Int32) (i54 : Int32) (i59 : Int32) (i61 : Int32) (i64 : Int32) (i66 : Int32) (t67 : Nat) (i76 : Int64) (i78 : Int32) (g0 : Nat → Int32) (g43 : Nat → Int32) (g45 : Nat → Int32) (g46 : Nat → Int32) (g62 : Nat → Int32) (g63 : Nat → Int32) (c0 : Nat) (hc0 : g43 4 = nI c0) (bc0 : c0 ≤ 9) (hL : ¬ g45 7 = 0) (hS : ∀ j, j < 9 → g46 (54 + 6 * j) = 2 → ¬ g46 (54 + 6 * j + 1) = 0) : CT l D y ⟨"NineBoardsModel", "isAsSeen", "()Z"⟩ prog_13_method_114_code 3 (some .boolean) ({ frames := 3, cells := 0, slots := 0, locals := 74 } : Room) [.ref mo] [MB mo ma (nI t1) i2 i3 i4 i5 i6 i7 i8 i42 i49 i51 i53 i54 i59 i61 i64 i66 (nI t67) i76 i78, (ma 0, .inl (y 0, 1600, .inl g0)), (ma 43, .inl (y 0, 8, .inl g43)), (ma 45, .inl (y 0, 14, .inl g45)), (ma 46, .inl (y 0, 108, .inl g46)), (ma 62, .inl (y 0, 63, .inl g62)), (ma 63, .inl (y 0, 9, .inl g63))] (QI D [MB mo ma (nI t1) i2 i3 i4 i5 i6 i7 i8 i42 i49 i51 i53 i54 i59 i61 i64 i66 (nI t67) i76 i78, (ma 0, .inl (y 0, 1600, .inl g0)), (ma 43, .inl (y 0, 8, .inl g43)), (ma 45, .inl (y 0, 14, .inl g45)), (ma 46, .inl (y 0, 108, .inl g46)), (ma 62, .inl (y 0, 63, .inl g62)), (ma 63, .inl (y 0, 9, .inl g63))] (fun (r : Int32) (u : (Nat → Int32)) => (r = 0 ∨ r = 1)) (fun u => [MB mo ma (nI t1) i2 i3 i4 i5 i6 i7 i8 i42 i49 i51 i53 i54 i59 i61 i64 i66 (nI t67) i76 i78, (ma 0, .inl (y 0, 1600, .inl g0)), (ma 43, .inl (y 0, 8, .inl g43)), (ma 45, .inl (y 0, 14, .inl g45)), (ma 46, .inl (y 0, 108, .inl g46)), (ma 62, .inl (y 0, 63, .inl g62)), (ma 63, .inl (y 0, 9, .inl u))])) := by
  refine CT.of (by decide) (nb rfl) ?_
  intro p e s m args below meth c C hr
  refine j_lv (lv' := [(0, .ref mo)]) rfl ?_
  refine j_aload_n (pc := 0) C d_Model_isAsSeen_0 rfl 0 rfl ?_
  refine j_callVi (pc := 1) C (c_M_flowsNow l D y mo ma t1 i2 i3 i4 i5 i6 i7 i8 i42 i49 i51 i53 i54 i59 i61 i64 i66 t67 i76 i78 g43 g45 g46 g62 g63 c0 hc0 bc0 hL hS) kw_Model_434 kv_Model_flowsNow 0 10 rfl rfl ⟨by decide, by decide⟩ ⟨by decide, by decide⟩ (wr := [(ma 0, .inl (y 0, 1600, .inl g0))]) [0, 2, 3, 4, 5, 6] [1] rfl rfl (by decide) (by decide) (by decide) (As := []) (rest := []) rfl (nb rfl) rfl d_Model_isAsSeen_1 (fun r1 u2 hr1 => ?_)
  refine j_ws (ws' := [(ma 0, .inl (y 0, 1600, .inl g0)), MB mo ma (nI t1) i2 i3 i4 i5 i6 i7 i8 i42 i49 i51 i53 i54 i59 i61 i64 i66 (nI t67) i76 i78, (ma 43, .inl (y 0, 8, .inl g43)), (ma 45, .inl (y 0, 14, .inl g45)), (ma 46, .inl (y 0, 108, .inl g46)), (ma 62, .inl (y 0, 63, .inl g62)), (ma 63, .inl (y 0, 9, .inl u2))]) rfl ?_
  refine j_istore_n (pc := 4) C (lv' := [(1, .int r1), (0, .ref mo)]) d_Model_isAsSeen_4 rfl (by decide) rfl ?_
  refine j_iconst (pc := 5) C (v := 0) d_Model_isAsSeen_5 (by decide) ?_
  refine j_istore_n (pc := 6) C (lv' := [(2, .int 0), (1, .int r1), (0, .ref mo)]) d_Model_isAsSeen_6 rfl (by decide) rfl ?_
  refine j_loop (α := Nat) (fun a => c0 - a) (fun a => (a ≤ c0)) (fun a => [(ma 0, .inl (y 0, 1600, .inl g0)), MB mo ma (nI t1) i2 i3 i4 i5 i6 i7 i8 i42 i49 i51 i53 i54 i59 i61 i64 i66 (nI t67) i76 i78, (ma 43, .inl (y 0, 8, .inl g43)), (ma 45, .inl (y 0, 14, .inl g45)), (ma 46, .inl (y 0, 108, .inl g46)), (ma 62, .inl (y 0, 63, .inl g62)), (ma 63, .inl (y 0, 9, .inl u2))]) (fun a => [(2, .int (nI a)), (1, .int r1), (0, .ref mo)]) (0) rfl rfl (show 0 ≤ c0 by omega) ?_
  rintro iz hP7 ih8
  have hi__ := hP7
  have hi_ : iz ≤ c0 := hi__
  refine j_ws (ws' := [(ma 0, .inl (y 0, 1600, .inl g0)), MB mo ma (nI t1) i2 i3 i4 i5 i6 i7 i8 i42 i49 i51 i53 i54 i59 i61 i64 i66 (nI t67) i76 i78, (ma 43, .inl (y 0, 8, .inl g43)), (ma 45, .inl (y 0, 14, .inl g45)), (ma 46, .inl (y 0, 108, .inl g46)), (ma 62, .inl (y 0, 63, .inl g62)), (ma 63, .inl (y 0, 9, .inl u2))]) rfl ?_
  refine j_lv (lv' := [(2, .int (nI iz)), (1, .int r1), (0, .ref mo)]) rfl ?_
  refine j_iload_n (pc := 7) C d_Model_isAsSeen_7 rfl 0 rfl ?_
  refine j_aload_n (pc := 8) C d_Model_isAsSeen_8 rfl 2 rfl ?_
  refine j_callVi (pc := 9) C (c_M_gateMany l D y mo ma t1 i2 i3 i4 i5 i6 i7 i8 i42 i49 i51 i53 i54 i59 i61 i64 i66 t67 i76 i78 g43 c0 hc0 bc0) kw_Model_341 kv_Model_gateMany 0 10 rfl rfl ⟨by decide, by decide⟩ ⟨by decide, by decide⟩ (wr := [(ma 0, .inl (y 0, 1600, .inl g0)), (ma 45, .inl (y 0, 14, .inl g45)), (ma 46, .inl (y 0, 108, .inl g46)), (ma 62, .inl (y 0, 63, .inl g62)), (ma 63, .inl (y 0, 9, .inl u2))]) [1, 2] [0, 3, 4, 5, 6] rfl rfl (by decide) (by decide) (by decide) (As := []) (rest := [.int (nI iz)]) rfl (nb rfl) rfl d_Model_isAsSeen_9 (fun r9 _ hr9 => ?_)
  obtain rfl := hr9
  refine j_ws (ws' := [(ma 0, .inl (y 0, 1600, .inl g0)), (ma 45, .inl (y 0, 14, .inl g45)), (ma 46, .inl (y 0, 108, .inl g46)), (ma 62, .inl (y 0, 63, .inl g62)), (ma 63, .inl (y 0, 9, .inl u2)), MB mo ma (nI t1) i2 i3 i4 i5 i6 i7 i8 i42 i49 i51 i53 i54 i59 i61 i64 i66 (nI t67) i76 i78, (ma 43, .inl (y 0, 8, .inl g43))]) rfl ?_
  by_cases c10 : c0 ≤ iz
  · refine j_icmp_geT (pc := 12) C (tgt := 37) d_Model_isAsSeen_12 (by decide) (show nI c0 ≤ nI iz from nI_le (by omega) (by omega)) ?_
    refine j_iconst (pc := 37) C (v := 1) d_Model_isAsSeen_37 (by decide) ?_
    exact j_iret (pc := 38) C hr (by decide) u2 (by decide) [5, 0, 6, 1, 2, 3, 4] rfl (by decide) (by decide) (by decide) d_Model_isAsSeen_38
  · refine j_icmp_geF (pc := 12) C (tgt := 37) d_Model_isAsSeen_12 (by decide) (show ¬ nI c0 ≤ nI iz from nI_ge (by omega) (by omega)) ?_
    refine j_aload_n (pc := 15) C d_Model_isAsSeen_15 rfl 2 rfl ?_
    refine j_get (pc := 16) C gf_Model_161 5 rfl rfl d_Model_isAsSeen_16 ?_
    refine j_iload_n (pc := 19) C d_Model_isAsSeen_19 rfl 0 rfl ?_
    refine j_iald (pc := 20) C 4 rfl (v := u2 iz) (vp_in_nI (by omega) (by decide)) (by rw [nI_clamp (by omega)]) d_Model_isAsSeen_20 ?_
    refine j_aload_n (pc := 21) C d_Model_isAsSeen_21 rfl 2 rfl ?_
    refine j_iload_n (pc := 22) C d_Model_isAsSeen_22 rfl 0 rfl ?_
    refine j_callVi (pc := 23) C (c_M_seenAt l D y mo ma t1 i2 i3 i4 i5 i6 i7 i8 i42 i49 i51 i53 i54 i59 i61 i64 i66 t67 i76 i78 g0 iz (by omega)) kw_Model_558 kv_Model_seenAt 0 10 rfl rfl ⟨by decide, by decide⟩ ⟨by decide, by decide⟩ (wr := [(ma 45, .inl (y 0, 14, .inl g45)), (ma 46, .inl (y 0, 108, .inl g46)), (ma 62, .inl (y 0, 63, .inl g62)), (ma 63, .inl (y 0, 9, .inl u2)), (ma 43, .inl (y 0, 8, .inl g43))]) [5, 0] [1, 2, 3, 4, 6] rfl rfl (by decide) (by decide) (by decide) (As := [.int (nI iz)]) (rest := [.int (u2 iz)]) rfl (nb rfl) rfl d_Model_isAsSeen_23 (fun r11 _ hr11 => ?_)
    refine j_ws (ws' := [(ma 45, .inl (y 0, 14, .inl g45)), (ma 46, .inl (y 0, 108, .inl g46)), (ma 62, .inl (y 0, 63, .inl g62)), (ma 63, .inl (y 0, 9, .inl u2)), (ma 43, .inl (y 0, 8, .inl g43)), MB mo ma (nI t1) i2 i3 i4 i5 i6 i7 i8 i42 i49 i51 i53 i54 i59 i61 i64 i66 (nI t67) i76 i78, (ma 0, .inl (y 0, 1600, .inl g0))]) rfl ?_
    refine j_icmp_eq (pc := 26) C (tgt := 31) d_Model_isAsSeen_26 (by decide) (fun c12 => ?_) (fun c12 => ?_)
    · refine j_iinc (pc := 31) C (v := nI (iz + 1)) (lv' := [(2, .int (nI (iz + 1))), (1, .int r1), (0, .ref mo)]) d_Model_isAsSeen_31 0 rfl (nI_add _ _) (by decide) rfl ?_
      refine j_goto (pc := 34) C (tgt := 7) d_Model_isAsSeen_34 (by decide) ?_
      refine j_sub (ws' := [(ma 0, .inl (y 0, 1600, .inl g0)), MB mo ma (nI t1) i2 i3 i4 i5 i6 i7 i8 i42 i49 i51 i53 i54 i59 i61 i64 i66 (nI t67) i76 i78, (ma 43, .inl (y 0, 8, .inl g43)), (ma 45, .inl (y 0, 14, .inl g45)), (ma 46, .inl (y 0, 108, .inl g46)), (ma 62, .inl (y 0, 63, .inl g62)), (ma 63, .inl (y 0, 9, .inl u2))]) [6, 5, 4, 0, 1, 2, 3] rfl (by decide) ?_
      exact ih8 ((iz + 1)) (show (iz + 1) ≤ c0 by omega) (show c0 - (iz + 1) < c0 - iz by omega)
    · refine j_iconst (pc := 29) C (v := 0) d_Model_isAsSeen_29 (by decide) ?_
      exact j_iret (pc := 30) C hr (by decide) u2 (by decide) [5, 6, 4, 0, 1, 2, 3] rfl (by decide) (by decide) (by decide) d_Model_isAsSeen_30
theorem d_Model_thief_0 : decode prog_13_method_115_code 0 = .ok (.aload_n 0, 1) := by decide +kernel
theorem d_Model_thief_1 : decode prog_13_method_115_code 1 = .ok (.invokevirtual 561, 3) := by decide +kernel
theorem kw_Model_561 : KW "NineBoardsModel" 561 ⟨"NineBoardsModel", "areSeen", "()Z"⟩ prog_13_method_112_code 2 (some .boolean) 0 := ⟨(mt_8 (List.mem_of_getElem? (i := 65) rfl) rfl), (mt_1 (List.mem_of_getElem? (i := 16) rfl) rfl), (mt_8 (List.mem_of_getElem? (i := 68) rfl) rfl), by decide +kernel⟩
theorem kv_Model_areSeen : Cond.instanceMethod ⟨"NineBoardsModel", "areSeen", "()Z"⟩ ∈ TB ∧ Cond.selects "NineBoardsModel" ⟨"NineBoardsModel", "areSeen", "()Z"⟩ ⟨"NineBoardsModel", "areSeen", "()Z"⟩ ∈ TB := ⟨(mt_8 (List.mem_of_getElem? (i := 67) rfl) rfl), (ms_0 (List.mem_map.mpr ⟨(⟨"NineBoardsModel", "areSeen", "()Z"⟩, 79), List.mem_of_getElem? (i := 128) (by decide +kernel), rfl⟩) rfl)⟩
theorem d_Model_thief_4 : decode prog_13_method_115_code 4 = .ok (.ifCond .ne 5, 3) := by decide +kernel
theorem d_Model_thief_9 : decode prog_13_method_115_code 9 = .ok (.aload_n 0, 1) := by decide +kernel
theorem d_Model_thief_10 : decode prog_13_method_115_code 10 = .ok (.invokevirtual 564, 3) := by decide +kernel
theorem kw_Model_564 : KW "NineBoardsModel" 564 ⟨"NineBoardsModel", "isAsSeen", "()Z"⟩ prog_13_method_114_code 3 (some .boolean) 0 := ⟨(mt_8 (List.mem_of_getElem? (i := 69) rfl) rfl), (mt_1 (List.mem_of_getElem? (i := 16) rfl) rfl), (mt_8 (List.mem_of_getElem? (i := 72) rfl) rfl), by decide +kernel⟩
theorem kv_Model_isAsSeen : Cond.instanceMethod ⟨"NineBoardsModel", "isAsSeen", "()Z"⟩ ∈ TB ∧ Cond.selects "NineBoardsModel" ⟨"NineBoardsModel", "isAsSeen", "()Z"⟩ ⟨"NineBoardsModel", "isAsSeen", "()Z"⟩ ∈ TB := ⟨(mt_8 (List.mem_of_getElem? (i := 71) rfl) rfl), (ms_0 (List.mem_map.mpr ⟨(⟨"NineBoardsModel", "isAsSeen", "()Z"⟩, 79), List.mem_of_getElem? (i := 129) (by decide +kernel), rfl⟩) rfl)⟩
theorem d_Model_thief_13 : decode prog_13_method_115_code 13 = .ok (.ifCond .eq 9, 3) := by decide +kernel
theorem d_Model_thief_22 : decode prog_13_method_115_code 22 = .ok (.iconst 0, 1) := by decide +kernel
theorem d_Model_thief_23 : decode prog_13_method_115_code 23 = .ok (.istore_n 1, 1) := by decide +kernel
theorem d_Model_thief_24 : decode prog_13_method_115_code 24 = .ok (.iconst 0, 1) := by decide +kernel
theorem d_Model_thief_25 : decode prog_13_method_115_code 25 = .ok (.istore_n 2, 1) := by decide +kernel
theorem d_Model_thief_26 : decode prog_13_method_115_code 26 = .ok (.iload_n 2, 1) := by decide +kernel
theorem d_Model_thief_27 : decode prog_13_method_115_code 27 = .ok (.aload_n 0, 1) := by decide +kernel
theorem d_Model_thief_28 : decode prog_13_method_115_code 28 = .ok (.invokevirtual 341, 3) := by decide +kernel
theorem d_Model_thief_31 : decode prog_13_method_115_code 31 = .ok (.if_icmp .ge 48, 3) := by decide +kernel
theorem d_Model_thief_79 : decode prog_13_method_115_code 79 = .ok (.iload_n 1, 1) := by decide +kernel
theorem d_Model_thief_80 : decode prog_13_method_115_code 80 = .ok (.ireturn, 1) := by decide +kernel
theorem d_Model_thief_34 : decode prog_13_method_115_code 34 = .ok (.aload_n 0, 1) := by decide +kernel
theorem d_Model_thief_35 : decode prog_13_method_115_code 35 = .ok (.iload_n 2, 1) := by decide +kernel
theorem d_Model_thief_36 : decode prog_13_method_115_code 36 = .ok (.iconst 1, 1) := by decide +kernel
theorem d_Model_thief_37 : decode prog_13_method_115_code 37 = .ok (.bipush 20, 2) := by decide +kernel
theorem d_Model_thief_39 : decode prog_13_method_115_code 39 = .ok (.invokevirtual 424, 3) := by decide +kernel
theorem d_Model_thief_42 : decode prog_13_method_115_code 42 = .ok (.ifCond .ne 6, 3) := by decide +kernel
theorem d_Model_thief_48 : decode prog_13_method_115_code 48 = .ok (.aload_n 0, 1) := by decide +kernel
theorem d_Model_thief_49 : decode prog_13_method_115_code 49 = .ok (.iload_n 2, 1) := by decide +kernel
theorem d_Model_thief_50 : decode prog_13_method_115_code 50 = .ok (.iconst (-1), 1) := by decide +kernel
theorem d_Model_thief_51 : decode prog_13_method_115_code 51 = .ok (.invokevirtual 454, 3) := by decide +kernel
theorem d_Model_thief_54 : decode prog_13_method_115_code 54 = .ok (.aload_n 0, 1) := by decide +kernel
theorem d_Model_thief_55 : decode prog_13_method_115_code 55 = .ok (.invokevirtual 564, 3) := by decide +kernel
theorem d_Model_thief_58 : decode prog_13_method_115_code 58 = .ok (.ifCond .eq 9, 3) := by decide +kernel
theorem d_Model_thief_67 : decode prog_13_method_115_code 67 = .ok (.aload_n 0, 1) := by decide +kernel
theorem d_Model_thief_68 : decode prog_13_method_115_code 68 = .ok (.iload_n 2, 1) := by decide +kernel
theorem d_Model_thief_69 : decode prog_13_method_115_code 69 = .ok (.iconst 1, 1) := by decide +kernel
theorem d_Model_thief_70 : decode prog_13_method_115_code 70 = .ok (.invokevirtual 454, 3) := by decide +kernel
theorem d_Model_thief_73 : decode prog_13_method_115_code 73 = .ok (.iinc 2 1, 3) := by decide +kernel
theorem d_Model_thief_76 : decode prog_13_method_115_code 76 = .ok (.goto (-50), 3) := by decide +kernel
theorem d_Model_thief_61 : decode prog_13_method_115_code 61 = .ok (.iload_n 1, 1) := by decide +kernel
theorem d_Model_thief_62 : decode prog_13_method_115_code 62 = .ok (.iconst 1, 1) := by decide +kernel
theorem d_Model_thief_63 : decode prog_13_method_115_code 63 = .ok (.iload_n 2, 1) := by decide +kernel
theorem d_Model_thief_64 : decode prog_13_method_115_code 64 = .ok (.ishl, 1) := by decide +kernel
theorem d_Model_thief_65 : decode prog_13_method_115_code 65 = .ok (.ior, 1) := by decide +kernel
theorem d_Model_thief_66 : decode prog_13_method_115_code 66 = .ok (.istore_n 1, 1) := by decide +kernel
theorem d_Model_thief_45 : decode prog_13_method_115_code 45 = .ok (.goto 28, 3) := by decide +kernel
theorem d_Model_thief_16 : decode prog_13_method_115_code 16 = .ok (.sipush 512, 3) := by decide +kernel
theorem d_Model_thief_19 : decode prog_13_method_115_code 19 = .ok (.goto 4, 3) := by decide +kernel
theorem d_Model_thief_7 : decode prog_13_method_115_code 7 = .ok (.iconst (-1), 1) := by decide +kernel
theorem d_Model_thief_8 : decode prog_13_method_115_code 8 = .ok (.ireturn, 1) := by decide +kernel
set_option maxHeartbeats 4000000 in
set_option maxRecDepth 100000 in
theorem c_M_thief (l : Launch) (D : va_G) (y : Nat → ClassId) (mo : Nat) (ma : Nat → Nat) (t1 : Nat) (i2 : Int32) (i3 : Int32) (i4 : Int32) (i5 : Int32) (i6 : Int32) (i7 : Int32) (i8 : Int32) (i42 : Int32) (i49 : Int32) (i51 : Int32) (i53 : Int32) (i54 : Int32) (i59 : Int32) (i61 : Int32) (i64 : Int32) (i66 : Int32) (t67 : Nat) (i76 : Int64) (i78 : Int32) (g0 : Nat → Int32) (g43 : Nat → Int32) (g45 : Nat → Int32) (g46 : Nat → Int32) (g62 : Nat → Int32) (g63 : Nat → Int32) (c0 : Nat) (dy : Nat) (hc0 : g43 4 = nI c0) (bc0 : c0 ≤ 9) (hL : ¬ g45 7 = 0) (hS : ∀ j, j < 9 → g46 (54 + 6 * j) = 2 → ¬ g46 (54 + 6 * j + 1) = 0) (hG : ∀ j, j < 9 → g46 (54 + 6 * j + 5) = -1 ∨ ∃ q, q < 9 ∧ g46 (54 + 6 * j + 5) = nI q) (hD : g62 0 = nI dy) (bD : dy ≤ 999) (bt : t1 ≤ 1600) : CT l D y ⟨"NineBoardsModel", "thief", "()I"⟩ prog_13_method_115_code 3 (some .int) ({ frames := 4, cells := 0, slots := 0, locals := 96 } : Room) [.ref mo] [MB mo ma (nI t1) i2 i3 i4 i5 i6 i7 i8 i42 i49 i51 i53 i54 i59 i61 i64 i66 (nI t67) i76 i78, (ma 0, .inl (y 0, 1600, .inl g0)), (ma 43, .inl (y 0, 8, .inl g43)), (ma 45, .inl (y 0, 14, .inl g45)), (ma 46, .inl (y 0, 108, .inl g46)), (ma 62, .inl (y 0, 63, .inl g62)), (ma 63, .inl (y 0, 9, .inl g63))] (QI D [MB mo ma (nI t1) i2 i3 i4 i5 i6 i7 i8 i42 i49 i51 i53 i54 i59 i61 i64 i66 (nI t67) i76 i78, (ma 0, .inl (y 0, 1600, .inl g0)), (ma 43, .inl (y 0, 8, .inl g43)), (ma 45, .inl (y 0, 14, .inl g45)), (ma 46, .inl (y 0, 108, .inl g46)), (ma 62, .inl (y 0, 63, .inl g62)), (ma 63, .inl (y 0, 9, .inl g63))] (fun (r : Int32) (u : Nat × (Nat → Int32) × (Nat → Int32)) => u.2.1 0 = nI dy ∧ u.1 ≤ 1600 ∧ u.1 = 0) (fun u => [MB mo ma (nI u.1) i2 i3 i4 i5 i6 i7 i8 i42 i49 i51 i53 i54 i59 i61 i64 i66 (nI t67) i76 i78, (ma 0, .inl (y 0, 1600, .inl g0)), (ma 43, .inl (y 0, 8, .inl g43)), (ma 45, .inl (y 0, 14, .inl g45)), (ma 46, .inl (y 0, 108, .inl g46)), (ma 62, .inl (y 0, 63, .inl u.2.1)), (ma 63, .inl (y 0, 9, .inl u.2.2))])) := by
  refine CT.of (by decide) (nb rfl) ?_
  intro p e s m args below meth c C hr
  refine j_lv (lv' := [(0, .ref mo)]) rfl ?_
  refine j_aload_n (pc := 0) C d_Model_thief_0 rfl 0 rfl ?_
  refine j_callVi (pc := 1) C (c_M_areSeen l D y mo ma t1 i2 i3 i4 i5 i6 i7 i8 i42 i49 i51 i53 i54 i59 i61 i64 i66 t67 i76 i78 g43 g62 c0 dy hc0 bc0 hD bD bt) kw_Model_561 kv_Model_areSeen 0 10 rfl rfl ⟨by decide, by decide⟩ ⟨by decide, by decide⟩ (wr := [(ma 0, .inl (y 0, 1600, .inl g0)), (ma 45, .inl (y 0, 14, .inl g45)), (ma 46, .inl (y 0, 108, .inl g46)), (ma 63, .inl (y 0, 9, .inl g63))]) [0, 2, 5] [1, 3, 4, 6] rfl rfl (by decide) (by decide) (by decide) (As := []) (rest := []) rfl (nb rfl) rfl d_Model_thief_1 (fun r1 u2 hr1 => ?_)
  obtain ⟨xh3, xh4⟩ := hr1
  refine j_ws (ws' := [(ma 0, .inl (y 0, 1600, .inl g0)), (ma 45, .inl (y 0, 14, .inl g45)), (ma 46, .inl (y 0, 108, .inl g46)), (ma 63, .inl (y 0, 9, .inl g63)), MB mo ma (nI u2) i2 i3 i4 i5 i6 i7 i8 i42 i49 i51 i53 i54 i59 i61 i64 i66 (nI t67) i76 i78, (ma 43, .inl (y 0, 8, .inl g43)), (ma 62, .inl (y 0, 63, .inl g62))]) rfl ?_
  refine j_if_ne (pc := 4) C (tgt := 9) d_Model_thief_4 (by decide) (fun c5 => ?_) (fun c5 => ?_)
  · refine j_aload_n (pc := 9) C d_Model_thief_9 rfl 0 rfl ?_
    refine j_callVi (pc := 10) C (c_M_isAsSeen l D y mo ma u2 i2 i3 i4 i5 i6 i7 i8 i42 i49 i51 i53 i54 i59 i61 i64 i66 t67 i76 i78 g0 g43 g45 g46 g62 g63 c0 hc0 bc0 hL hS) kw_Model_564 kv_Model_isAsSeen 0 10 rfl rfl ⟨by decide, by decide⟩ ⟨by decide, by decide⟩ (wr := []) [4, 0, 5, 1, 2, 6, 3] [] rfl rfl (by decide) (by decide) (by decide) (As := []) (rest := []) rfl (nb rfl) rfl d_Model_thief_10 (fun r6 u7 hr6 => ?_)
    have xh8 := hr6
    refine j_ws (ws' := [MB mo ma (nI u2) i2 i3 i4 i5 i6 i7 i8 i42 i49 i51 i53 i54 i59 i61 i64 i66 (nI t67) i76 i78, (ma 0, .inl (y 0, 1600, .inl g0)), (ma 43, .inl (y 0, 8, .inl g43)), (ma 45, .inl (y 0, 14, .inl g45)), (ma 46, .inl (y 0, 108, .inl g46)), (ma 62, .inl (y 0, 63, .inl g62)), (ma 63, .inl (y 0, 9, .inl u7))]) rfl ?_
    refine j_if_eq (pc := 13) C (tgt := 22) d_Model_thief_13 (by decide) (fun c9 => ?_) (fun c9 => ?_)
    · refine j_iconst (pc := 22) C (v := 0) d_Model_thief_22 (by decide) ?_
      refine j_istore_n (pc := 23) C (lv' := [(1, .int 0), (0, .ref mo)]) d_Model_thief_23 rfl (by decide) rfl ?_
      refine j_iconst (pc := 24) C (v := 0) d_Model_thief_24 (by decide) ?_
      refine j_istore_n (pc := 25) C (lv' := [(2, .int 0), (1, .int 0), (0, .ref mo)]) d_Model_thief_25 rfl (by decide) rfl ?_
      refine j_loop (α := Nat × (Nat → Int32) × (Nat → Int32) × Int32) (fun a => c0 - a.1) (fun a => (a.1 ≤ c0) ∧ (a.2.1 0 = nI dy)) (fun a => [MB mo ma (nI u2) i2 i3 i4 i5 i6 i7 i8 i42 i49 i51 i53 i54 i59 i61 i64 i66 (nI t67) i76 i78, (ma 0, .inl (y 0, 1600, .inl g0)), (ma 43, .inl (y 0, 8, .inl g43)), (ma 45, .inl (y 0, 14, .inl g45)), (ma 46, .inl (y 0, 108, .inl g46)), (ma 62, .inl (y 0, 63, .inl a.2.1)), (ma 63, .inl (y 0, 9, .inl a.2.2.1))]) (fun a => [(2, .int (nI a.1)), (1, .int a.2.2.2), (0, .ref mo)]) (0, g62, u7, 0) rfl rfl ⟨(show 0 ≤ c0 by omega), hD⟩ ?_
      rintro ⟨iz, nz, z29, z30⟩ hP50 ih51
      obtain ⟨hi__, hn__⟩ := hP50
      have hi_ : iz ≤ c0 := hi__
      have hn_ : nz 0 = nI dy := hn__
      refine j_ws (ws' := [MB mo ma (nI u2) i2 i3 i4 i5 i6 i7 i8 i42 i49 i51 i53 i54 i59 i61 i64 i66 (nI t67) i76 i78, (ma 0, .inl (y 0, 1600, .inl g0)), (ma 43, .inl (y 0, 8, .inl g43)), (ma 45, .inl (y 0, 14, .inl g45)), (ma 46, .inl (y 0, 108, .inl g46)), (ma 62, .inl (y 0, 63, .inl nz)), (ma 63, .inl (y 0, 9, .inl z29))]) rfl ?_
      refine j_lv (lv' := [(2, .int (nI iz)), (1, .int z30), (0, .ref mo)]) rfl ?_
      refine j_iload_n (pc := 26) C d_Model_thief_26 rfl 0 rfl ?_
      refine j_aload_n (pc := 27) C d_Model_thief_27 rfl 2 rfl ?_
      refine j_callVi (pc := 28) C (c_M_gateMany l D y mo ma u2 i2 i3 i4 i5 i6 i7 i8 i42 i49 i51 i53 i54 i59 i61 i64 i66 t67 i76 i78 g43 c0 hc0 bc0) kw_Model_341 kv_Model_gateMany 0 10 rfl rfl ⟨by decide, by decide⟩ ⟨by decide, by decide⟩ (wr := [(ma 0, .inl (y 0, 1600, .inl g0)), (ma 45, .inl (y 0, 14, .inl g45)), (ma 46, .inl (y 0, 108, .inl g46)), (ma 62, .inl (y 0, 63, .inl nz)), (ma 63, .inl (y 0, 9, .inl z29))]) [0, 2] [1, 3, 4, 5, 6] rfl rfl (by decide) (by decide) (by decide) (As := []) (rest := [.int (nI iz)]) rfl (nb rfl) rfl d_Model_thief_28 (fun r52 _ hr52 => ?_)
      obtain rfl := hr52
      refine j_ws (ws' := [(ma 0, .inl (y 0, 1600, .inl g0)), (ma 45, .inl (y 0, 14, .inl g45)), (ma 46, .inl (y 0, 108, .inl g46)), (ma 62, .inl (y 0, 63, .inl nz)), (ma 63, .inl (y 0, 9, .inl z29)), MB mo ma (nI u2) i2 i3 i4 i5 i6 i7 i8 i42 i49 i51 i53 i54 i59 i61 i64 i66 (nI t67) i76 i78, (ma 43, .inl (y 0, 8, .inl g43))]) rfl ?_
      by_cases c53 : c0 ≤ iz
      · refine j_icmp_geT (pc := 31) C (tgt := 79) d_Model_thief_31 (by decide) (show nI c0 ≤ nI iz from nI_le (by omega) (by omega)) ?_
        refine j_iload_n (pc := 79) C d_Model_thief_79 rfl 1 rfl ?_
        exact j_iret (pc := 80) C hr rfl (u2, nz, z29) ⟨hn_, (by omega), (by omega)⟩ [5, 0, 6, 1, 2, 3, 4] rfl (by decide) (by decide) (by decide) d_Model_thief_80
      · refine j_icmp_geF (pc := 31) C (tgt := 79) d_Model_thief_31 (by decide) (show ¬ nI c0 ≤ nI iz from nI_ge (by omega) (by omega)) ?_
        refine j_aload_n (pc := 34) C d_Model_thief_34 rfl 2 rfl ?_
        refine j_iload_n (pc := 35) C d_Model_thief_35 rfl 0 rfl ?_
        refine j_iconst (pc := 36) C (v := 1) d_Model_thief_36 (by decide) ?_
        refine j_bipush (pc := 37) C (v := 20) d_Model_thief_37 (by decide) ?_
        refine j_callVi (pc := 39) C (c_M_areBoards l D y mo ma u2 i2 i3 i4 i5 i6 i7 i8 i42 i49 i51 i53 i54 i59 i61 i64 i66 t67 i76 i78 g46 nz iz 1 20 (by omega) (by omega)) kw_Model_424 kv_Model_areBoards 0 10 rfl rfl ⟨by decide, by decide⟩ ⟨by decide, by decide⟩ (wr := [(ma 0, .inl (y 0, 1600, .inl g0)), (ma 45, .inl (y 0, 14, .inl g45)), (ma 63, .inl (y 0, 9, .inl z29)), (ma 43, .inl (y 0, 8, .inl g43))]) [5, 2, 3] [0, 1, 4, 6] rfl rfl (by decide) (by decide) (by decide) (As := [.int (nI iz), .int 1, .int 20]) (rest := []) rfl (nb rfl) rfl d_Model_thief_39 (fun r54 _ hr54 => ?_)
        have xh55 := hr54
        refine j_ws (ws' := [(ma 0, .inl (y 0, 1600, .inl g0)), (ma 45, .inl (y 0, 14, .inl g45)), (ma 63, .inl (y 0, 9, .inl z29)), (ma 43, .inl (y 0, 8, .inl g43)), MB mo ma (nI u2) i2 i3 i4 i5 i6 i7 i8 i42 i49 i51 i53 i54 i59 i61 i64 i66 (nI t67) i76 i78, (ma 46, .inl (y 0, 108, .inl g46)), (ma 62, .inl (y 0, 63, .inl nz))]) rfl ?_
        refine j_if_ne (pc := 42) C (tgt := 48) d_Model_thief_42 (by decide) (fun c56 => ?_) (fun c56 => ?_)
        · refine j_aload_n (pc := 48) C d_Model_thief_48 rfl 2 rfl ?_
          refine j_iload_n (pc := 49) C d_Model_thief_49 rfl 0 rfl ?_
          refine j_iconst (pc := 50) C (v := (-1)) d_Model_thief_50 (by decide) ?_
          refine j_callVv (pc := 51) C (c_M_alters l D y mo ma u2 i2 i3 i4 i5 i6 i7 i8 i42 i49 i51 i53 i54 i59 i61 i64 i66 t67 i76 i78 g46 nz iz (-1) dy (by omega) (by omega) hn_) kw_Model_454 kv_Model_alters 0 10 rfl rfl ⟨by decide, by decide⟩ ⟨by decide, by decide⟩ (wr := [(ma 0, .inl (y 0, 1600, .inl g0)), (ma 45, .inl (y 0, 14, .inl g45)), (ma 63, .inl (y 0, 9, .inl z29)), (ma 43, .inl (y 0, 8, .inl g43))]) [4, 5, 6] [0, 1, 2, 3] rfl rfl (by decide) (by decide) (by decide) (As := [.int (nI iz), .int (-1)]) (rest := []) rfl (nb rfl) rfl d_Model_thief_51 (fun u57 hu58 => ?_)
          have xh59 := hu58
          refine j_ws (ws' := [(ma 0, .inl (y 0, 1600, .inl g0)), (ma 45, .inl (y 0, 14, .inl g45)), (ma 63, .inl (y 0, 9, .inl z29)), (ma 43, .inl (y 0, 8, .inl g43)), MB mo ma (nI u2) i2 i3 i4 i5 i6 i7 i8 i42 i49 i51 i53 i54 i59 i61 i64 i66 (nI t67) i76 i78, (ma 46, .inl (y 0, 108, .inl g46)), (ma 62, .inl (y 0, 63, .inl u57))]) rfl ?_
          refine j_aload_n (pc := 54) C d_Model_thief_54 rfl 2 rfl ?_
          refine j_callVi (pc := 55) C (c_M_isAsSeen l D y mo ma u2 i2 i3 i4 i5 i6 i7 i8 i42 i49 i51 i53 i54 i59 i61 i64 i66 t67 i76 i78 g0 g43 g45 g46 u57 z29 c0 hc0 bc0 hL hS) kw_Model_564 kv_Model_isAsSeen 0 10 rfl rfl ⟨by decide, by decide⟩ ⟨by decide, by decide⟩ (wr := []) [4, 0, 3, 1, 5, 6, 2] [] rfl rfl (by decide) (by decide) (by decide) (As := []) (rest := []) rfl (nb rfl) rfl d_Model_thief_55 (fun r60 u61 hr60 => ?_)
          have xh62 := hr60
          refine j_ws (ws' := [MB mo ma (nI u2) i2 i3 i4 i5 i6 i7 i8 i42 i49 i51 i53 i54 i59 i61 i64 i66 (nI t67) i76 i78, (ma 0, .inl (y 0, 1600, .inl g0)), (ma 43, .inl (y 0, 8, .inl g43)), (ma 45, .inl (y 0, 14, .inl g45)), (ma 46, .inl (y 0, 108, .inl g46)), (ma 62, .inl (y 0, 63, .inl u57)), (ma 63, .inl (y 0, 9, .inl u61))]) rfl ?_
          refine j_if_eq (pc := 58) C (tgt := 67) d_Model_thief_58 (by decide) (fun c63 => ?_) (fun c63 => ?_)
          · refine j_aload_n (pc := 67) C d_Model_thief_67 rfl 2 rfl ?_
            refine j_iload_n (pc := 68) C d_Model_thief_68 rfl 0 rfl ?_
            refine j_iconst (pc := 69) C (v := 1) d_Model_thief_69 (by decide) ?_
            refine j_callVv (pc := 70) C (c_M_alters l D y mo ma u2 i2 i3 i4 i5 i6 i7 i8 i42 i49 i51 i53 i54 i59 i61 i64 i66 t67 i76 i78 g46 u57 iz 1 dy (by omega) (by omega) xh59) kw_Model_454 kv_Model_alters 0 10 rfl rfl ⟨by decide, by decide⟩ ⟨by decide, by decide⟩ (wr := [(ma 0, .inl (y 0, 1600, .inl g0)), (ma 43, .inl (y 0, 8, .inl g43)), (ma 45, .inl (y 0, 14, .inl g45)), (ma 63, .inl (y 0, 9, .inl u61))]) [0, 4, 5] [1, 2, 3, 6] rfl rfl (by decide) (by decide) (by decide) (As := [.int (nI iz), .int 1]) (rest := []) rfl (nb rfl) rfl d_Model_thief_70 (fun u64 hu65 => ?_)
            have xh66 := hu65
            refine j_ws (ws' := [(ma 0, .inl (y 0, 1600, .inl g0)), (ma 43, .inl (y 0, 8, .inl g43)), (ma 45, .inl (y 0, 14, .inl g45)), (ma 63, .inl (y 0, 9, .inl u61)), MB mo ma (nI u2) i2 i3 i4 i5 i6 i7 i8 i42 i49 i51 i53 i54 i59 i61 i64 i66 (nI t67) i76 i78, (ma 46, .inl (y 0, 108, .inl g46)), (ma 62, .inl (y 0, 63, .inl u64))]) rfl ?_
            refine j_iinc (pc := 73) C (v := nI (iz + 1)) (lv' := [(2, .int (nI (iz + 1))), (1, .int z30), (0, .ref mo)]) d_Model_thief_73 0 rfl (nI_add _ _) (by decide) rfl ?_
            refine j_goto (pc := 76) C (tgt := 26) d_Model_thief_76 (by decide) ?_
            refine j_sub (ws' := [MB mo ma (nI u2) i2 i3 i4 i5 i6 i7 i8 i42 i49 i51 i53 i54 i59 i61 i64 i66 (nI t67) i76 i78, (ma 0, .inl (y 0, 1600, .inl g0)), (ma 43, .inl (y 0, 8, .inl g43)), (ma 45, .inl (y 0, 14, .inl g45)), (ma 46, .inl (y 0, 108, .inl g46)), (ma 62, .inl (y 0, 63, .inl u64)), (ma 63, .inl (y 0, 9, .inl u61))]) [4, 0, 1, 2, 5, 6, 3] rfl (by decide) ?_
            exact ih51 ((iz + 1), u64, u61, z30) ⟨(show (iz + 1) ≤ c0 by omega), xh66⟩ (show c0 - (iz + 1) < c0 - iz by omega)
          · refine j_iload_n (pc := 61) C d_Model_thief_61 rfl 1 rfl ?_
            refine j_iconst (pc := 62) C (v := 1) d_Model_thief_62 (by decide) ?_
            refine j_iload_n (pc := 63) C d_Model_thief_63 rfl 0 rfl ?_
            refine j_ishl (pc := 64) C (v := 1 <<< ((nI iz) &&& 31)) d_Model_thief_64 rfl ?_
            refine j_ior (pc := 65) C (v := z30 ||| (1 <<< ((nI iz) &&& 31))) d_Model_thief_65 rfl ?_
            refine j_anyI (fun v67 => ?_)
            refine j_istore_n (pc := 66) C (lv' := [(1, .int v67), (2, .int (nI iz)), (0, .ref mo)]) d_Model_thief_66 rfl (by decide) rfl ?_
            refine j_aload_n (pc := 67) C d_Model_thief_67 rfl 2 rfl ?_
            refine j_iload_n (pc := 68) C d_Model_thief_68 rfl 1 rfl ?_
            refine j_iconst (pc := 69) C (v := 1) d_Model_thief_69 (by decide) ?_
            refine j_callVv (pc := 70) C (c_M_alters l D y mo ma u2 i2 i3 i4 i5 i6 i7 i8 i42 i49 i51 i53 i54 i59 i61 i64 i66 t67 i76 i78 g46 u57 iz 1 dy (by omega) (by omega) xh59) kw_Model_454 kv_Model_alters 0 10 rfl rfl ⟨by decide, by decide⟩ ⟨by decide, by decide⟩ (wr := [(ma 0, .inl (y 0, 1600, .inl g0)), (ma 43, .inl (y 0, 8, .inl g43)), (ma 45, .inl (y 0, 14, .inl g45)), (ma 63, .inl (y 0, 9, .inl u61))]) [0, 4, 5] [1, 2, 3, 6] rfl rfl (by decide) (by decide) (by decide) (As := [.int (nI iz), .int 1]) (rest := []) rfl (nb rfl) rfl d_Model_thief_70 (fun u68 hu69 => ?_)
            have xh70 := hu69
            refine j_ws (ws' := [(ma 0, .inl (y 0, 1600, .inl g0)), (ma 43, .inl (y 0, 8, .inl g43)), (ma 45, .inl (y 0, 14, .inl g45)), (ma 63, .inl (y 0, 9, .inl u61)), MB mo ma (nI u2) i2 i3 i4 i5 i6 i7 i8 i42 i49 i51 i53 i54 i59 i61 i64 i66 (nI t67) i76 i78, (ma 46, .inl (y 0, 108, .inl g46)), (ma 62, .inl (y 0, 63, .inl u68))]) rfl ?_
            refine j_iinc (pc := 73) C (v := nI (iz + 1)) (lv' := [(2, .int (nI (iz + 1))), (1, .int v67), (0, .ref mo)]) d_Model_thief_73 1 rfl (nI_add _ _) (by decide) rfl ?_
            refine j_goto (pc := 76) C (tgt := 26) d_Model_thief_76 (by decide) ?_
            refine j_sub (ws' := [MB mo ma (nI u2) i2 i3 i4 i5 i6 i7 i8 i42 i49 i51 i53 i54 i59 i61 i64 i66 (nI t67) i76 i78, (ma 0, .inl (y 0, 1600, .inl g0)), (ma 43, .inl (y 0, 8, .inl g43)), (ma 45, .inl (y 0, 14, .inl g45)), (ma 46, .inl (y 0, 108, .inl g46)), (ma 62, .inl (y 0, 63, .inl u68)), (ma 63, .inl (y 0, 9, .inl u61))]) [4, 0, 1, 2, 5, 6, 3] rfl (by decide) ?_
            exact ih51 ((iz + 1), u68, u61, v67) ⟨(show (iz + 1) ≤ c0 by omega), xh70⟩ (show c0 - (iz + 1) < c0 - iz by omega)
        · refine j_goto (pc := 45) C (tgt := 73) d_Model_thief_45 (by decide) ?_
          refine j_iinc (pc := 73) C (v := nI (iz + 1)) (lv' := [(2, .int (nI (iz + 1))), (1, .int z30), (0, .ref mo)]) d_Model_thief_73 0 rfl (nI_add _ _) (by decide) rfl ?_
          refine j_goto (pc := 76) C (tgt := 26) d_Model_thief_76 (by decide) ?_
          refine j_sub (ws' := [MB mo ma (nI u2) i2 i3 i4 i5 i6 i7 i8 i42 i49 i51 i53 i54 i59 i61 i64 i66 (nI t67) i76 i78, (ma 0, .inl (y 0, 1600, .inl g0)), (ma 43, .inl (y 0, 8, .inl g43)), (ma 45, .inl (y 0, 14, .inl g45)), (ma 46, .inl (y 0, 108, .inl g46)), (ma 62, .inl (y 0, 63, .inl nz)), (ma 63, .inl (y 0, 9, .inl z29))]) [4, 0, 3, 1, 5, 6, 2] rfl (by decide) ?_
          exact ih51 ((iz + 1), nz, z29, z30) ⟨(show (iz + 1) ≤ c0 by omega), hn_⟩ (show c0 - (iz + 1) < c0 - iz by omega)
    · refine j_sipush (pc := 16) C (v := 512) d_Model_thief_16 (by decide) ?_
      refine j_goto (pc := 19) C (tgt := 23) d_Model_thief_19 (by decide) ?_
      refine j_istore_n (pc := 23) C (lv' := [(1, .int 512), (0, .ref mo)]) d_Model_thief_23 rfl (by decide) rfl ?_
      refine j_iconst (pc := 24) C (v := 0) d_Model_thief_24 (by decide) ?_
      refine j_istore_n (pc := 25) C (lv' := [(2, .int 0), (1, .int 512), (0, .ref mo)]) d_Model_thief_25 rfl (by decide) rfl ?_
      refine j_loop (α := Nat × (Nat → Int32) × (Nat → Int32) × Int32) (fun a => c0 - a.1) (fun a => (a.1 ≤ c0) ∧ (a.2.1 0 = nI dy)) (fun a => [MB mo ma (nI u2) i2 i3 i4 i5 i6 i7 i8 i42 i49 i51 i53 i54 i59 i61 i64 i66 (nI t67) i76 i78, (ma 0, .inl (y 0, 1600, .inl g0)), (ma 43, .inl (y 0, 8, .inl g43)), (ma 45, .inl (y 0, 14, .inl g45)), (ma 46, .inl (y 0, 108, .inl g46)), (ma 62, .inl (y 0, 63, .inl a.2.1)), (ma 63, .inl (y 0, 9, .inl a.2.2.1))]) (fun a => [(2, .int (nI a.1)), (1, .int a.2.2.2), (0, .ref mo)]) (0, g62, u7, 512) rfl rfl ⟨(show 0 ≤ c0 by omega), hD⟩ ?_
      rintro ⟨iz, nz, z90, z91⟩ hP111 ih112
      obtain ⟨hi__, hn__⟩ := hP111
      have hi_ : iz ≤ c0 := hi__
      have hn_ : nz 0 = nI dy := hn__
      refine j_ws (ws' := [MB mo ma (nI u2) i2 i3 i4 i5 i6 i7 i8 i42 i49 i51 i53 i54 i59 i61 i64 i66 (nI t67) i76 i78, (ma 0, .inl (y 0, 1600, .inl g0)), (ma 43, .inl (y 0, 8, .inl g43)), (ma 45, .inl (y 0, 14, .inl g45)), (ma 46, .inl (y 0, 108, .inl g46)), (ma 62, .inl (y 0, 63, .inl nz)), (ma 63, .inl (y 0, 9, .inl z90))]) rfl ?_
      refine j_lv (lv' := [(2, .int (nI iz)), (1, .int z91), (0, .ref mo)]) rfl ?_
      refine j_iload_n (pc := 26) C d_Model_thief_26 rfl 0 rfl ?_
      refine j_aload_n (pc := 27) C d_Model_thief_27 rfl 2 rfl ?_
      refine j_callVi (pc := 28) C (c_M_gateMany l D y mo ma u2 i2 i3 i4 i5 i6 i7 i8 i42 i49 i51 i53 i54 i59 i61 i64 i66 t67 i76 i78 g43 c0 hc0 bc0) kw_Model_341 kv_Model_gateMany 0 10 rfl rfl ⟨by decide, by decide⟩ ⟨by decide, by decide⟩ (wr := [(ma 0, .inl (y 0, 1600, .inl g0)), (ma 45, .inl (y 0, 14, .inl g45)), (ma 46, .inl (y 0, 108, .inl g46)), (ma 62, .inl (y 0, 63, .inl nz)), (ma 63, .inl (y 0, 9, .inl z90))]) [0, 2] [1, 3, 4, 5, 6] rfl rfl (by decide) (by decide) (by decide) (As := []) (rest := [.int (nI iz)]) rfl (nb rfl) rfl d_Model_thief_28 (fun r113 _ hr113 => ?_)
      obtain rfl := hr113
      refine j_ws (ws' := [(ma 0, .inl (y 0, 1600, .inl g0)), (ma 45, .inl (y 0, 14, .inl g45)), (ma 46, .inl (y 0, 108, .inl g46)), (ma 62, .inl (y 0, 63, .inl nz)), (ma 63, .inl (y 0, 9, .inl z90)), MB mo ma (nI u2) i2 i3 i4 i5 i6 i7 i8 i42 i49 i51 i53 i54 i59 i61 i64 i66 (nI t67) i76 i78, (ma 43, .inl (y 0, 8, .inl g43))]) rfl ?_
      by_cases c114 : c0 ≤ iz
      · refine j_icmp_geT (pc := 31) C (tgt := 79) d_Model_thief_31 (by decide) (show nI c0 ≤ nI iz from nI_le (by omega) (by omega)) ?_
        refine j_iload_n (pc := 79) C d_Model_thief_79 rfl 1 rfl ?_
        exact j_iret (pc := 80) C hr rfl (u2, nz, z90) ⟨hn_, (by omega), (by omega)⟩ [5, 0, 6, 1, 2, 3, 4] rfl (by decide) (by decide) (by decide) d_Model_thief_80
      · refine j_icmp_geF (pc := 31) C (tgt := 79) d_Model_thief_31 (by decide) (show ¬ nI c0 ≤ nI iz from nI_ge (by omega) (by omega)) ?_
        refine j_aload_n (pc := 34) C d_Model_thief_34 rfl 2 rfl ?_
        refine j_iload_n (pc := 35) C d_Model_thief_35 rfl 0 rfl ?_
        refine j_iconst (pc := 36) C (v := 1) d_Model_thief_36 (by decide) ?_
        refine j_bipush (pc := 37) C (v := 20) d_Model_thief_37 (by decide) ?_
        refine j_callVi (pc := 39) C (c_M_areBoards l D y mo ma u2 i2 i3 i4 i5 i6 i7 i8 i42 i49 i51 i53 i54 i59 i61 i64 i66 t67 i76 i78 g46 nz iz 1 20 (by omega) (by omega)) kw_Model_424 kv_Model_areBoards 0 10 rfl rfl ⟨by decide, by decide⟩ ⟨by decide, by decide⟩ (wr := [(ma 0, .inl (y 0, 1600, .inl g0)), (ma 45, .inl (y 0, 14, .inl g45)), (ma 63, .inl (y 0, 9, .inl z90)), (ma 43, .inl (y 0, 8, .inl g43))]) [5, 2, 3] [0, 1, 4, 6] rfl rfl (by decide) (by decide) (by decide) (As := [.int (nI iz), .int 1, .int 20]) (rest := []) rfl (nb rfl) rfl d_Model_thief_39 (fun r115 _ hr115 => ?_)
        have xh116 := hr115
        refine j_ws (ws' := [(ma 0, .inl (y 0, 1600, .inl g0)), (ma 45, .inl (y 0, 14, .inl g45)), (ma 63, .inl (y 0, 9, .inl z90)), (ma 43, .inl (y 0, 8, .inl g43)), MB mo ma (nI u2) i2 i3 i4 i5 i6 i7 i8 i42 i49 i51 i53 i54 i59 i61 i64 i66 (nI t67) i76 i78, (ma 46, .inl (y 0, 108, .inl g46)), (ma 62, .inl (y 0, 63, .inl nz))]) rfl ?_
        refine j_if_ne (pc := 42) C (tgt := 48) d_Model_thief_42 (by decide) (fun c117 => ?_) (fun c117 => ?_)
        · refine j_aload_n (pc := 48) C d_Model_thief_48 rfl 2 rfl ?_
          refine j_iload_n (pc := 49) C d_Model_thief_49 rfl 0 rfl ?_
          refine j_iconst (pc := 50) C (v := (-1)) d_Model_thief_50 (by decide) ?_
          refine j_callVv (pc := 51) C (c_M_alters l D y mo ma u2 i2 i3 i4 i5 i6 i7 i8 i42 i49 i51 i53 i54 i59 i61 i64 i66 t67 i76 i78 g46 nz iz (-1) dy (by omega) (by omega) hn_) kw_Model_454 kv_Model_alters 0 10 rfl rfl ⟨by decide, by decide⟩ ⟨by decide, by decide⟩ (wr := [(ma 0, .inl (y 0, 1600, .inl g0)), (ma 45, .inl (y 0, 14, .inl g45)), (ma 63, .inl (y 0, 9, .inl z90)), (ma 43, .inl (y 0, 8, .inl g43))]) [4, 5, 6] [0, 1, 2, 3] rfl rfl (by decide) (by decide) (by decide) (As := [.int (nI iz), .int (-1)]) (rest := []) rfl (nb rfl) rfl d_Model_thief_51 (fun u118 hu119 => ?_)
          have xh120 := hu119
          refine j_ws (ws' := [(ma 0, .inl (y 0, 1600, .inl g0)), (ma 45, .inl (y 0, 14, .inl g45)), (ma 63, .inl (y 0, 9, .inl z90)), (ma 43, .inl (y 0, 8, .inl g43)), MB mo ma (nI u2) i2 i3 i4 i5 i6 i7 i8 i42 i49 i51 i53 i54 i59 i61 i64 i66 (nI t67) i76 i78, (ma 46, .inl (y 0, 108, .inl g46)), (ma 62, .inl (y 0, 63, .inl u118))]) rfl ?_
          refine j_aload_n (pc := 54) C d_Model_thief_54 rfl 2 rfl ?_
          refine j_callVi (pc := 55) C (c_M_isAsSeen l D y mo ma u2 i2 i3 i4 i5 i6 i7 i8 i42 i49 i51 i53 i54 i59 i61 i64 i66 t67 i76 i78 g0 g43 g45 g46 u118 z90 c0 hc0 bc0 hL hS) kw_Model_564 kv_Model_isAsSeen 0 10 rfl rfl ⟨by decide, by decide⟩ ⟨by decide, by decide⟩ (wr := []) [4, 0, 3, 1, 5, 6, 2] [] rfl rfl (by decide) (by decide) (by decide) (As := []) (rest := []) rfl (nb rfl) rfl d_Model_thief_55 (fun r121 u122 hr121 => ?_)
          have xh123 := hr121
          refine j_ws (ws' := [MB mo ma (nI u2) i2 i3 i4 i5 i6 i7 i8 i42 i49 i51 i53 i54 i59 i61 i64 i66 (nI t67) i76 i78, (ma 0, .inl (y 0, 1600, .inl g0)), (ma 43, .inl (y 0, 8, .inl g43)), (ma 45, .inl (y 0, 14, .inl g45)), (ma 46, .inl (y 0, 108, .inl g46)), (ma 62, .inl (y 0, 63, .inl u118)), (ma 63, .inl (y 0, 9, .inl u122))]) rfl ?_
          refine j_if_eq (pc := 58) C (tgt := 67) d_Model_thief_58 (by decide) (fun c124 => ?_) (fun c124 => ?_)
          · refine j_aload_n (pc := 67) C d_Model_thief_67 rfl 2 rfl ?_
            refine j_iload_n (pc := 68) C d_Model_thief_68 rfl 0 rfl ?_
            refine j_iconst (pc := 69) C (v := 1) d_Model_thief_69 (by decide) ?_
            refine j_callVv (pc := 70) C (c_M_alters l D y mo ma u2 i2 i3 i4 i5 i6 i7 i8 i42 i49 i51 i53 i54 i59 i61 i64 i66 t67 i76 i78 g46 u118 iz 1 dy (by omega) (by omega) xh120) kw_Model_454 kv_Model_alters 0 10 rfl rfl ⟨by decide, by decide⟩ ⟨by decide, by decide⟩ (wr := [(ma 0, .inl (y 0, 1600, .inl g0)), (ma 43, .inl (y 0, 8, .inl g43)), (ma 45, .inl (y 0, 14, .inl g45)), (ma 63, .inl (y 0, 9, .inl u122))]) [0, 4, 5] [1, 2, 3, 6] rfl rfl (by decide) (by decide) (by decide) (As := [.int (nI iz), .int 1]) (rest := []) rfl (nb rfl) rfl d_Model_thief_70 (fun u125 hu126 => ?_)
            have xh127 := hu126
            refine j_ws (ws' := [(ma 0, .inl (y 0, 1600, .inl g0)), (ma 43, .inl (y 0, 8, .inl g43)), (ma 45, .inl (y 0, 14, .inl g45)), (ma 63, .inl (y 0, 9, .inl u122)), MB mo ma (nI u2) i2 i3 i4 i5 i6 i7 i8 i42 i49 i51 i53 i54 i59 i61 i64 i66 (nI t67) i76 i78, (ma 46, .inl (y 0, 108, .inl g46)), (ma 62, .inl (y 0, 63, .inl u125))]) rfl ?_
            refine j_iinc (pc := 73) C (v := nI (iz + 1)) (lv' := [(2, .int (nI (iz + 1))), (1, .int z91), (0, .ref mo)]) d_Model_thief_73 0 rfl (nI_add _ _) (by decide) rfl ?_
            refine j_goto (pc := 76) C (tgt := 26) d_Model_thief_76 (by decide) ?_
            refine j_sub (ws' := [MB mo ma (nI u2) i2 i3 i4 i5 i6 i7 i8 i42 i49 i51 i53 i54 i59 i61 i64 i66 (nI t67) i76 i78, (ma 0, .inl (y 0, 1600, .inl g0)), (ma 43, .inl (y 0, 8, .inl g43)), (ma 45, .inl (y 0, 14, .inl g45)), (ma 46, .inl (y 0, 108, .inl g46)), (ma 62, .inl (y 0, 63, .inl u125)), (ma 63, .inl (y 0, 9, .inl u122))]) [4, 0, 1, 2, 5, 6, 3] rfl (by decide) ?_
            exact ih112 ((iz + 1), u125, u122, z91) ⟨(show (iz + 1) ≤ c0 by omega), xh127⟩ (show c0 - (iz + 1) < c0 - iz by omega)
          · refine j_iload_n (pc := 61) C d_Model_thief_61 rfl 1 rfl ?_
            refine j_iconst (pc := 62) C (v := 1) d_Model_thief_62 (by decide) ?_
            refine j_iload_n (pc := 63) C d_Model_thief_63 rfl 0 rfl ?_
            refine j_ishl (pc := 64) C (v := 1 <<< ((nI iz) &&& 31)) d_Model_thief_64 rfl ?_
            refine j_ior (pc := 65) C (v := z91 ||| (1 <<< ((nI iz) &&& 31))) d_Model_thief_65 rfl ?_
            refine j_anyI (fun v128 => ?_)
            refine j_istore_n (pc := 66) C (lv' := [(1, .int v128), (2, .int (nI iz)), (0, .ref mo)]) d_Model_thief_66 rfl (by decide) rfl ?_
            refine j_aload_n (pc := 67) C d_Model_thief_67 rfl 2 rfl ?_
            refine j_iload_n (pc := 68) C d_Model_thief_68 rfl 1 rfl ?_
            refine j_iconst (pc := 69) C (v := 1) d_Model_thief_69 (by decide) ?_
            refine j_callVv (pc := 70) C (c_M_alters l D y mo ma u2 i2 i3 i4 i5 i6 i7 i8 i42 i49 i51 i53 i54 i59 i61 i64 i66 t67 i76 i78 g46 u118 iz 1 dy (by omega) (by omega) xh120) kw_Model_454 kv_Model_alters 0 10 rfl rfl ⟨by decide, by decide⟩ ⟨by decide, by decide⟩ (wr := [(ma 0, .inl (y 0, 1600, .inl g0)), (ma 43, .inl (y 0, 8, .inl g43)), (ma 45, .inl (y 0, 14, .inl g45)), (ma 63, .inl (y 0, 9, .inl u122))]) [0, 4, 5] [1, 2, 3, 6] rfl rfl (by decide) (by decide) (by decide) (As := [.int (nI iz), .int 1]) (rest := []) rfl (nb rfl) rfl d_Model_thief_70 (fun u129 hu130 => ?_)
            have xh131 := hu130
            refine j_ws (ws' := [(ma 0, .inl (y 0, 1600, .inl g0)), (ma 43, .inl (y 0, 8, .inl g43)), (ma 45, .inl (y 0, 14, .inl g45)), (ma 63, .inl (y 0, 9, .inl u122)), MB mo ma (nI u2) i2 i3 i4 i5 i6 i7 i8 i42 i49 i51 i53 i54 i59 i61 i64 i66 (nI t67) i76 i78, (ma 46, .inl (y 0, 108, .inl g46)), (ma 62, .inl (y 0, 63, .inl u129))]) rfl ?_
            refine j_iinc (pc := 73) C (v := nI (iz + 1)) (lv' := [(2, .int (nI (iz + 1))), (1, .int v128), (0, .ref mo)]) d_Model_thief_73 1 rfl (nI_add _ _) (by decide) rfl ?_
            refine j_goto (pc := 76) C (tgt := 26) d_Model_thief_76 (by decide) ?_
            refine j_sub (ws' := [MB mo ma (nI u2) i2 i3 i4 i5 i6 i7 i8 i42 i49 i51 i53 i54 i59 i61 i64 i66 (nI t67) i76 i78, (ma 0, .inl (y 0, 1600, .inl g0)), (ma 43, .inl (y 0, 8, .inl g43)), (ma 45, .inl (y 0, 14, .inl g45)), (ma 46, .inl (y 0, 108, .inl g46)), (ma 62, .inl (y 0, 63, .inl u129)), (ma 63, .inl (y 0, 9, .inl u122))]) [4, 0, 1, 2, 5, 6, 3] rfl (by decide) ?_
            exact ih112 ((iz + 1), u129, u122, v128) ⟨(show (iz + 1) ≤ c0 by omega), xh131⟩ (show c0 - (iz + 1) < c0 - iz by omega)
        · refine j_goto (pc := 45) C (tgt := 73) d_Model_thief_45 (by decide) ?_
          refine j_iinc (pc := 73) C (v := nI (iz + 1)) (lv' := [(2, .int (nI (iz + 1))), (1, .int z91), (0, .ref mo)]) d_Model_thief_73 0 rfl (nI_add _ _) (by decide) rfl ?_
          refine j_goto (pc := 76) C (tgt := 26) d_Model_thief_76 (by decide) ?_
          refine j_sub (ws' := [MB mo ma (nI u2) i2 i3 i4 i5 i6 i7 i8 i42 i49 i51 i53 i54 i59 i61 i64 i66 (nI t67) i76 i78, (ma 0, .inl (y 0, 1600, .inl g0)), (ma 43, .inl (y 0, 8, .inl g43)), (ma 45, .inl (y 0, 14, .inl g45)), (ma 46, .inl (y 0, 108, .inl g46)), (ma 62, .inl (y 0, 63, .inl nz)), (ma 63, .inl (y 0, 9, .inl z90))]) [4, 0, 3, 1, 5, 6, 2] rfl (by decide) ?_
          exact ih112 ((iz + 1), nz, z90, z91) ⟨(show (iz + 1) ≤ c0 by omega), hn_⟩ (show c0 - (iz + 1) < c0 - iz by omega)
  · refine j_iconst (pc := 7) C (v := (-1)) d_Model_thief_7 (by decide) ?_
    exact j_iret (pc := 8) C hr rfl (u2, g62, g63) ⟨hD, (by omega), (by omega)⟩ [4, 0, 5, 1, 2, 6, 3] rfl (by decide) (by decide) (by decide) d_Model_thief_8
theorem d_Model_beaver_0 : decode prog_13_method_116_code 0 = .ok (.aload_n 0, 1) := by decide +kernel
theorem d_Model_beaver_1 : decode prog_13_method_116_code 1 = .ok (.invokevirtual 561, 3) := by decide +kernel
theorem d_Model_beaver_4 : decode prog_13_method_116_code 4 = .ok (.ifCond .ne 5, 3) := by decide +kernel
theorem d_Model_beaver_9 : decode prog_13_method_116_code 9 = .ok (.aload_n 0, 1) := by decide +kernel
theorem d_Model_beaver_10 : decode prog_13_method_116_code 10 = .ok (.invokevirtual 434, 3) := by decide +kernel
theorem d_Model_beaver_13 : decode prog_13_method_116_code 13 = .ok (.istore_n 1, 1) := by decide +kernel
theorem d_Model_beaver_14 : decode prog_13_method_116_code 14 = .ok (.iconst (-1), 1) := by decide +kernel
theorem d_Model_beaver_15 : decode prog_13_method_116_code 15 = .ok (.istore_n 2, 1) := by decide +kernel
theorem d_Model_beaver_16 : decode prog_13_method_116_code 16 = .ok (.iconst 0, 1) := by decide +kernel
theorem d_Model_beaver_17 : decode prog_13_method_116_code 17 = .ok (.istore_n 3, 1) := by decide +kernel
theorem d_Model_beaver_18 : decode prog_13_method_116_code 18 = .ok (.iload_n 3, 1) := by decide +kernel
theorem d_Model_beaver_19 : decode prog_13_method_116_code 19 = .ok (.aload_n 0, 1) := by decide +kernel
theorem d_Model_beaver_20 : decode prog_13_method_116_code 20 = .ok (.invokevirtual 341, 3) := by decide +kernel
theorem d_Model_beaver_23 : decode prog_13_method_116_code 23 = .ok (.if_icmp .ge 49, 3) := by decide +kernel
theorem d_Model_beaver_72 : decode prog_13_method_116_code 72 = .ok (.iload_n 2, 1) := by decide +kernel
theorem d_Model_beaver_73 : decode prog_13_method_116_code 73 = .ok (.ireturn, 1) := by decide +kernel
theorem d_Model_beaver_26 : decode prog_13_method_116_code 26 = .ok (.aload_n 0, 1) := by decide +kernel
theorem d_Model_beaver_27 : decode prog_13_method_116_code 27 = .ok (.iload_n 3, 1) := by decide +kernel
theorem d_Model_beaver_28 : decode prog_13_method_116_code 28 = .ok (.invokevirtual 558, 3) := by decide +kernel
theorem d_Model_beaver_31 : decode prog_13_method_116_code 31 = .ok (.aload_n 0, 1) := by decide +kernel
theorem d_Model_beaver_32 : decode prog_13_method_116_code 32 = .ok (.getfield 161, 3) := by decide +kernel
theorem d_Model_beaver_35 : decode prog_13_method_116_code 35 = .ok (.iload_n 3, 1) := by decide +kernel
theorem d_Model_beaver_36 : decode prog_13_method_116_code 36 = .ok (.iaload, 1) := by decide +kernel
theorem d_Model_beaver_37 : decode prog_13_method_116_code 37 = .ok (.if_icmp .ne 6, 3) := by decide +kernel
theorem d_Model_beaver_43 : decode prog_13_method_116_code 43 = .ok (.aload_n 0, 1) := by decide +kernel
theorem d_Model_beaver_44 : decode prog_13_method_116_code 44 = .ok (.iload_n 3, 1) := by decide +kernel
theorem d_Model_beaver_45 : decode prog_13_method_116_code 45 = .ok (.invokevirtual 558, 3) := by decide +kernel
theorem d_Model_beaver_48 : decode prog_13_method_116_code 48 = .ok (.aload_n 0, 1) := by decide +kernel
theorem d_Model_beaver_49 : decode prog_13_method_116_code 49 = .ok (.getfield 161, 3) := by decide +kernel
theorem d_Model_beaver_52 : decode prog_13_method_116_code 52 = .ok (.iload_n 3, 1) := by decide +kernel
theorem d_Model_beaver_53 : decode prog_13_method_116_code 53 = .ok (.iaload, 1) := by decide +kernel
theorem d_Model_beaver_54 : decode prog_13_method_116_code 54 = .ok (.if_icmp .gt 8, 3) := by decide +kernel
theorem d_Model_beaver_62 : decode prog_13_method_116_code 62 = .ok (.iconst (-1), 1) := by decide +kernel
theorem d_Model_beaver_63 : decode prog_13_method_116_code 63 = .ok (.ireturn, 1) := by decide +kernel
theorem d_Model_beaver_57 : decode prog_13_method_116_code 57 = .ok (.iload_n 2, 1) := by decide +kernel
theorem d_Model_beaver_58 : decode prog_13_method_116_code 58 = .ok (.iconst (-1), 1) := by decide +kernel
theorem d_Model_beaver_59 : decode prog_13_method_116_code 59 = .ok (.if_icmp .eq 5, 3) := by decide +kernel
theorem d_Model_beaver_64 : decode prog_13_method_116_code 64 = .ok (.iload_n 3, 1) := by decide +kernel
theorem d_Model_beaver_65 : decode prog_13_method_116_code 65 = .ok (.istore_n 2, 1) := by decide +kernel
theorem d_Model_beaver_66 : decode prog_13_method_116_code 66 = .ok (.iinc 3 1, 3) := by decide +kernel
theorem d_Model_beaver_69 : decode prog_13_method_116_code 69 = .ok (.goto (-51), 3) := by decide +kernel
theorem d_Model_beaver_40 : decode prog_13_method_116_code 40 = .ok (.goto 26, 3) := by decide +kernel
theorem d_Model_beaver_7 : decode prog_13_method_116_code 7 = .ok (.iconst (-1), 1) := by decide +kernel
theorem d_Model_beaver_8 : decode prog_13_method_116_code 8 = .ok (.ireturn, 1) := by decide +kernel
set_option maxHeartbeats 4000000 in
set_option maxRecDepth 100000 in
theorem c_M_beaver (l : Launch) (D : va_G) (y : Nat → ClassId) (mo : Nat) (ma : Nat → Nat) (t1 : Nat) (i2 : Int32) (i3 : Int32) (i4 : Int32) (i5 : Int32) (i6 : Int32) (i7 : Int32) (i8 : Int32) (i42 : Int32) (i49 : Int32) (i51 : Int32) (i53 : Int32) (i54 : Int32) (i59 : Int32) (i61 : Int32) (i64 : Int32) (i66 : Int32) (t67 : Nat) (i76 : Int64) (i78 : Int32) (g0 : Nat → Int32) (g43 : Nat → Int32) (g45 : Nat → Int32) (g46 : Nat → Int32) (g62 : Nat → Int32) (g63 : Nat → Int32) (c0 : Nat) (dy : Nat) (hc0 : g43 4 = nI c0) (bc0 : c0 ≤ 9) (hL : ¬ g45 7 = 0) (hS : ∀ j, j < 9 → g46 (54 + 6 * j) = 2 → ¬ g46 (54 + 6 * j + 1) = 0) (hD : g62 0 = nI dy) (bD : dy ≤ 999) (bt : t1 ≤ 1600) : CT l D y ⟨"NineBoardsModel", "beaver", "()I"⟩ prog_13_method_116_code 4 (some .int) ({ frames := 3, cells := 0, slots := 0, locals := 74 } : Room) [.ref mo] [MB mo ma (nI t1) i2 i3 i4 i5 i6 i7 i8 i42 i49 i51 i53 i54 i59 i61 i64 i66 (nI t67) i76 i78, (ma 0, .inl (y 0, 1600, .inl g0)), (ma 43, .inl (y 0, 8, .inl g43)), (ma 45, .inl (y 0, 14, .inl g45)), (ma 46, .inl (y 0, 108, .inl g46)), (ma 62, .inl (y 0, 63, .inl g62)), (ma 63, .inl (y 0, 9, .inl g63))] (QI D [MB mo ma (nI t1) i2 i3 i4 i5 i6 i7 i8 i42 i49 i51 i53 i54 i59 i61 i64 i66 (nI t67) i76 i78, (ma 0, .inl (y 0, 1600, .inl g0)), (ma 43, .inl (y 0, 8, .inl g43)), (ma 45, .inl (y 0, 14, .inl g45)), (ma 46, .inl (y 0, 108, .inl g46)), (ma 62, .inl (y 0, 63, .inl g62)), (ma 63, .inl (y 0, 9, .inl g63))] (fun (r : Int32) (u : Nat × (Nat → Int32)) => u.1 ≤ 1600 ∧ u.1 = 0) (fun u => [MB mo ma (nI u.1) i2 i3 i4 i5 i6 i7 i8 i42 i49 i51 i53 i54 i59 i61 i64 i66 (nI t67) i76 i78, (ma 0, .inl (y 0, 1600, .inl g0)), (ma 43, .inl (y 0, 8, .inl g43)), (ma 45, .inl (y 0, 14, .inl g45)), (ma 46, .inl (y 0, 108, .inl g46)), (ma 62, .inl (y 0, 63, .inl g62)), (ma 63, .inl (y 0, 9, .inl u.2))])) := by
  refine CT.of (by decide) (nb rfl) ?_
  intro p e s m args below meth c C hr
  refine j_lv (lv' := [(0, .ref mo)]) rfl ?_
  refine j_aload_n (pc := 0) C d_Model_beaver_0 rfl 0 rfl ?_
  refine j_callVi (pc := 1) C (c_M_areSeen l D y mo ma t1 i2 i3 i4 i5 i6 i7 i8 i42 i49 i51 i53 i54 i59 i61 i64 i66 t67 i76 i78 g43 g62 c0 dy hc0 bc0 hD bD bt) kw_Model_561 kv_Model_areSeen 0 10 rfl rfl ⟨by decide, by decide⟩ ⟨by decide, by decide⟩ (wr := [(ma 0, .inl (y 0, 1600, .inl g0)), (ma 45, .inl (y 0, 14, .inl g45)), (ma 46, .inl (y 0, 108, .inl g46)), (ma 63, .inl (y 0, 9, .inl g63))]) [0, 2, 5] [1, 3, 4, 6] rfl rfl (by decide) (by decide) (by decide) (As := []) (rest := []) rfl (nb rfl) rfl d_Model_beaver_1 (fun r1 u2 hr1 => ?_)
  obtain ⟨xh3, xh4⟩ := hr1
  refine j_ws (ws' := [(ma 0, .inl (y 0, 1600, .inl g0)), (ma 45, .inl (y 0, 14, .inl g45)), (ma 46, .inl (y 0, 108, .inl g46)), (ma 63, .inl (y 0, 9, .inl g63)), MB mo ma (nI u2) i2 i3 i4 i5 i6 i7 i8 i42 i49 i51 i53 i54 i59 i61 i64 i66 (nI t67) i76 i78, (ma 43, .inl (y 0, 8, .inl g43)), (ma 62, .inl (y 0, 63, .inl g62))]) rfl ?_
  refine j_if_ne (pc := 4) C (tgt := 9) d_Model_beaver_4 (by decide) (fun c5 => ?_) (fun c5 => ?_)
  · refine j_aload_n (pc := 9) C d_Model_beaver_9 rfl 0 rfl ?_
    refine j_callVi (pc := 10) C (c_M_flowsNow l D y mo ma u2 i2 i3 i4 i5 i6 i7 i8 i42 i49 i51 i53 i54 i59 i61 i64 i66 t67 i76 i78 g43 g45 g46 g62 g63 c0 hc0 bc0 hL hS) kw_Model_434 kv_Model_flowsNow 0 10 rfl rfl ⟨by decide, by decide⟩ ⟨by decide, by decide⟩ (wr := [(ma 0, .inl (y 0, 1600, .inl g0))]) [4, 5, 1, 2, 6, 3] [0] rfl rfl (by decide) (by decide) (by decide) (As := []) (rest := []) rfl (nb rfl) rfl d_Model_beaver_10 (fun r6 u7 hr6 => ?_)
    refine j_ws (ws' := [(ma 0, .inl (y 0, 1600, .inl g0)), MB mo ma (nI u2) i2 i3 i4 i5 i6 i7 i8 i42 i49 i51 i53 i54 i59 i61 i64 i66 (nI t67) i76 i78, (ma 43, .inl (y 0, 8, .inl g43)), (ma 45, .inl (y 0, 14, .inl g45)), (ma 46, .inl (y 0, 108, .inl g46)), (ma 62, .inl (y 0, 63, .inl g62)), (ma 63, .inl (y 0, 9, .inl u7))]) rfl ?_
    refine j_istore_n (pc := 13) C (lv' := [(1, .int r6), (0, .ref mo)]) d_Model_beaver_13 rfl (by decide) rfl ?_
    refine j_iconst (pc := 14) C (v := (-1)) d_Model_beaver_14 (by decide) ?_
    refine j_istore_n (pc := 15) C (lv' := [(2, .int (-1)), (1, .int r6), (0, .ref mo)]) d_Model_beaver_15 rfl (by decide) rfl ?_
    refine j_iconst (pc := 16) C (v := 0) d_Model_beaver_16 (by decide) ?_
    refine j_istore_n (pc := 17) C (lv' := [(3, .int 0), (2, .int (-1)), (1, .int r6), (0, .ref mo)]) d_Model_beaver_17 rfl (by decide) rfl ?_
    refine j_loop (α := Nat × Int32) (fun a => c0 - a.1) (fun a => (a.1 ≤ c0)) (fun a => [(ma 0, .inl (y 0, 1600, .inl g0)), MB mo ma (nI u2) i2 i3 i4 i5 i6 i7 i8 i42 i49 i51 i53 i54 i59 i61 i64 i66 (nI t67) i76 i78, (ma 43, .inl (y 0, 8, .inl g43)), (ma 45, .inl (y 0, 14, .inl g45)), (ma 46, .inl (y 0, 108, .inl g46)), (ma 62, .inl (y 0, 63, .inl g62)), (ma 63, .inl (y 0, 9, .inl u7))]) (fun a => [(3, .int (nI a.1)), (2, .int a.2), (1, .int r6), (0, .ref mo)]) (0, (-1)) rfl rfl (show 0 ≤ c0 by omega) ?_
    rintro ⟨iz, z14⟩ hP22 ih23
    have hi__ := hP22
    have hi_ : iz ≤ c0 := hi__
    refine j_ws (ws' := [(ma 0, .inl (y 0, 1600, .inl g0)), MB mo ma (nI u2) i2 i3 i4 i5 i6 i7 i8 i42 i49 i51 i53 i54 i59 i61 i64 i66 (nI t67) i76 i78, (ma 43, .inl (y 0, 8, .inl g43)), (ma 45, .inl (y 0, 14, .inl g45)), (ma 46, .inl (y 0, 108, .inl g46)), (ma 62, .inl (y 0, 63, .inl g62)), (ma 63, .inl (y 0, 9, .inl u7))]) rfl ?_
    refine j_lv (lv' := [(3, .int (nI iz)), (2, .int z14), (1, .int r6), (0, .ref mo)]) rfl ?_
    refine j_iload_n (pc := 18) C d_Model_beaver_18 rfl 0 rfl ?_
    refine j_aload_n (pc := 19) C d_Model_beaver_19 rfl 3 rfl ?_
    refine j_callVi (pc := 20) C (c_M_gateMany l D y mo ma u2 i2 i3 i4 i5 i6 i7 i8 i42 i49 i51 i53 i54 i59 i61 i64 i66 t67 i76 i78 g43 c0 hc0 bc0) kw_Model_341 kv_Model_gateMany 0 10 rfl rfl ⟨by decide, by decide⟩ ⟨by decide, by decide⟩ (wr := [(ma 0, .inl (y 0, 1600, .inl g0)), (ma 45, .inl (y 0, 14, .inl g45)), (ma 46, .inl (y 0, 108, .inl g46)), (ma 62, .inl (y 0, 63, .inl g62)), (ma 63, .inl (y 0, 9, .inl u7))]) [1, 2] [0, 3, 4, 5, 6] rfl rfl (by decide) (by decide) (by decide) (As := []) (rest := [.int (nI iz)]) rfl (nb rfl) rfl d_Model_beaver_20 (fun r24 _ hr24 => ?_)
    obtain rfl := hr24
    refine j_ws (ws' := [(ma 0, .inl (y 0, 1600, .inl g0)), (ma 45, .inl (y 0, 14, .inl g45)), (ma 46, .inl (y 0, 108, .inl g46)), (ma 62, .inl (y 0, 63, .inl g62)), (ma 63, .inl (y 0, 9, .inl u7)), MB mo ma (nI u2) i2 i3 i4 i5 i6 i7 i8 i42 i49 i51 i53 i54 i59 i61 i64 i66 (nI t67) i76 i78, (ma 43, .inl (y 0, 8, .inl g43))]) rfl ?_
    by_cases c25 : c0 ≤ iz
    · refine j_icmp_geT (pc := 23) C (tgt := 72) d_Model_beaver_23 (by decide) (show nI c0 ≤ nI iz from nI_le (by omega) (by omega)) ?_
      refine j_iload_n (pc := 72) C d_Model_beaver_72 rfl 1 rfl ?_
      exact j_iret (pc := 73) C hr rfl (u2, u7) ⟨(by omega), (by omega)⟩ [5, 0, 6, 1, 2, 3, 4] rfl (by decide) (by decide) (by decide) d_Model_beaver_73
    · refine j_icmp_geF (pc := 23) C (tgt := 72) d_Model_beaver_23 (by decide) (show ¬ nI c0 ≤ nI iz from nI_ge (by omega) (by omega)) ?_
      refine j_aload_n (pc := 26) C d_Model_beaver_26 rfl 3 rfl ?_
      refine j_iload_n (pc := 27) C d_Model_beaver_27 rfl 0 rfl ?_
      refine j_callVi (pc := 28) C (c_M_seenAt l D y mo ma u2 i2 i3 i4 i5 i6 i7 i8 i42 i49 i51 i53 i54 i59 i61 i64 i66 t67 i76 i78 g0 iz (by omega)) kw_Model_558 kv_Model_seenAt 0 10 rfl rfl ⟨by decide, by decide⟩ ⟨by decide, by decide⟩ (wr := [(ma 45, .inl (y 0, 14, .inl g45)), (ma 46, .inl (y 0, 108, .inl g46)), (ma 62, .inl (y 0, 63, .inl g62)), (ma 63, .inl (y 0, 9, .inl u7)), (ma 43, .inl (y 0, 8, .inl g43))]) [5, 0] [1, 2, 3, 4, 6] rfl rfl (by decide) (by decide) (by decide) (As := [.int (nI iz)]) (rest := []) rfl (nb rfl) rfl d_Model_beaver_28 (fun r26 _ hr26 => ?_)
      refine j_ws (ws' := [(ma 45, .inl (y 0, 14, .inl g45)), (ma 46, .inl (y 0, 108, .inl g46)), (ma 62, .inl (y 0, 63, .inl g62)), (ma 63, .inl (y 0, 9, .inl u7)), (ma 43, .inl (y 0, 8, .inl g43)), MB mo ma (nI u2) i2 i3 i4 i5 i6 i7 i8 i42 i49 i51 i53 i54 i59 i61 i64 i66 (nI t67) i76 i78, (ma 0, .inl (y 0, 1600, .inl g0))]) rfl ?_
      refine j_aload_n (pc := 31) C d_Model_beaver_31 rfl 3 rfl ?_
      refine j_get (pc := 32) C gf_Model_161 5 rfl rfl d_Model_beaver_32 ?_
      refine j_iload_n (pc := 35) C d_Model_beaver_35 rfl 0 rfl ?_
      refine j_iald (pc := 36) C 3 rfl (v := u7 iz) (vp_in_nI (by omega) (by decide)) (by rw [nI_clamp (by omega)]) d_Model_beaver_36 ?_
      refine j_icmp_ne (pc := 37) C (tgt := 43) d_Model_beaver_37 (by decide) (fun c27 => ?_) (fun c27 => ?_)
      · refine j_aload_n (pc := 43) C d_Model_beaver_43 rfl 3 rfl ?_
        refine j_iload_n (pc := 44) C d_Model_beaver_44 rfl 0 rfl ?_
        refine j_callVi (pc := 45) C (c_M_seenAt l D y mo ma u2 i2 i3 i4 i5 i6 i7 i8 i42 i49 i51 i53 i54 i59 i61 i64 i66 t67 i76 i78 g0 iz (by omega)) kw_Model_558 kv_Model_seenAt 0 10 rfl rfl ⟨by decide, by decide⟩ ⟨by decide, by decide⟩ (wr := [(ma 45, .inl (y 0, 14, .inl g45)), (ma 46, .inl (y 0, 108, .inl g46)), (ma 62, .inl (y 0, 63, .inl g62)), (ma 63, .inl (y 0, 9, .inl u7)), (ma 43, .inl (y 0, 8, .inl g43))]) [5, 6] [0, 1, 2, 3, 4] rfl rfl (by decide) (by decide) (by decide) (As := [.int (nI iz)]) (rest := []) rfl (nb rfl) rfl d_Model_beaver_45 (fun r28 _ hr28 => ?_)
        refine j_ws (ws' := [(ma 45, .inl (y 0, 14, .inl g45)), (ma 46, .inl (y 0, 108, .inl g46)), (ma 62, .inl (y 0, 63, .inl g62)), (ma 63, .inl (y 0, 9, .inl u7)), (ma 43, .inl (y 0, 8, .inl g43)), MB mo ma (nI u2) i2 i3 i4 i5 i6 i7 i8 i42 i49 i51 i53 i54 i59 i61 i64 i66 (nI t67) i76 i78, (ma 0, .inl (y 0, 1600, .inl g0))]) rfl ?_
        refine j_aload_n (pc := 48) C d_Model_beaver_48 rfl 3 rfl ?_
        refine j_get (pc := 49) C gf_Model_161 5 rfl rfl d_Model_beaver_49 ?_
        refine j_iload_n (pc := 52) C d_Model_beaver_52 rfl 0 rfl ?_
        refine j_iald (pc := 53) C 3 rfl (v := u7 iz) (vp_in_nI (by omega) (by decide)) (by rw [nI_clamp (by omega)]) d_Model_beaver_53 ?_
        refine j_icmp_gt (pc := 54) C (tgt := 62) d_Model_beaver_54 (by decide) (fun c29 => ?_) (fun c29 => ?_)
        · refine j_iconst (pc := 62) C (v := (-1)) d_Model_beaver_62 (by decide) ?_
          exact j_iret (pc := 63) C hr rfl (u2, u7) ⟨(by omega), (by omega)⟩ [5, 6, 4, 0, 1, 2, 3] rfl (by decide) (by decide) (by decide) d_Model_beaver_63
        · refine j_iload_n (pc := 57) C d_Model_beaver_57 rfl 1 rfl ?_
          refine j_iconst (pc := 58) C (v := (-1)) d_Model_beaver_58 (by decide) ?_
          refine j_icmp_eq (pc := 59) C (tgt := 64) d_Model_beaver_59 (by decide) (fun c30 => ?_) (fun c30 => ?_)
          · refine j_iload_n (pc := 64) C d_Model_beaver_64 rfl 0 rfl ?_
            refine j_istore_n (pc := 65) C (lv' := [(2, .int (nI iz)), (3, .int (nI iz)), (1, .int r6), (0, .ref mo)]) d_Model_beaver_65 rfl (by decide) rfl ?_
            refine j_iinc (pc := 66) C (v := nI (iz + 1)) (lv' := [(3, .int (nI (iz + 1))), (2, .int (nI iz)), (1, .int r6), (0, .ref mo)]) d_Model_beaver_66 1 rfl (nI_add _ _) (by decide) rfl ?_
            refine j_goto (pc := 69) C (tgt := 18) d_Model_beaver_69 (by decide) ?_
            refine j_sub (ws' := [(ma 0, .inl (y 0, 1600, .inl g0)), MB mo ma (nI u2) i2 i3 i4 i5 i6 i7 i8 i42 i49 i51 i53 i54 i59 i61 i64 i66 (nI t67) i76 i78, (ma 43, .inl (y 0, 8, .inl g43)), (ma 45, .inl (y 0, 14, .inl g45)), (ma 46, .inl (y 0, 108, .inl g46)), (ma 62, .inl (y 0, 63, .inl g62)), (ma 63, .inl (y 0, 9, .inl u7))]) [6, 5, 4, 0, 1, 2, 3] rfl (by decide) ?_
            exact ih23 ((iz + 1), nI iz) (show (iz + 1) ≤ c0 by omega) (show c0 - (iz + 1) < c0 - iz by omega)
          · refine j_iconst (pc := 62) C (v := (-1)) d_Model_beaver_62 (by decide) ?_
            exact j_iret (pc := 63) C hr rfl (u2, u7) ⟨(by omega), (by omega)⟩ [5, 6, 4, 0, 1, 2, 3] rfl (by decide) (by decide) (by decide) d_Model_beaver_63
      · refine j_goto (pc := 40) C (tgt := 66) d_Model_beaver_40 (by decide) ?_
        refine j_iinc (pc := 66) C (v := nI (iz + 1)) (lv' := [(3, .int (nI (iz + 1))), (2, .int z14), (1, .int r6), (0, .ref mo)]) d_Model_beaver_66 0 rfl (nI_add _ _) (by decide) rfl ?_
        refine j_goto (pc := 69) C (tgt := 18) d_Model_beaver_69 (by decide) ?_
        refine j_sub (ws' := [(ma 0, .inl (y 0, 1600, .inl g0)), MB mo ma (nI u2) i2 i3 i4 i5 i6 i7 i8 i42 i49 i51 i53 i54 i59 i61 i64 i66 (nI t67) i76 i78, (ma 43, .inl (y 0, 8, .inl g43)), (ma 45, .inl (y 0, 14, .inl g45)), (ma 46, .inl (y 0, 108, .inl g46)), (ma 62, .inl (y 0, 63, .inl g62)), (ma 63, .inl (y 0, 9, .inl u7))]) [6, 5, 4, 0, 1, 2, 3] rfl (by decide) ?_
        exact ih23 ((iz + 1), z14) (show (iz + 1) ≤ c0 by omega) (show c0 - (iz + 1) < c0 - iz by omega)
  · refine j_iconst (pc := 7) C (v := (-1)) d_Model_beaver_7 (by decide) ?_
    exact j_iret (pc := 8) C hr rfl (u2, g63) ⟨(by omega), (by omega)⟩ [4, 0, 5, 1, 2, 6, 3] rfl (by decide) (by decide) (by decide) d_Model_beaver_8
