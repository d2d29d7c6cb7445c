theorem d_Model_goesOnTest_0 : decode prog_13_method_45_code 0 = .ok (.aload_n 0, 1) := by decide +kernel
theorem d_Model_goesOnTest_1 : decode prog_13_method_45_code 1 = .ok (.getfield 201, 3) := by decide +kernel
theorem d_Model_goesOnTest_4 : decode prog_13_method_45_code 4 = .ok (.ifCond .ne 72, 3) := by decide +kernel
theorem d_Model_goesOnTest_7 : decode prog_13_method_45_code 7 = .ok (.aload_n 0, 1) := by decide +kernel
theorem d_Model_goesOnTest_8 : decode prog_13_method_45_code 8 = .ok (.invokevirtual 213, 3) := by decide +kernel
theorem d_Model_goesOnTest_11 : decode prog_13_method_45_code 11 = .ok (.bipush 93, 2) := by decide +kernel
theorem d_Model_goesOnTest_13 : decode prog_13_method_45_code 13 = .ok (.if_icmp .ne 63, 3) := by decide +kernel
theorem d_Model_goesOnTest_76 : decode prog_13_method_45_code 76 = .ok (.aload_n 0, 1) := by decide +kernel
theorem d_Model_goesOnTest_77 : decode prog_13_method_45_code 77 = .ok (.aload_n 0, 1) := by decide +kernel
theorem d_Model_goesOnTest_78 : decode prog_13_method_45_code 78 = .ok (.getfield 93, 3) := by decide +kernel
theorem d_Model_goesOnTest_81 : decode prog_13_method_45_code 81 = .ok (.invokevirtual 228, 3) := by decide +kernel
theorem d_Model_goesOnTest_84 : decode prog_13_method_45_code 84 = .ok (.ifCond .eq 42, 3) := by decide +kernel
theorem d_Model_goesOnTest_126 : decode prog_13_method_45_code 126 = .ok (.aload_n 0, 1) := by decide +kernel
theorem d_Model_goesOnTest_127 : decode prog_13_method_45_code 127 = .ok (.aload_n 0, 1) := by decide +kernel
theorem d_Model_goesOnTest_128 : decode prog_13_method_45_code 128 = .ok (.getfield 90, 3) := by decide +kernel
theorem d_Model_goesOnTest_131 : decode prog_13_method_45_code 131 = .ok (.invokevirtual 228, 3) := by decide +kernel
theorem d_Model_goesOnTest_134 : decode prog_13_method_45_code 134 = .ok (.ifCond .eq 51, 3) := by decide +kernel
theorem d_Model_goesOnTest_185 : decode prog_13_method_45_code 185 = .ok (.aload_n 0, 1) := by decide +kernel
theorem d_Model_goesOnTest_186 : decode prog_13_method_45_code 186 = .ok (.getfield 201, 3) := by decide +kernel
theorem d_Model_goesOnTest_189 : decode prog_13_method_45_code 189 = .ok (.ifCond .ne 19, 3) := by decide +kernel
theorem d_Model_goesOnTest_192 : decode prog_13_method_45_code 192 = .ok (.aload_n 0, 1) := by decide +kernel
theorem d_Model_goesOnTest_193 : decode prog_13_method_45_code 193 = .ok (.invokevirtual 380, 3) := by decide +kernel
theorem kw_Model_380 : KW "NineBoardsModel" 380 ⟨"NineBoardsModel", "hasSquare", "()Z"⟩ prog_13_method_42_code 2 (some .boolean) 0 := ⟨(mt_7 (List.mem_of_getElem? (i := 15) rfl) rfl), (mt_1 (List.mem_of_getElem? (i := 16) rfl) rfl), (mt_7 (List.mem_of_getElem? (i := 18) rfl) rfl), by decide +kernel⟩
theorem kv_Model_hasSquare : Cond.instanceMethod ⟨"NineBoardsModel", "hasSquare", "()Z"⟩ ∈ TB ∧ Cond.selects "NineBoardsModel" ⟨"NineBoardsModel", "hasSquare", "()Z"⟩ ⟨"NineBoardsModel", "hasSquare", "()Z"⟩ ∈ TB := ⟨(mt_7 (List.mem_of_getElem? (i := 17) rfl) rfl), (ms_0 (List.mem_map.mpr ⟨(⟨"NineBoardsModel", "hasSquare", "()Z"⟩, 79), List.mem_of_getElem? (i := 85) (by decide +kernel), rfl⟩) rfl)⟩
theorem d_Model_goesOnTest_196 : decode prog_13_method_45_code 196 = .ok (.ifCond .eq 12, 3) := by decide +kernel
theorem d_Model_goesOnTest_208 : decode prog_13_method_45_code 208 = .ok (.iconst 0, 1) := by decide +kernel
theorem d_Model_goesOnTest_209 : decode prog_13_method_45_code 209 = .ok (.ireturn, 1) := by decide +kernel
theorem d_Model_goesOnTest_199 : decode prog_13_method_45_code 199 = .ok (.aload_n 0, 1) := by decide +kernel
theorem d_Model_goesOnTest_200 : decode prog_13_method_45_code 200 = .ok (.iconst 1, 1) := by decide +kernel
theorem d_Model_goesOnTest_201 : decode prog_13_method_45_code 201 = .ok (.aload_n 0, 1) := by decide +kernel
theorem d_Model_goesOnTest_202 : decode prog_13_method_45_code 202 = .ok (.getfield 207, 3) := by decide +kernel
theorem d_Model_goesOnTest_205 : decode prog_13_method_45_code 205 = .ok (.invokevirtual 230, 3) := by decide +kernel
theorem d_Model_goesOnTest_137 : decode prog_13_method_45_code 137 = .ok (.aload_n 0, 1) := by decide +kernel
theorem d_Model_goesOnTest_138 : decode prog_13_method_45_code 138 = .ok (.bipush 14, 2) := by decide +kernel
theorem d_Model_goesOnTest_140 : decode prog_13_method_45_code 140 = .ok (.invokevirtual 362, 3) := by decide +kernel
theorem d_Model_goesOnTest_143 : decode prog_13_method_45_code 143 = .ok (.ifCond .ne 12, 3) := by decide +kernel
theorem d_Model_goesOnTest_146 : decode prog_13_method_45_code 146 = .ok (.aload_n 0, 1) := by decide +kernel
theorem d_Model_goesOnTest_147 : decode prog_13_method_45_code 147 = .ok (.bipush 15, 2) := by decide +kernel
theorem d_Model_goesOnTest_149 : decode prog_13_method_45_code 149 = .ok (.invokevirtual 362, 3) := by decide +kernel
theorem d_Model_goesOnTest_152 : decode prog_13_method_45_code 152 = .ok (.ifCond .eq 10, 3) := by decide +kernel
theorem d_Model_goesOnTest_162 : decode prog_13_method_45_code 162 = .ok (.aload_n 0, 1) := by decide +kernel
theorem d_Model_goesOnTest_163 : decode prog_13_method_45_code 163 = .ok (.getfield 139, 3) := by decide +kernel
theorem d_Model_goesOnTest_166 : decode prog_13_method_45_code 166 = .ok (.aload_n 0, 1) := by decide +kernel
theorem d_Model_goesOnTest_167 : decode prog_13_method_45_code 167 = .ok (.getfield 292, 3) := by decide +kernel
theorem d_Model_goesOnTest_170 : decode prog_13_method_45_code 170 = .ok (.bipush 15, 2) := by decide +kernel
theorem d_Model_goesOnTest_172 : decode prog_13_method_45_code 172 = .ok (.iastore, 1) := by decide +kernel
theorem d_Model_goesOnTest_173 : decode prog_13_method_45_code 173 = .ok (.aload_n 0, 1) := by decide +kernel
theorem d_Model_goesOnTest_174 : decode prog_13_method_45_code 174 = .ok (.dup, 1) := by decide +kernel
theorem d_Model_goesOnTest_175 : decode prog_13_method_45_code 175 = .ok (.getfield 292, 3) := by decide +kernel
theorem d_Model_goesOnTest_178 : decode prog_13_method_45_code 178 = .ok (.iconst 1, 1) := by decide +kernel
theorem d_Model_goesOnTest_179 : decode prog_13_method_45_code 179 = .ok (.iadd, 1) := by decide +kernel
theorem d_Model_goesOnTest_180 : decode prog_13_method_45_code 180 = .ok (.putfield 292, 3) := by decide +kernel
theorem d_Model_goesOnTest_183 : decode prog_13_method_45_code 183 = .ok (.iconst 1, 1) := by decide +kernel
theorem d_Model_goesOnTest_184 : decode prog_13_method_45_code 184 = .ok (.ireturn, 1) := by decide +kernel
theorem d_Model_goesOnTest_155 : decode prog_13_method_45_code 155 = .ok (.aload_n 0, 1) := by decide +kernel
theorem d_Model_goesOnTest_156 : decode prog_13_method_45_code 156 = .ok (.invokevirtual 350, 3) := by decide +kernel
theorem d_Model_goesOnTest_159 : decode prog_13_method_45_code 159 = .ok (.goto (-22), 3) := by decide +kernel
theorem d_Model_goesOnTest_87 : decode prog_13_method_45_code 87 = .ok (.aload_n 0, 1) := by decide +kernel
theorem d_Model_goesOnTest_88 : decode prog_13_method_45_code 88 = .ok (.bipush 14, 2) := by decide +kernel
theorem d_Model_goesOnTest_90 : decode prog_13_method_45_code 90 = .ok (.invokevirtual 362, 3) := by decide +kernel
theorem d_Model_goesOnTest_93 : decode prog_13_method_45_code 93 = .ok (.ifCond .eq 10, 3) := by decide +kernel
theorem d_Model_goesOnTest_103 : decode prog_13_method_45_code 103 = .ok (.aload_n 0, 1) := by decide +kernel
theorem d_Model_goesOnTest_104 : decode prog_13_method_45_code 104 = .ok (.getfield 139, 3) := by decide +kernel
theorem d_Model_goesOnTest_107 : decode prog_13_method_45_code 107 = .ok (.aload_n 0, 1) := by decide +kernel
theorem d_Model_goesOnTest_108 : decode prog_13_method_45_code 108 = .ok (.getfield 292, 3) := by decide +kernel
theorem d_Model_goesOnTest_111 : decode prog_13_method_45_code 111 = .ok (.bipush 14, 2) := by decide +kernel
theorem d_Model_goesOnTest_113 : decode prog_13_method_45_code 113 = .ok (.iastore, 1) := by decide +kernel
theorem d_Model_goesOnTest_114 : decode prog_13_method_45_code 114 = .ok (.aload_n 0, 1) := by decide +kernel
theorem d_Model_goesOnTest_115 : decode prog_13_method_45_code 115 = .ok (.dup, 1) := by decide +kernel
theorem d_Model_goesOnTest_116 : decode prog_13_method_45_code 116 = .ok (.getfield 292, 3) := by decide +kernel
theorem d_Model_goesOnTest_119 : decode prog_13_method_45_code 119 = .ok (.iconst 1, 1) := by decide +kernel
theorem d_Model_goesOnTest_120 : decode prog_13_method_45_code 120 = .ok (.iadd, 1) := by decide +kernel
theorem d_Model_goesOnTest_121 : decode prog_13_method_45_code 121 = .ok (.putfield 292, 3) := by decide +kernel
theorem d_Model_goesOnTest_124 : decode prog_13_method_45_code 124 = .ok (.iconst 1, 1) := by decide +kernel
theorem d_Model_goesOnTest_125 : decode prog_13_method_45_code 125 = .ok (.ireturn, 1) := by decide +kernel
theorem d_Model_goesOnTest_96 : decode prog_13_method_45_code 96 = .ok (.aload_n 0, 1) := by decide +kernel
theorem d_Model_goesOnTest_97 : decode prog_13_method_45_code 97 = .ok (.invokevirtual 350, 3) := by decide +kernel
theorem d_Model_goesOnTest_100 : decode prog_13_method_45_code 100 = .ok (.goto (-13), 3) := by decide +kernel
theorem d_Model_goesOnTest_16 : decode prog_13_method_45_code 16 = .ok (.aload_n 0, 1) := by decide +kernel
theorem d_Model_goesOnTest_17 : decode prog_13_method_45_code 17 = .ok (.invokevirtual 380, 3) := by decide +kernel
theorem d_Model_goesOnTest_20 : decode prog_13_method_45_code 20 = .ok (.ifCond .eq 56, 3) := by decide +kernel
theorem d_Model_goesOnTest_23 : decode prog_13_method_45_code 23 = .ok (.aload_n 0, 1) := by decide +kernel
theorem d_Model_goesOnTest_24 : decode prog_13_method_45_code 24 = .ok (.dup, 1) := by decide +kernel
theorem d_Model_goesOnTest_25 : decode prog_13_method_45_code 25 = .ok (.getfield 207, 3) := by decide +kernel
theorem d_Model_goesOnTest_28 : decode prog_13_method_45_code 28 = .ok (.iconst 1, 1) := by decide +kernel
theorem d_Model_goesOnTest_29 : decode prog_13_method_45_code 29 = .ok (.iadd, 1) := by decide +kernel
theorem d_Model_goesOnTest_30 : decode prog_13_method_45_code 30 = .ok (.putfield 207, 3) := by decide +kernel
theorem d_Model_goesOnTest_33 : decode prog_13_method_45_code 33 = .ok (.aload_n 0, 1) := by decide +kernel
theorem d_Model_goesOnTest_34 : decode prog_13_method_45_code 34 = .ok (.bipush 25, 2) := by decide +kernel
theorem d_Model_goesOnTest_36 : decode prog_13_method_45_code 36 = .ok (.invokevirtual 362, 3) := by decide +kernel
theorem d_Model_goesOnTest_39 : decode prog_13_method_45_code 39 = .ok (.ifCond .ne 10, 3) := by decide +kernel
theorem d_Model_goesOnTest_42 : decode prog_13_method_45_code 42 = .ok (.aload_n 0, 1) := by decide +kernel
theorem d_Model_goesOnTest_43 : decode prog_13_method_45_code 43 = .ok (.invokevirtual 350, 3) := by decide +kernel
theorem d_Model_goesOnTest_46 : decode prog_13_method_45_code 46 = .ok (.goto (-13), 3) := by decide +kernel
theorem d_Model_goesOnTest_49 : decode prog_13_method_45_code 49 = .ok (.aload_n 0, 1) := by decide +kernel
theorem d_Model_goesOnTest_50 : decode prog_13_method_45_code 50 = .ok (.dup, 1) := by decide +kernel
theorem d_Model_goesOnTest_51 : decode prog_13_method_45_code 51 = .ok (.getfield 292, 3) := by decide +kernel
theorem d_Model_goesOnTest_54 : decode prog_13_method_45_code 54 = .ok (.iconst 1, 1) := by decide +kernel
theorem d_Model_goesOnTest_55 : decode prog_13_method_45_code 55 = .ok (.isub, 1) := by decide +kernel
theorem d_Model_goesOnTest_56 : decode prog_13_method_45_code 56 = .ok (.putfield 292, 3) := by decide +kernel
theorem d_Model_goesOnTest_59 : decode prog_13_method_45_code 59 = .ok (.aload_n 0, 1) := by decide +kernel
theorem d_Model_goesOnTest_60 : decode prog_13_method_45_code 60 = .ok (.dup, 1) := by decide +kernel
theorem d_Model_goesOnTest_61 : decode prog_13_method_45_code 61 = .ok (.getfield 295, 3) := by decide +kernel
theorem d_Model_goesOnTest_64 : decode prog_13_method_45_code 64 = .ok (.iconst 1, 1) := by decide +kernel
theorem d_Model_goesOnTest_65 : decode prog_13_method_45_code 65 = .ok (.isub, 1) := by decide +kernel
theorem d_Model_goesOnTest_66 : decode prog_13_method_45_code 66 = .ok (.putfield 295, 3) := by decide +kernel
theorem d_Model_goesOnTest_69 : decode prog_13_method_45_code 69 = .ok (.aload_n 0, 1) := by decide +kernel
theorem d_Model_goesOnTest_70 : decode prog_13_method_45_code 70 = .ok (.invokevirtual 374, 3) := by decide +kernel
theorem kw_Model_374 : KW "NineBoardsModel" 374 ⟨"NineBoardsModel", "dropsNots", "()V"⟩ prog_13_method_43_code 1 none 0 := ⟨(mt_7 (List.mem_of_getElem? (i := 7) rfl) rfl), (mt_1 (List.mem_of_getElem? (i := 16) rfl) rfl), (mt_7 (List.mem_of_getElem? (i := 10) rfl) rfl), by decide +kernel⟩
theorem kv_Model_dropsNots : Cond.instanceMethod ⟨"NineBoardsModel", "dropsNots", "()V"⟩ ∈ TB ∧ Cond.selects "NineBoardsModel" ⟨"NineBoardsModel", "dropsNots", "()V"⟩ ⟨"NineBoardsModel", "dropsNots", "()V"⟩ ∈ TB := ⟨(mt_7 (List.mem_of_getElem? (i := 9) rfl) rfl), (ms_0 (List.mem_map.mpr ⟨(⟨"NineBoardsModel", "dropsNots", "()V"⟩, 79), List.mem_of_getElem? (i := 83) (by decide +kernel), rfl⟩) rfl)⟩
theorem d_Model_goesOnTest_73 : decode prog_13_method_45_code 73 = .ok (.goto (-73), 3) := by decide +kernel
set_option maxHeartbeats 4000000 in
set_option maxRecDepth 100000 in
theorem c_M_goesOnTest (l : Launch) (D : va_G) (y : Nat → ClassId) (mo : Nat) (ma : Nat → Nat) (t1 : Nat) (t2 : Nat) (t3 : Nat) (i4 : Int32) (i6 : Int32) (i7 : Int32) (i8 : Int32) (i42 : Int32) (i49 : Int32) (cd : Nat) (wn : Nat) (i54 : Int32) (i59 : Int32) (i61 : Int32) (i64 : Int32) (i66 : Int32) (t67 : Nat) (i76 : Int64) (i78 : Int32) (g0 : Nat → Int32) (g33 : Nat → Int32) (g34 : Nat → Int32) (g50 : Nat → Int32) (g52 : Nat → Int32) (s0 : Nat) (xx : Nat) (kq : Nat) (f0 : Nat → Int32) (ha : t2 ≤ t3) (he : t3 ≤ 1600) (hR : RS kq s0 f0 (xx + 1) 0 g50 g52 cd wn t2) (hTT : ITm g52 wn) (hK : 1 ≤ kq) : CT l D y ⟨"NineBoardsModel", "goesOnTest", "()Z"⟩ prog_13_method_45_code 1 (some .boolean) ({ frames := 3, cells := 0, slots := 0, locals := 64 } : Room) [.ref mo] [MB mo ma (nI t1) (nI t2) (nI t3) i4 0 i6 i7 i8 i42 i49 (nI cd) (nI wn) i54 i59 i61 i64 i66 (nI t67) i76 i78, (ma 0, .inl (y 0, 1600, .inl g0)), (ma 33, .inl (y 3, 2, .inl g33)), (ma 34, .inl (y 3, 3, .inl g34)), (ma 50, .inl (y 0, 3200, .inl g50)), (ma 52, .inl (y 0, 1700, .inl g52))] (QI D [MB mo ma (nI t1) (nI t2) (nI t3) i4 0 i6 i7 i8 i42 i49 (nI cd) (nI wn) i54 i59 i61 i64 i66 (nI t67) i76 i78, (ma 0, .inl (y 0, 1600, .inl g0)), (ma 33, .inl (y 3, 2, .inl g33)), (ma 34, .inl (y 3, 3, .inl g34)), (ma 50, .inl (y 0, 3200, .inl g50)), (ma 52, .inl (y 0, 1700, .inl g52))] (fun (r : Int32) (u : Nat × Int32 × Int32 × Int32 × Nat × Nat × Int32 × (Nat → Int32) × (Nat → Int32)) => t2 ≤ u.1 ∧ u.1 ≤ t3 ∧ (u.2.2.1 = 0 → 0 = 0 ∧ t2 ≤ u.1) ∧ ITm u.2.2.2.2.2.2.2.2 u.2.2.2.2.2.1 ∧ ((r = 1 ∧ u.2.2.1 = 0 ∧ RS kq s0 f0 xx u.2.2.1 u.2.2.2.2.2.2.2.1 u.2.2.2.2.2.2.2.2 u.2.2.2.2.1 u.2.2.2.2.2.1 u.1) ∨ (r = 0 ∧ RS kq s0 f0 (xx + 1) u.2.2.1 u.2.2.2.2.2.2.2.1 u.2.2.2.2.2.2.2.2 u.2.2.2.2.1 u.2.2.2.2.2.1 u.1 ∧ (u.2.2.1 = 0 → NSq u.2.2.2.2.2.2.2.2 u.2.2.2.2.2.1)))) (fun u => [MB mo ma (nI t1) (nI u.1) (nI t3) u.2.1 u.2.2.1 u.2.2.2.1 i7 i8 i42 i49 (nI u.2.2.2.2.1) (nI u.2.2.2.2.2.1) u.2.2.2.2.2.2.1 i59 i61 i64 i66 (nI t67) i76 i78, (ma 0, .inl (y 0, 1600, .inl g0)), (ma 33, .inl (y 3, 2, .inl g33)), (ma 34, .inl (y 3, 3, .inl g34)), (ma 50, .inl (y 0, 3200, .inl u.2.2.2.2.2.2.2.1)), (ma 52, .inl (y 0, 1700, .inl u.2.2.2.2.2.2.2.2))])) := by
  refine CT.of (by decide) (nb rfl) ?_
  intro p e s m args below meth c C hr
  refine j_lv (lv' := [(0, .ref mo)]) rfl ?_
  refine j_loop (α := Nat × Nat × Nat × (Nat → Int32) × Int32) (fun a => t3 - a.1) (fun a => (a.1 ≤ t3) ∧ (t2 ≤ a.1) ∧ (a.2.2.1 ≤ wn) ∧ (RS kq s0 f0 (xx + 1) 0 a.2.2.2.1 g52 a.2.1 a.2.2.1 a.1)) (fun a => [MB mo ma (nI t1) (nI a.1) (nI t3) i4 0 i6 i7 i8 i42 i49 (nI a.2.1) (nI a.2.2.1) a.2.2.2.2 i59 i61 i64 i66 (nI t67) i76 i78, (ma 0, .inl (y 0, 1600, .inl g0)), (ma 33, .inl (y 3, 2, .inl g33)), (ma 34, .inl (y 3, 3, .inl g34)), (ma 50, .inl (y 0, 3200, .inl a.2.2.2.1)), (ma 52, .inl (y 0, 1700, .inl g52))]) (fun a => [(0, .ref mo)]) (t2, cd, wn, g50, i54) rfl rfl ⟨ha, (show t2 ≤ t2 by omega), (show wn ≤ wn by omega), hR⟩ ?_
  rintro ⟨az, zc, zn, zf, z197⟩ hP394 ih395
  obtain ⟨hz__, hy__, hn__, hR__⟩ := hP394
  have hz_ : az ≤ t3 := hz__
  have hy_ : t2 ≤ az := hy__
  have hn_ : zn ≤ wn := hn__
  have hR_ : RS kq s0 f0 (xx + 1) 0 zf g52 zc zn az := hR__
  refine j_ws (ws' := [MB mo ma (nI t1) (nI az) (nI t3) i4 0 i6 i7 i8 i42 i49 (nI zc) (nI zn) z197 i59 i61 i64 i66 (nI t67) i76 i78, (ma 0, .inl (y 0, 1600, .inl g0)), (ma 33, .inl (y 3, 2, .inl g33)), (ma 34, .inl (y 3, 3, .inl g34)), (ma 50, .inl (y 0, 3200, .inl zf)), (ma 52, .inl (y 0, 1700, .inl g52))]) rfl ?_
  refine j_lv (lv' := [(0, .ref mo)]) rfl ?_
  have hac := rs_ac3 hR_
  refine j_aload_n (pc := 0) C d_Model_goesOnTest_0 rfl 0 rfl ?_
  refine j_get (pc := 1) C gf_Model_201 0 rfl rfl d_Model_goesOnTest_1 ?_
  refine j_if_neF (pc := 4) C (tgt := 76) d_Model_goesOnTest_4 (by decide) (by decide) ?_
  refine j_aload_n (pc := 7) C d_Model_goesOnTest_7 rfl 0 rfl ?_
  refine j_callVi (pc := 8) C (c_M_look l D y mo ma t1 az t3 i4 0 i6 i7 i8 i42 i49 (nI zc) (nI zn) z197 i59 i61 i64 i66 t67 i76 i78 g0 hz_ he) kw_Model_213 kv_Model_look 0 10 rfl rfl ⟨by decide, by decide⟩ ⟨by decide, by decide⟩ (wr := [(ma 33, .inl (y 3, 2, .inl g33)), (ma 34, .inl (y 3, 3, .inl g34)), (ma 50, .inl (y 0, 3200, .inl zf)), (ma 52, .inl (y 0, 1700, .inl g52))]) [0, 1] [2, 3, 4, 5] rfl rfl (by decide) (by decide) (by decide) (As := []) (rest := []) rfl (nb rfl) rfl d_Model_goesOnTest_8 (fun r396 u397 hr396 => ?_)
  refine j_ws (ws' := [(ma 33, .inl (y 3, 2, .inl g33)), (ma 34, .inl (y 3, 3, .inl g34)), (ma 50, .inl (y 0, 3200, .inl zf)), (ma 52, .inl (y 0, 1700, .inl g52)), MB mo ma (nI t1) (nI u397) (nI t3) i4 0 i6 i7 i8 i42 i49 (nI zc) (nI zn) z197 i59 i61 i64 i66 (nI t67) i76 i78, (ma 0, .inl (y 0, 1600, .inl g0))]) rfl ?_
  obtain ⟨xh398, xh399, xh400⟩ := hr396
  rcases xh400 with rfl | ⟨xh401, e402⟩
  · refine j_bipush (pc := 11) C (v := 93) d_Model_goesOnTest_11 (by decide) ?_
    refine j_icmp_neT (pc := 13) C (tgt := 76) d_Model_goesOnTest_13 (by decide) (by decide) ?_
    refine j_aload_n (pc := 76) C d_Model_goesOnTest_76 rfl 0 rfl ?_
    refine j_aload_n (pc := 77) C d_Model_goesOnTest_77 rfl 0 rfl ?_
    refine j_get (pc := 78) C gf_Model_93 4 rfl rfl d_Model_goesOnTest_78 ?_
    refine j_callVi (pc := 81) C (c_M_takes_3 l D y mo (ma 34) ma t1 u397 t3 i4 0 i6 i7 i8 i42 i49 (nI zc) (nI zn) z197 i59 i61 i64 i66 t67 i76 i78 g0 g34 xh399 he) kw_Model_228 kv_Model_takes 0 10 rfl rfl ⟨by decide, by decide⟩ ⟨by decide, by decide⟩ (wr := [(ma 33, .inl (y 3, 2, .inl g33)), (ma 50, .inl (y 0, 3200, .inl zf)), (ma 52, .inl (y 0, 1700, .inl g52))]) [4, 5, 1] [0, 2, 3] rfl rfl (by decide) (by decide) (by decide) (As := [.ref (ma 34)]) (rest := []) rfl (nb rfl) rfl d_Model_goesOnTest_81 (fun r403 u404 hr403 => ?_)
    refine j_ws (ws' := [(ma 33, .inl (y 3, 2, .inl g33)), (ma 50, .inl (y 0, 3200, .inl zf)), (ma 52, .inl (y 0, 1700, .inl g52)), MB mo ma (nI t1) (nI u404.1) (nI t3) u404.2 0 i6 i7 i8 i42 i49 (nI zc) (nI zn) z197 i59 i61 i64 i66 (nI t67) i76 i78, (ma 0, .inl (y 0, 1600, .inl g0)), (ma 34, .inl (y 3, 3, .inl g34))]) rfl ?_
    obtain ⟨xh405, xh406, xh407⟩ := hr403
    rcases xh407 with rfl | ⟨rfl, xh408⟩
    · refine j_if_eqT (pc := 84) C (tgt := 126) d_Model_goesOnTest_84 (by decide) (by decide) ?_
      refine j_aload_n (pc := 126) C d_Model_goesOnTest_126 rfl 0 rfl ?_
      refine j_aload_n (pc := 127) C d_Model_goesOnTest_127 rfl 0 rfl ?_
      refine j_get (pc := 128) C gf_Model_90 3 rfl rfl d_Model_goesOnTest_128 ?_
      refine j_callVi (pc := 131) C (c_M_takes_2 l D y mo (ma 33) ma t1 u404.1 t3 u404.2 0 i6 i7 i8 i42 i49 (nI zc) (nI zn) z197 i59 i61 i64 i66 t67 i76 i78 g0 g33 xh406 he) kw_Model_228 kv_Model_takes 0 10 rfl rfl ⟨by decide, by decide⟩ ⟨by decide, by decide⟩ (wr := [(ma 50, .inl (y 0, 3200, .inl zf)), (ma 52, .inl (y 0, 1700, .inl g52)), (ma 34, .inl (y 3, 3, .inl g34))]) [3, 4, 0] [1, 2, 5] rfl rfl (by decide) (by decide) (by decide) (As := [.ref (ma 33)]) (rest := []) rfl (nb rfl) rfl d_Model_goesOnTest_131 (fun r409 u410 hr409 => ?_)
      refine j_ws (ws' := [(ma 50, .inl (y 0, 3200, .inl zf)), (ma 52, .inl (y 0, 1700, .inl g52)), (ma 34, .inl (y 3, 3, .inl g34)), MB mo ma (nI t1) (nI u410.1) (nI t3) u410.2 0 i6 i7 i8 i42 i49 (nI zc) (nI zn) z197 i59 i61 i64 i66 (nI t67) i76 i78, (ma 0, .inl (y 0, 1600, .inl g0)), (ma 33, .inl (y 3, 2, .inl g33))]) rfl ?_
      obtain ⟨xh411, xh412, xh413⟩ := hr409
      rcases xh413 with rfl | ⟨rfl, xh414⟩
      · refine j_if_eqT (pc := 134) C (tgt := 185) d_Model_goesOnTest_134 (by decide) (by decide) ?_
        refine j_aload_n (pc := 185) C d_Model_goesOnTest_185 rfl 0 rfl ?_
        refine j_get (pc := 186) C gf_Model_201 3 rfl rfl d_Model_goesOnTest_186 ?_
        refine j_if_neF (pc := 189) C (tgt := 208) d_Model_goesOnTest_189 (by decide) (by decide) ?_
        refine j_aload_n (pc := 192) C d_Model_goesOnTest_192 rfl 0 rfl ?_
        refine j_callVi (pc := 193) C (c_M_hasSquare l D y mo ma t1 u410.1 t3 u410.2 0 i6 i7 i8 i42 i49 (nI zc) zn z197 i59 i61 i64 i66 t67 i76 i78 g52 (by omega)) kw_Model_380 kv_Model_hasSquare 0 10 rfl rfl ⟨by decide, by decide⟩ ⟨by decide, by decide⟩ (wr := [(ma 50, .inl (y 0, 3200, .inl zf)), (ma 34, .inl (y 3, 3, .inl g34)), (ma 0, .inl (y 0, 1600, .inl g0)), (ma 33, .inl (y 3, 2, .inl g33))]) [3, 1] [0, 2, 4, 5] rfl rfl (by decide) (by decide) (by decide) (As := []) (rest := []) rfl (nb rfl) rfl d_Model_goesOnTest_193 (fun r415 _ hr415 => ?_)
        refine j_ws (ws' := [(ma 50, .inl (y 0, 3200, .inl zf)), (ma 34, .inl (y 3, 3, .inl g34)), (ma 0, .inl (y 0, 1600, .inl g0)), (ma 33, .inl (y 3, 2, .inl g33)), MB mo ma (nI t1) (nI u410.1) (nI t3) u410.2 0 i6 i7 i8 i42 i49 (nI zc) (nI zn) z197 i59 i61 i64 i66 (nI t67) i76 i78, (ma 52, .inl (y 0, 1700, .inl g52))]) rfl ?_
        rcases hr415 with ⟨rfl, xh417⟩ | ⟨rfl, xh418⟩
        · refine j_if_eqT (pc := 196) C (tgt := 208) d_Model_goesOnTest_196 (by decide) (by decide) ?_
          refine j_iconst (pc := 208) C (v := 0) d_Model_goesOnTest_208 (by decide) ?_
          exact j_iret (pc := 209) C hr (by decide) (u410.1, u410.2, 0, i6, zc, zn, z197, zf, g52) ⟨(show t2 ≤ u410.1 by omega), (show u410.1 ≤ t3 by omega), (fun _ => ⟨rfl, show t2 ≤ u410.1 by omega⟩), (it_le hTT (by omega)), (Or.inr ⟨rfl, (rs_at hR_ (show az ≤ u410.1 by omega)), (fun _ => xh417)⟩)⟩ [4, 2, 3, 1, 0, 5] rfl (by decide) (by decide) (by decide) d_Model_goesOnTest_209
        · refine j_if_eqF (pc := 196) C (tgt := 208) d_Model_goesOnTest_196 (by decide) (by decide) ?_
          refine j_aload_n (pc := 199) C d_Model_goesOnTest_199 rfl 0 rfl ?_
          refine j_iconst (pc := 200) C (v := 1) d_Model_goesOnTest_200 (by decide) ?_
          refine j_aload_n (pc := 201) C d_Model_goesOnTest_201 rfl 0 rfl ?_
          refine j_get (pc := 202) C gf_Model_207 4 rfl rfl d_Model_goesOnTest_202 ?_
          refine j_callVv (pc := 205) C (c_M_fail l D y mo ma t1 u410.1 t3 u410.2 0 i6 i7 i8 i42 i49 (nI zc) (nI zn) z197 i59 i61 i64 i66 t67 i76 i78 1 (nI u410.1) (by decide)) kw_Model_230 kv_Model_fail 0 10 rfl rfl ⟨by decide, by decide⟩ ⟨by decide, by decide⟩ (wr := [(ma 50, .inl (y 0, 3200, .inl zf)), (ma 34, .inl (y 3, 3, .inl g34)), (ma 0, .inl (y 0, 1600, .inl g0)), (ma 33, .inl (y 3, 2, .inl g33)), (ma 52, .inl (y 0, 1700, .inl g52))]) [4] [0, 1, 2, 3, 5] rfl rfl (by decide) (by decide) (by decide) (As := [.int 1, .int (nI u410.1)]) (rest := []) rfl (nb rfl) rfl d_Model_goesOnTest_205 (fun u419 hu420 => ?_)
          have xh421 := hu420
          refine j_ws (ws' := [(ma 50, .inl (y 0, 3200, .inl zf)), (ma 34, .inl (y 3, 3, .inl g34)), (ma 0, .inl (y 0, 1600, .inl g0)), (ma 33, .inl (y 3, 2, .inl g33)), (ma 52, .inl (y 0, 1700, .inl g52)), MB mo ma (nI t1) (nI u410.1) (nI t3) u410.2 u419.1 u419.2 i7 i8 i42 i49 (nI zc) (nI zn) z197 i59 i61 i64 i66 (nI t67) i76 i78]) rfl ?_
          refine j_iconst (pc := 208) C (v := 0) d_Model_goesOnTest_208 (by decide) ?_
          have xh422 : RS kq s0 f0 (xx + 1) u419.1 zf g52 zc zn az := rs_bad hR_ xh421
          exact j_iret (pc := 209) C hr (by decide) (u410.1, u410.2, u419.1, u419.2, zc, zn, z197, zf, g52) ⟨(show t2 ≤ u410.1 by omega), (show u410.1 ≤ t3 by omega), (fun _ => ⟨rfl, show t2 ≤ u410.1 by omega⟩), (it_le hTT (by omega)), (Or.inr ⟨rfl, (rs_at xh422 (show az ≤ u410.1 by omega)), (fun e => absurd e xh421)⟩)⟩ [5, 2, 3, 1, 0, 4] rfl (by decide) (by decide) (by decide) d_Model_goesOnTest_209
      · refine j_if_eqF (pc := 134) C (tgt := 185) d_Model_goesOnTest_134 (by decide) (by decide) ?_
        refine j_loop (α := Nat × Nat × (Nat → Int32)) (fun a => a.2.1) (fun a => (a.2.1 ≤ zn) ∧ (RS kq s0 f0 (xx + 1) 0 a.2.2 g52 a.1 a.2.1 az)) (fun a => [(ma 50, .inl (y 0, 3200, .inl a.2.2)), (ma 52, .inl (y 0, 1700, .inl g52)), (ma 34, .inl (y 3, 3, .inl g34)), MB mo ma (nI t1) (nI u410.1) (nI t3) u410.2 0 i6 i7 i8 i42 i49 (nI a.1) (nI a.2.1) z197 i59 i61 i64 i66 (nI t67) i76 i78, (ma 0, .inl (y 0, 1600, .inl g0)), (ma 33, .inl (y 3, 2, .inl g33))]) (fun a => [(0, .ref mo)]) (zc, zn, zf) rfl rfl ⟨(show zn ≤ zn by omega), hR_⟩ ?_
        rintro ⟨yc, yn, yf⟩ hP433 ih434
        obtain ⟨hny__, hRy__⟩ := hP433
        have hny_ : yn ≤ zn := hny__
        have hRy_ : RS kq s0 f0 (xx + 1) 0 yf g52 yc yn az := hRy__
        refine j_ws (ws' := [(ma 50, .inl (y 0, 3200, .inl yf)), (ma 52, .inl (y 0, 1700, .inl g52)), (ma 34, .inl (y 3, 3, .inl g34)), MB mo ma (nI t1) (nI u410.1) (nI t3) u410.2 0 i6 i7 i8 i42 i49 (nI yc) (nI yn) z197 i59 i61 i64 i66 (nI t67) i76 i78, (ma 0, .inl (y 0, 1600, .inl g0)), (ma 33, .inl (y 3, 2, .inl g33))]) rfl ?_
        refine j_lv (lv' := [(0, .ref mo)]) rfl ?_
        have hacy := rs_ac3 hRy_
        refine j_aload_n (pc := 137) C d_Model_goesOnTest_137 rfl 0 rfl ?_
        refine j_bipush (pc := 138) C (v := 14) d_Model_goesOnTest_138 (by decide) ?_
        refine j_callVi (pc := 140) C (c_M_isOn l D y mo ma t1 u410.1 t3 u410.2 0 i6 i7 i8 i42 i49 (nI yc) yn z197 i59 i61 i64 i66 t67 i76 i78 g52 14 (by omega)) kw_Model_362 kv_Model_isOn 0 10 rfl rfl ⟨by decide, by decide⟩ ⟨by decide, by decide⟩ (wr := [(ma 50, .inl (y 0, 3200, .inl yf)), (ma 34, .inl (y 3, 3, .inl g34)), (ma 0, .inl (y 0, 1600, .inl g0)), (ma 33, .inl (y 3, 2, .inl g33))]) [3, 1] [0, 2, 4, 5] rfl rfl (by decide) (by decide) (by decide) (As := [.int 14]) (rest := []) rfl (nb rfl) rfl d_Model_goesOnTest_140 (fun r435 _ hr435 => ?_)
        refine j_ws (ws' := [(ma 50, .inl (y 0, 3200, .inl yf)), (ma 34, .inl (y 3, 3, .inl g34)), (ma 0, .inl (y 0, 1600, .inl g0)), (ma 33, .inl (y 3, 2, .inl g33)), MB mo ma (nI t1) (nI u410.1) (nI t3) u410.2 0 i6 i7 i8 i42 i49 (nI yc) (nI yn) z197 i59 i61 i64 i66 (nI t67) i76 i78, (ma 52, .inl (y 0, 1700, .inl g52))]) rfl ?_
        rcases hr435 with ⟨rfl, xh437⟩ | ⟨rfl, xh438, e439⟩
        · refine j_if_neF (pc := 143) C (tgt := 155) d_Model_goesOnTest_143 (by decide) (by decide) ?_
          refine j_aload_n (pc := 146) C d_Model_goesOnTest_146 rfl 0 rfl ?_
          refine j_bipush (pc := 147) C (v := 15) d_Model_goesOnTest_147 (by decide) ?_
          refine j_callVi (pc := 149) C (c_M_isOn l D y mo ma t1 u410.1 t3 u410.2 0 i6 i7 i8 i42 i49 (nI yc) yn z197 i59 i61 i64 i66 t67 i76 i78 g52 15 (by omega)) kw_Model_362 kv_Model_isOn 0 10 rfl rfl ⟨by decide, by decide⟩ ⟨by decide, by decide⟩ (wr := [(ma 50, .inl (y 0, 3200, .inl yf)), (ma 34, .inl (y 3, 3, .inl g34)), (ma 0, .inl (y 0, 1600, .inl g0)), (ma 33, .inl (y 3, 2, .inl g33))]) [4, 5] [0, 1, 2, 3] rfl rfl (by decide) (by decide) (by decide) (As := [.int 15]) (rest := []) rfl (nb rfl) rfl d_Model_goesOnTest_149 (fun r440 _ hr440 => ?_)
          refine j_ws (ws' := [(ma 50, .inl (y 0, 3200, .inl yf)), (ma 34, .inl (y 3, 3, .inl g34)), (ma 0, .inl (y 0, 1600, .inl g0)), (ma 33, .inl (y 3, 2, .inl g33)), MB mo ma (nI t1) (nI u410.1) (nI t3) u410.2 0 i6 i7 i8 i42 i49 (nI yc) (nI yn) z197 i59 i61 i64 i66 (nI t67) i76 i78, (ma 52, .inl (y 0, 1700, .inl g52))]) rfl ?_
          rcases hr440 with ⟨rfl, xh442⟩ | ⟨rfl, xh443, e444⟩
          · refine j_if_eqT (pc := 152) C (tgt := 162) d_Model_goesOnTest_152 (by decide) (by decide) ?_
            refine j_aload_n (pc := 162) C d_Model_goesOnTest_162 rfl 0 rfl ?_
            refine j_get (pc := 163) C gf_Model_139 4 rfl rfl d_Model_goesOnTest_163 ?_
            refine j_aload_n (pc := 166) C d_Model_goesOnTest_166 rfl 0 rfl ?_
            refine j_get (pc := 167) C gf_Model_292 4 rfl rfl d_Model_goesOnTest_167 ?_
            refine j_bipush (pc := 170) C (v := 15) d_Model_goesOnTest_170 (by decide) ?_
            refine j_iast (pc := 172) C 5 rfl (ws' := [(ma 50, .inl (y 0, 3200, .inl yf)), (ma 34, .inl (y 3, 3, .inl g34)), (ma 0, .inl (y 0, 1600, .inl g0)), (ma 33, .inl (y 3, 2, .inl g33)), MB mo ma (nI t1) (nI u410.1) (nI t3) u410.2 0 i6 i7 i8 i42 i49 (nI yc) (nI yn) z197 i59 i61 i64 i66 (nI t67) i76 i78, (ma 52, .inl (y 0, 1700, .inl (upd g52 yn 15)))]) (vp_in_nI (by omega) (by decide)) (by rw [nI_clamp (by omega)]; rfl) d_Model_goesOnTest_172 ?_
            refine j_aload_n (pc := 173) C d_Model_goesOnTest_173 rfl 0 rfl ?_
            refine j_dup (pc := 174) C d_Model_goesOnTest_174 rfl ?_
            refine j_get (pc := 175) C gf_Model_292 4 rfl rfl d_Model_goesOnTest_175 ?_
            refine j_iconst (pc := 178) C (v := 1) d_Model_goesOnTest_178 (by decide) ?_
            refine j_iadd (pc := 179) C (v := nI (yn + 1)) d_Model_goesOnTest_179 (nI_add _ _) ?_
            refine j_put (pc := 180) C pf_Model_292 4 (ws' := [(ma 50, .inl (y 0, 3200, .inl yf)), (ma 34, .inl (y 3, 3, .inl g34)), (ma 0, .inl (y 0, 1600, .inl g0)), (ma 33, .inl (y 3, 2, .inl g33)), MB mo ma (nI t1) (nI u410.1) (nI t3) u410.2 0 i6 i7 i8 i42 i49 (nI yc) (nI (yn + 1)) z197 i59 i61 i64 i66 (nI t67) i76 i78, (ma 52, .inl (y 0, 1700, .inl (upd g52 yn 15)))]) rfl rfl rfl (nl rfl) rfl d_Model_goesOnTest_180 ?_
            refine j_iconst (pc := 183) C (v := 1) d_Model_goesOnTest_183 (by decide) ?_
            exact j_iret (pc := 184) C hr (by decide) (u410.1, u410.2, 0, i6, yc, (yn + 1), z197, yf, (upd g52 yn 15)) ⟨(show t2 ≤ u410.1 by omega), (show u410.1 ≤ t3 by omega), (fun _ => ⟨rfl, show t2 ≤ u410.1 by omega⟩), (it_push (it_le hTT (show yn ≤ wn by omega)) (by decide)), (Or.inl ⟨rfl, rfl, rs_op hRy_ (by decide) (show az < u410.1 by omega)⟩)⟩ [4, 2, 3, 1, 0, 5] rfl (by decide) (by decide) (by decide) d_Model_goesOnTest_184
          · refine j_if_eqF (pc := 152) C (tgt := 162) d_Model_goesOnTest_152 (by decide) (by decide) ?_
            refine j_aload_n (pc := 155) C d_Model_goesOnTest_155 rfl 0 rfl ?_
            refine j_callVv (pc := 156) C (c_M_drops l D y mo ma t1 u410.1 t3 u410.2 0 i6 i7 i8 i42 i49 yc yn z197 i59 i61 i64 i66 t67 i76 i78 yf g52 (by omega) (by omega) (by omega)) kw_Model_350 kv_Model_drops 0 10 rfl rfl ⟨by decide, by decide⟩ ⟨by decide, by decide⟩ (wr := [(ma 34, .inl (y 3, 3, .inl g34)), (ma 0, .inl (y 0, 1600, .inl g0)), (ma 33, .inl (y 3, 2, .inl g33))]) [4, 0, 5] [1, 2, 3] rfl rfl (by decide) (by decide) (by decide) (As := []) (rest := []) rfl (nb rfl) rfl d_Model_goesOnTest_156 (fun _ _ => ?_)
            refine j_ws (ws' := [(ma 34, .inl (y 3, 3, .inl g34)), (ma 0, .inl (y 0, 1600, .inl g0)), (ma 33, .inl (y 3, 2, .inl g33)), MB mo ma (nI t1) (nI u410.1) (nI t3) u410.2 0 i6 i7 i8 i42 i49 (nI (yc + 1)) (nI (yn - 1)) z197 i59 i61 i64 i66 (nI t67) i76 i78, (ma 50, .inl (y 0, 3200, .inl (upd yf yc (g52 (yn - 1))))), (ma 52, .inl (y 0, 1700, .inl g52))]) rfl ?_
            refine j_goto (pc := 159) C (tgt := 137) d_Model_goesOnTest_159 (by decide) ?_
            refine j_sub (ws' := [(ma 50, .inl (y 0, 3200, .inl (upd yf yc (g52 (yn - 1))))), (ma 52, .inl (y 0, 1700, .inl g52)), (ma 34, .inl (y 3, 3, .inl g34)), MB mo ma (nI t1) (nI u410.1) (nI t3) u410.2 0 i6 i7 i8 i42 i49 (nI (yc + 1)) (nI (yn - 1)) z197 i59 i61 i64 i66 (nI t67) i76 i78, (ma 0, .inl (y 0, 1600, .inl g0)), (ma 33, .inl (y 3, 2, .inl g33))]) [4, 5, 0, 3, 1, 2] rfl (by decide) ?_
            exact ih434 ((yc + 1), (yn - 1), (upd yf yc (g52 (yn - 1)))) ⟨(show (yn - 1) ≤ zn by omega), (show RS kq s0 f0 (xx + 1) 0 (upd yf yc (g52 (yn - 1))) g52 (yc + 1) (yn - 1) az from rs_drop hRy_ (by omega) (show yn = yn - 1 + 1 by omega) (Or.inr (by rw [e444]; decide)))⟩ (show (yn - 1) < yn by omega)
        · refine j_if_neT (pc := 143) C (tgt := 155) d_Model_goesOnTest_143 (by decide) (by decide) ?_
          refine j_aload_n (pc := 155) C d_Model_goesOnTest_155 rfl 0 rfl ?_
          refine j_callVv (pc := 156) C (c_M_drops l D y mo ma t1 u410.1 t3 u410.2 0 i6 i7 i8 i42 i49 yc yn z197 i59 i61 i64 i66 t67 i76 i78 yf g52 (by omega) (by omega) (by omega)) kw_Model_350 kv_Model_drops 0 10 rfl rfl ⟨by decide, by decide⟩ ⟨by decide, by decide⟩ (wr := [(ma 34, .inl (y 3, 3, .inl g34)), (ma 0, .inl (y 0, 1600, .inl g0)), (ma 33, .inl (y 3, 2, .inl g33))]) [4, 0, 5] [1, 2, 3] rfl rfl (by decide) (by decide) (by decide) (As := []) (rest := []) rfl (nb rfl) rfl d_Model_goesOnTest_156 (fun _ _ => ?_)
          refine j_ws (ws' := [(ma 34, .inl (y 3, 3, .inl g34)), (ma 0, .inl (y 0, 1600, .inl g0)), (ma 33, .inl (y 3, 2, .inl g33)), MB mo ma (nI t1) (nI u410.1) (nI t3) u410.2 0 i6 i7 i8 i42 i49 (nI (yc + 1)) (nI (yn - 1)) z197 i59 i61 i64 i66 (nI t67) i76 i78, (ma 50, .inl (y 0, 3200, .inl (upd yf yc (g52 (yn - 1))))), (ma 52, .inl (y 0, 1700, .inl g52))]) rfl ?_
          refine j_goto (pc := 159) C (tgt := 137) d_Model_goesOnTest_159 (by decide) ?_
          refine j_sub (ws' := [(ma 50, .inl (y 0, 3200, .inl (upd yf yc (g52 (yn - 1))))), (ma 52, .inl (y 0, 1700, .inl g52)), (ma 34, .inl (y 3, 3, .inl g34)), MB mo ma (nI t1) (nI u410.1) (nI t3) u410.2 0 i6 i7 i8 i42 i49 (nI (yc + 1)) (nI (yn - 1)) z197 i59 i61 i64 i66 (nI t67) i76 i78, (ma 0, .inl (y 0, 1600, .inl g0)), (ma 33, .inl (y 3, 2, .inl g33))]) [4, 5, 0, 3, 1, 2] rfl (by decide) ?_
          exact ih434 ((yc + 1), (yn - 1), (upd yf yc (g52 (yn - 1)))) ⟨(show (yn - 1) ≤ zn by omega), (show RS kq s0 f0 (xx + 1) 0 (upd yf yc (g52 (yn - 1))) g52 (yc + 1) (yn - 1) az from rs_drop hRy_ (by omega) (show yn = yn - 1 + 1 by omega) (Or.inr (by rw [e439]; decide)))⟩ (show (yn - 1) < yn by omega)
    · refine j_if_eqF (pc := 84) C (tgt := 126) d_Model_goesOnTest_84 (by decide) (by decide) ?_
      refine j_loop (α := Nat × Nat × (Nat → Int32)) (fun a => a.2.1) (fun a => (a.2.1 ≤ zn) ∧ (RS kq s0 f0 (xx + 1) 0 a.2.2 g52 a.1 a.2.1 az)) (fun a => [(ma 33, .inl (y 3, 2, .inl g33)), (ma 50, .inl (y 0, 3200, .inl a.2.2)), (ma 52, .inl (y 0, 1700, .inl g52)), MB mo ma (nI t1) (nI u404.1) (nI t3) u404.2 0 i6 i7 i8 i42 i49 (nI a.1) (nI a.2.1) z197 i59 i61 i64 i66 (nI t67) i76 i78, (ma 0, .inl (y 0, 1600, .inl g0)), (ma 34, .inl (y 3, 3, .inl g34))]) (fun a => [(0, .ref mo)]) (zc, zn, zf) rfl rfl ⟨(show zn ≤ zn by omega), hR_⟩ ?_
      rintro ⟨yc, yn, yf⟩ hP450 ih451
      obtain ⟨hny__, hRy__⟩ := hP450
      have hny_ : yn ≤ zn := hny__
      have hRy_ : RS kq s0 f0 (xx + 1) 0 yf g52 yc yn az := hRy__
      refine j_ws (ws' := [(ma 33, .inl (y 3, 2, .inl g33)), (ma 50, .inl (y 0, 3200, .inl yf)), (ma 52, .inl (y 0, 1700, .inl g52)), MB mo ma (nI t1) (nI u404.1) (nI t3) u404.2 0 i6 i7 i8 i42 i49 (nI yc) (nI yn) z197 i59 i61 i64 i66 (nI t67) i76 i78, (ma 0, .inl (y 0, 1600, .inl g0)), (ma 34, .inl (y 3, 3, .inl g34))]) rfl ?_
      refine j_lv (lv' := [(0, .ref mo)]) rfl ?_
      have hacy := rs_ac3 hRy_
      refine j_aload_n (pc := 87) C d_Model_goesOnTest_87 rfl 0 rfl ?_
      refine j_bipush (pc := 88) C (v := 14) d_Model_goesOnTest_88 (by decide) ?_
      refine j_callVi (pc := 90) C (c_M_isOn l D y mo ma t1 u404.1 t3 u404.2 0 i6 i7 i8 i42 i49 (nI yc) yn z197 i59 i61 i64 i66 t67 i76 i78 g52 14 (by omega)) kw_Model_362 kv_Model_isOn 0 10 rfl rfl ⟨by decide, by decide⟩ ⟨by decide, by decide⟩ (wr := [(ma 33, .inl (y 3, 2, .inl g33)), (ma 50, .inl (y 0, 3200, .inl yf)), (ma 0, .inl (y 0, 1600, .inl g0)), (ma 34, .inl (y 3, 3, .inl g34))]) [3, 2] [0, 1, 4, 5] rfl rfl (by decide) (by decide) (by decide) (As := [.int 14]) (rest := []) rfl (nb rfl) rfl d_Model_goesOnTest_90 (fun r452 _ hr452 => ?_)
      refine j_ws (ws' := [(ma 33, .inl (y 3, 2, .inl g33)), (ma 50, .inl (y 0, 3200, .inl yf)), (ma 0, .inl (y 0, 1600, .inl g0)), (ma 34, .inl (y 3, 3, .inl g34)), MB mo ma (nI t1) (nI u404.1) (nI t3) u404.2 0 i6 i7 i8 i42 i49 (nI yc) (nI yn) z197 i59 i61 i64 i66 (nI t67) i76 i78, (ma 52, .inl (y 0, 1700, .inl g52))]) rfl ?_
      rcases hr452 with ⟨rfl, xh454⟩ | ⟨rfl, xh455, e456⟩
      · refine j_if_eqT (pc := 93) C (tgt := 103) d_Model_goesOnTest_93 (by decide) (by decide) ?_
        refine j_aload_n (pc := 103) C d_Model_goesOnTest_103 rfl 0 rfl ?_
        refine j_get (pc := 104) C gf_Model_139 4 rfl rfl d_Model_goesOnTest_104 ?_
        refine j_aload_n (pc := 107) C d_Model_goesOnTest_107 rfl 0 rfl ?_
        refine j_get (pc := 108) C gf_Model_292 4 rfl rfl d_Model_goesOnTest_108 ?_
        refine j_bipush (pc := 111) C (v := 14) d_Model_goesOnTest_111 (by decide) ?_
        refine j_iast (pc := 113) C 5 rfl (ws' := [(ma 33, .inl (y 3, 2, .inl g33)), (ma 50, .inl (y 0, 3200, .inl yf)), (ma 0, .inl (y 0, 1600, .inl g0)), (ma 34, .inl (y 3, 3, .inl g34)), MB mo ma (nI t1) (nI u404.1) (nI t3) u404.2 0 i6 i7 i8 i42 i49 (nI yc) (nI yn) z197 i59 i61 i64 i66 (nI t67) i76 i78, (ma 52, .inl (y 0, 1700, .inl (upd g52 yn 14)))]) (vp_in_nI (by omega) (by decide)) (by rw [nI_clamp (by omega)]; rfl) d_Model_goesOnTest_113 ?_
        refine j_aload_n (pc := 114) C d_Model_goesOnTest_114 rfl 0 rfl ?_
        refine j_dup (pc := 115) C d_Model_goesOnTest_115 rfl ?_
        refine j_get (pc := 116) C gf_Model_292 4 rfl rfl d_Model_goesOnTest_116 ?_
        refine j_iconst (pc := 119) C (v := 1) d_Model_goesOnTest_119 (by decide) ?_
        refine j_iadd (pc := 120) C (v := nI (yn + 1)) d_Model_goesOnTest_120 (nI_add _ _) ?_
        refine j_put (pc := 121) C pf_Model_292 4 (ws' := [(ma 33, .inl (y 3, 2, .inl g33)), (ma 50, .inl (y 0, 3200, .inl yf)), (ma 0, .inl (y 0, 1600, .inl g0)), (ma 34, .inl (y 3, 3, .inl g34)), MB mo ma (nI t1) (nI u404.1) (nI t3) u404.2 0 i6 i7 i8 i42 i49 (nI yc) (nI (yn + 1)) z197 i59 i61 i64 i66 (nI t67) i76 i78, (ma 52, .inl (y 0, 1700, .inl (upd g52 yn 14)))]) rfl rfl rfl (nl rfl) rfl d_Model_goesOnTest_121 ?_
        refine j_iconst (pc := 124) C (v := 1) d_Model_goesOnTest_124 (by decide) ?_
        exact j_iret (pc := 125) C hr (by decide) (u404.1, u404.2, 0, i6, yc, (yn + 1), z197, yf, (upd g52 yn 14)) ⟨(show t2 ≤ u404.1 by omega), (show u404.1 ≤ t3 by omega), (fun _ => ⟨rfl, show t2 ≤ u404.1 by omega⟩), (it_push (it_le hTT (show yn ≤ wn by omega)) (by decide)), (Or.inl ⟨rfl, rfl, rs_op hRy_ (by decide) (show az < u404.1 by omega)⟩)⟩ [4, 2, 0, 3, 1, 5] rfl (by decide) (by decide) (by decide) d_Model_goesOnTest_125
      · refine j_if_eqF (pc := 93) C (tgt := 103) d_Model_goesOnTest_93 (by decide) (by decide) ?_
        refine j_aload_n (pc := 96) C d_Model_goesOnTest_96 rfl 0 rfl ?_
        refine j_callVv (pc := 97) C (c_M_drops l D y mo ma t1 u404.1 t3 u404.2 0 i6 i7 i8 i42 i49 yc yn z197 i59 i61 i64 i66 t67 i76 i78 yf g52 (by omega) (by omega) (by omega)) kw_Model_350 kv_Model_drops 0 10 rfl rfl ⟨by decide, by decide⟩ ⟨by decide, by decide⟩ (wr := [(ma 33, .inl (y 3, 2, .inl g33)), (ma 0, .inl (y 0, 1600, .inl g0)), (ma 34, .inl (y 3, 3, .inl g34))]) [4, 1, 5] [0, 2, 3] rfl rfl (by decide) (by decide) (by decide) (As := []) (rest := []) rfl (nb rfl) rfl d_Model_goesOnTest_97 (fun _ _ => ?_)
        refine j_ws (ws' := [(ma 33, .inl (y 3, 2, .inl g33)), (ma 0, .inl (y 0, 1600, .inl g0)), (ma 34, .inl (y 3, 3, .inl g34)), MB mo ma (nI t1) (nI u404.1) (nI t3) u404.2 0 i6 i7 i8 i42 i49 (nI (yc + 1)) (nI (yn - 1)) z197 i59 i61 i64 i66 (nI t67) i76 i78, (ma 50, .inl (y 0, 3200, .inl (upd yf yc (g52 (yn - 1))))), (ma 52, .inl (y 0, 1700, .inl g52))]) rfl ?_
        refine j_goto (pc := 100) C (tgt := 87) d_Model_goesOnTest_100 (by decide) ?_
        refine j_sub (ws' := [(ma 33, .inl (y 3, 2, .inl g33)), (ma 50, .inl (y 0, 3200, .inl (upd yf yc (g52 (yn - 1))))), (ma 52, .inl (y 0, 1700, .inl g52)), MB mo ma (nI t1) (nI u404.1) (nI t3) u404.2 0 i6 i7 i8 i42 i49 (nI (yc + 1)) (nI (yn - 1)) z197 i59 i61 i64 i66 (nI t67) i76 i78, (ma 0, .inl (y 0, 1600, .inl g0)), (ma 34, .inl (y 3, 3, .inl g34))]) [0, 4, 5, 3, 1, 2] rfl (by decide) ?_
        exact ih451 ((yc + 1), (yn - 1), (upd yf yc (g52 (yn - 1)))) ⟨(show (yn - 1) ≤ zn by omega), (show RS kq s0 f0 (xx + 1) 0 (upd yf yc (g52 (yn - 1))) g52 (yc + 1) (yn - 1) az from rs_drop hRy_ (by omega) (show yn = yn - 1 + 1 by omega) (Or.inr (by rw [e456]; decide)))⟩ (show (yn - 1) < yn by omega)
  · refine j_bipush (pc := 11) C (v := 93) d_Model_goesOnTest_11 (by decide) ?_
    refine j_icmp_ne (pc := 13) C (tgt := 76) d_Model_goesOnTest_13 (by decide) (fun c457 => ?_) (fun c457 => ?_)
    · refine j_aload_n (pc := 76) C d_Model_goesOnTest_76 rfl 0 rfl ?_
      refine j_aload_n (pc := 77) C d_Model_goesOnTest_77 rfl 0 rfl ?_
      refine j_get (pc := 78) C gf_Model_93 4 rfl rfl d_Model_goesOnTest_78 ?_
      refine j_callVi (pc := 81) C (c_M_takes_3 l D y mo (ma 34) ma t1 u397 t3 i4 0 i6 i7 i8 i42 i49 (nI zc) (nI zn) z197 i59 i61 i64 i66 t67 i76 i78 g0 g34 xh399 he) kw_Model_228 kv_Model_takes 0 10 rfl rfl ⟨by decide, by decide⟩ ⟨by decide, by decide⟩ (wr := [(ma 33, .inl (y 3, 2, .inl g33)), (ma 50, .inl (y 0, 3200, .inl zf)), (ma 52, .inl (y 0, 1700, .inl g52))]) [4, 5, 1] [0, 2, 3] rfl rfl (by decide) (by decide) (by decide) (As := [.ref (ma 34)]) (rest := []) rfl (nb rfl) rfl d_Model_goesOnTest_81 (fun r458 u459 hr458 => ?_)
      refine j_ws (ws' := [(ma 33, .inl (y 3, 2, .inl g33)), (ma 50, .inl (y 0, 3200, .inl zf)), (ma 52, .inl (y 0, 1700, .inl g52)), MB mo ma (nI t1) (nI u459.1) (nI t3) u459.2 0 i6 i7 i8 i42 i49 (nI zc) (nI zn) z197 i59 i61 i64 i66 (nI t67) i76 i78, (ma 0, .inl (y 0, 1600, .inl g0)), (ma 34, .inl (y 3, 3, .inl g34))]) rfl ?_
      obtain ⟨xh460, xh461, xh462⟩ := hr458
      rcases xh462 with rfl | ⟨rfl, xh463⟩
      · refine j_if_eqT (pc := 84) C (tgt := 126) d_Model_goesOnTest_84 (by decide) (by decide) ?_
        refine j_aload_n (pc := 126) C d_Model_goesOnTest_126 rfl 0 rfl ?_
        refine j_aload_n (pc := 127) C d_Model_goesOnTest_127 rfl 0 rfl ?_
        refine j_get (pc := 128) C gf_Model_90 3 rfl rfl d_Model_goesOnTest_128 ?_
        refine j_callVi (pc := 131) C (c_M_takes_2 l D y mo (ma 33) ma t1 u459.1 t3 u459.2 0 i6 i7 i8 i42 i49 (nI zc) (nI zn) z197 i59 i61 i64 i66 t67 i76 i78 g0 g33 xh461 he) kw_Model_228 kv_Model_takes 0 10 rfl rfl ⟨by decide, by decide⟩ ⟨by decide, by decide⟩ (wr := [(ma 50, .inl (y 0, 3200, .inl zf)), (ma 52, .inl (y 0, 1700, .inl g52)), (ma 34, .inl (y 3, 3, .inl g34))]) [3, 4, 0] [1, 2, 5] rfl rfl (by decide) (by decide) (by decide) (As := [.ref (ma 33)]) (rest := []) rfl (nb rfl) rfl d_Model_goesOnTest_131 (fun r464 u465 hr464 => ?_)
        refine j_ws (ws' := [(ma 50, .inl (y 0, 3200, .inl zf)), (ma 52, .inl (y 0, 1700, .inl g52)), (ma 34, .inl (y 3, 3, .inl g34)), MB mo ma (nI t1) (nI u465.1) (nI t3) u465.2 0 i6 i7 i8 i42 i49 (nI zc) (nI zn) z197 i59 i61 i64 i66 (nI t67) i76 i78, (ma 0, .inl (y 0, 1600, .inl g0)), (ma 33, .inl (y 3, 2, .inl g33))]) rfl ?_
        obtain ⟨xh466, xh467, xh468⟩ := hr464
        rcases xh468 with rfl | ⟨rfl, xh469⟩
        · refine j_if_eqT (pc := 134) C (tgt := 185) d_Model_goesOnTest_134 (by decide) (by decide) ?_
          refine j_aload_n (pc := 185) C d_Model_goesOnTest_185 rfl 0 rfl ?_
          refine j_get (pc := 186) C gf_Model_201 3 rfl rfl d_Model_goesOnTest_186 ?_
          refine j_if_neF (pc := 189) C (tgt := 208) d_Model_goesOnTest_189 (by decide) (by decide) ?_
          refine j_aload_n (pc := 192) C d_Model_goesOnTest_192 rfl 0 rfl ?_
          refine j_callVi (pc := 193) C (c_M_hasSquare l D y mo ma t1 u465.1 t3 u465.2 0 i6 i7 i8 i42 i49 (nI zc) zn z197 i59 i61 i64 i66 t67 i76 i78 g52 (by omega)) kw_Model_380 kv_Model_hasSquare 0 10 rfl rfl ⟨by decide, by decide⟩ ⟨by decide, by decide⟩ (wr := [(ma 50, .inl (y 0, 3200, .inl zf)), (ma 34, .inl (y 3, 3, .inl g34)), (ma 0, .inl (y 0, 1600, .inl g0)), (ma 33, .inl (y 3, 2, .inl g33))]) [3, 1] [0, 2, 4, 5] rfl rfl (by decide) (by decide) (by decide) (As := []) (rest := []) rfl (nb rfl) rfl d_Model_goesOnTest_193 (fun r470 _ hr470 => ?_)
          refine j_ws (ws' := [(ma 50, .inl (y 0, 3200, .inl zf)), (ma 34, .inl (y 3, 3, .inl g34)), (ma 0, .inl (y 0, 1600, .inl g0)), (ma 33, .inl (y 3, 2, .inl g33)), MB mo ma (nI t1) (nI u465.1) (nI t3) u465.2 0 i6 i7 i8 i42 i49 (nI zc) (nI zn) z197 i59 i61 i64 i66 (nI t67) i76 i78, (ma 52, .inl (y 0, 1700, .inl g52))]) rfl ?_
          rcases hr470 with ⟨rfl, xh472⟩ | ⟨rfl, xh473⟩
          · refine j_if_eqT (pc := 196) C (tgt := 208) d_Model_goesOnTest_196 (by decide) (by decide) ?_
            refine j_iconst (pc := 208) C (v := 0) d_Model_goesOnTest_208 (by decide) ?_
            exact j_iret (pc := 209) C hr (by decide) (u465.1, u465.2, 0, i6, zc, zn, z197, zf, g52) ⟨(show t2 ≤ u465.1 by omega), (show u465.1 ≤ t3 by omega), (fun _ => ⟨rfl, show t2 ≤ u465.1 by omega⟩), (it_le hTT (by omega)), (Or.inr ⟨rfl, (rs_at hR_ (show az ≤ u465.1 by omega)), (fun _ => xh472)⟩)⟩ [4, 2, 3, 1, 0, 5] rfl (by decide) (by decide) (by decide) d_Model_goesOnTest_209
          · refine j_if_eqF (pc := 196) C (tgt := 208) d_Model_goesOnTest_196 (by decide) (by decide) ?_
            refine j_aload_n (pc := 199) C d_Model_goesOnTest_199 rfl 0 rfl ?_
            refine j_iconst (pc := 200) C (v := 1) d_Model_goesOnTest_200 (by decide) ?_
            refine j_aload_n (pc := 201) C d_Model_goesOnTest_201 rfl 0 rfl ?_
            refine j_get (pc := 202) C gf_Model_207 4 rfl rfl d_Model_goesOnTest_202 ?_
            refine j_callVv (pc := 205) C (c_M_fail l D y mo ma t1 u465.1 t3 u465.2 0 i6 i7 i8 i42 i49 (nI zc) (nI zn) z197 i59 i61 i64 i66 t67 i76 i78 1 (nI u465.1) (by decide)) kw_Model_230 kv_Model_fail 0 10 rfl rfl ⟨by decide, by decide⟩ ⟨by decide, by decide⟩ (wr := [(ma 50, .inl (y 0, 3200, .inl zf)), (ma 34, .inl (y 3, 3, .inl g34)), (ma 0, .inl (y 0, 1600, .inl g0)), (ma 33, .inl (y 3, 2, .inl g33)), (ma 52, .inl (y 0, 1700, .inl g52))]) [4] [0, 1, 2, 3, 5] rfl rfl (by decide) (by decide) (by decide) (As := [.int 1, .int (nI u465.1)]) (rest := []) rfl (nb rfl) rfl d_Model_goesOnTest_205 (fun u474 hu475 => ?_)
            have xh476 := hu475
            refine j_ws (ws' := [(ma 50, .inl (y 0, 3200, .inl zf)), (ma 34, .inl (y 3, 3, .inl g34)), (ma 0, .inl (y 0, 1600, .inl g0)), (ma 33, .inl (y 3, 2, .inl g33)), (ma 52, .inl (y 0, 1700, .inl g52)), MB mo ma (nI t1) (nI u465.1) (nI t3) u465.2 u474.1 u474.2 i7 i8 i42 i49 (nI zc) (nI zn) z197 i59 i61 i64 i66 (nI t67) i76 i78]) rfl ?_
            refine j_iconst (pc := 208) C (v := 0) d_Model_goesOnTest_208 (by decide) ?_
            have xh477 : RS kq s0 f0 (xx + 1) u474.1 zf g52 zc zn az := rs_bad hR_ xh476
            exact j_iret (pc := 209) C hr (by decide) (u465.1, u465.2, u474.1, u474.2, zc, zn, z197, zf, g52) ⟨(show t2 ≤ u465.1 by omega), (show u465.1 ≤ t3 by omega), (fun _ => ⟨rfl, show t2 ≤ u465.1 by omega⟩), (it_le hTT (by omega)), (Or.inr ⟨rfl, (rs_at xh477 (show az ≤ u465.1 by omega)), (fun e => absurd e xh476)⟩)⟩ [5, 2, 3, 1, 0, 4] rfl (by decide) (by decide) (by decide) d_Model_goesOnTest_209
        · refine j_if_eqF (pc := 134) C (tgt := 185) d_Model_goesOnTest_134 (by decide) (by decide) ?_
          refine j_loop (α := Nat × Nat × (Nat → Int32)) (fun a => a.2.1) (fun a => (a.2.1 ≤ zn) ∧ (RS kq s0 f0 (xx + 1) 0 a.2.2 g52 a.1 a.2.1 az)) (fun a => [(ma 50, .inl (y 0, 3200, .inl a.2.2)), (ma 52, .inl (y 0, 1700, .inl g52)), (ma 34, .inl (y 3, 3, .inl g34)), MB mo ma (nI t1) (nI u465.1) (nI t3) u465.2 0 i6 i7 i8 i42 i49 (nI a.1) (nI a.2.1) z197 i59 i61 i64 i66 (nI t67) i76 i78, (ma 0, .inl (y 0, 1600, .inl g0)), (ma 33, .inl (y 3, 2, .inl g33))]) (fun a => [(0, .ref mo)]) (zc, zn, zf) rfl rfl ⟨(show zn ≤ zn by omega), hR_⟩ ?_
          rintro ⟨yc, yn, yf⟩ hP488 ih489
          obtain ⟨hny__, hRy__⟩ := hP488
          have hny_ : yn ≤ zn := hny__
          have hRy_ : RS kq s0 f0 (xx + 1) 0 yf g52 yc yn az := hRy__
          refine j_ws (ws' := [(ma 50, .inl (y 0, 3200, .inl yf)), (ma 52, .inl (y 0, 1700, .inl g52)), (ma 34, .inl (y 3, 3, .inl g34)), MB mo ma (nI t1) (nI u465.1) (nI t3) u465.2 0 i6 i7 i8 i42 i49 (nI yc) (nI yn) z197 i59 i61 i64 i66 (nI t67) i76 i78, (ma 0, .inl (y 0, 1600, .inl g0)), (ma 33, .inl (y 3, 2, .inl g33))]) rfl ?_
          refine j_lv (lv' := [(0, .ref mo)]) rfl ?_
          have hacy := rs_ac3 hRy_
          refine j_aload_n (pc := 137) C d_Model_goesOnTest_137 rfl 0 rfl ?_
          refine j_bipush (pc := 138) C (v := 14) d_Model_goesOnTest_138 (by decide) ?_
          refine j_callVi (pc := 140) C (c_M_isOn l D y mo ma t1 u465.1 t3 u465.2 0 i6 i7 i8 i42 i49 (nI yc) yn z197 i59 i61 i64 i66 t67 i76 i78 g52 14 (by omega)) kw_Model_362 kv_Model_isOn 0 10 rfl rfl ⟨by decide, by decide⟩ ⟨by decide, by decide⟩ (wr := [(ma 50, .inl (y 0, 3200, .inl yf)), (ma 34, .inl (y 3, 3, .inl g34)), (ma 0, .inl (y 0, 1600, .inl g0)), (ma 33, .inl (y 3, 2, .inl g33))]) [3, 1] [0, 2, 4, 5] rfl rfl (by decide) (by decide) (by decide) (As := [.int 14]) (rest := []) rfl (nb rfl) rfl d_Model_goesOnTest_140 (fun r490 _ hr490 => ?_)
          refine j_ws (ws' := [(ma 50, .inl (y 0, 3200, .inl yf)), (ma 34, .inl (y 3, 3, .inl g34)), (ma 0, .inl (y 0, 1600, .inl g0)), (ma 33, .inl (y 3, 2, .inl g33)), MB mo ma (nI t1) (nI u465.1) (nI t3) u465.2 0 i6 i7 i8 i42 i49 (nI yc) (nI yn) z197 i59 i61 i64 i66 (nI t67) i76 i78, (ma 52, .inl (y 0, 1700, .inl g52))]) rfl ?_
          rcases hr490 with ⟨rfl, xh492⟩ | ⟨rfl, xh493, e494⟩
          · refine j_if_neF (pc := 143) C (tgt := 155) d_Model_goesOnTest_143 (by decide) (by decide) ?_
            refine j_aload_n (pc := 146) C d_Model_goesOnTest_146 rfl 0 rfl ?_
            refine j_bipush (pc := 147) C (v := 15) d_Model_goesOnTest_147 (by decide) ?_
            refine j_callVi (pc := 149) C (c_M_isOn l D y mo ma t1 u465.1 t3 u465.2 0 i6 i7 i8 i42 i49 (nI yc) yn z197 i59 i61 i64 i66 t67 i76 i78 g52 15 (by omega)) kw_Model_362 kv_Model_isOn 0 10 rfl rfl ⟨by decide, by decide⟩ ⟨by decide, by decide⟩ (wr := [(ma 50, .inl (y 0, 3200, .inl yf)), (ma 34, .inl (y 3, 3, .inl g34)), (ma 0, .inl (y 0, 1600, .inl g0)), (ma 33, .inl (y 3, 2, .inl g33))]) [4, 5] [0, 1, 2, 3] rfl rfl (by decide) (by decide) (by decide) (As := [.int 15]) (rest := []) rfl (nb rfl) rfl d_Model_goesOnTest_149 (fun r495 _ hr495 => ?_)
            refine j_ws (ws' := [(ma 50, .inl (y 0, 3200, .inl yf)), (ma 34, .inl (y 3, 3, .inl g34)), (ma 0, .inl (y 0, 1600, .inl g0)), (ma 33, .inl (y 3, 2, .inl g33)), MB mo ma (nI t1) (nI u465.1) (nI t3) u465.2 0 i6 i7 i8 i42 i49 (nI yc) (nI yn) z197 i59 i61 i64 i66 (nI t67) i76 i78, (ma 52, .inl (y 0, 1700, .inl g52))]) rfl ?_
            rcases hr495 with ⟨rfl, xh497⟩ | ⟨rfl, xh498, e499⟩
            · refine j_if_eqT (pc := 152) C (tgt := 162) d_Model_goesOnTest_152 (by decide) (by decide) ?_
              refine j_aload_n (pc := 162) C d_Model_goesOnTest_162 rfl 0 rfl ?_
              refine j_get (pc := 163) C gf_Model_139 4 rfl rfl d_Model_goesOnTest_163 ?_
              refine j_aload_n (pc := 166) C d_Model_goesOnTest_166 rfl 0 rfl ?_
              refine j_get (pc := 167) C gf_Model_292 4 rfl rfl d_Model_goesOnTest_167 ?_
              refine j_bipush (pc := 170) C (v := 15) d_Model_goesOnTest_170 (by decide) ?_
              refine j_iast (pc := 172) C 5 rfl (ws' := [(ma 50, .inl (y 0, 3200, .inl yf)), (ma 34, .inl (y 3, 3, .inl g34)), (ma 0, .inl (y 0, 1600, .inl g0)), (ma 33, .inl (y 3, 2, .inl g33)), MB mo ma (nI t1) (nI u465.1) (nI t3) u465.2 0 i6 i7 i8 i42 i49 (nI yc) (nI yn) z197 i59 i61 i64 i66 (nI t67) i76 i78, (ma 52, .inl (y 0, 1700, .inl (upd g52 yn 15)))]) (vp_in_nI (by omega) (by decide)) (by rw [nI_clamp (by omega)]; rfl) d_Model_goesOnTest_172 ?_
              refine j_aload_n (pc := 173) C d_Model_goesOnTest_173 rfl 0 rfl ?_
              refine j_dup (pc := 174) C d_Model_goesOnTest_174 rfl ?_
              refine j_get (pc := 175) C gf_Model_292 4 rfl rfl d_Model_goesOnTest_175 ?_
              refine j_iconst (pc := 178) C (v := 1) d_Model_goesOnTest_178 (by decide) ?_
              refine j_iadd (pc := 179) C (v := nI (yn + 1)) d_Model_goesOnTest_179 (nI_add _ _) ?_
              refine j_put (pc := 180) C pf_Model_292 4 (ws' := [(ma 50, .inl (y 0, 3200, .inl yf)), (ma 34, .inl (y 3, 3, .inl g34)), (ma 0, .inl (y 0, 1600, .inl g0)), (ma 33, .inl (y 3, 2, .inl g33)), MB mo ma (nI t1) (nI u465.1) (nI t3) u465.2 0 i6 i7 i8 i42 i49 (nI yc) (nI (yn + 1)) z197 i59 i61 i64 i66 (nI t67) i76 i78, (ma 52, .inl (y 0, 1700, .inl (upd g52 yn 15)))]) rfl rfl rfl (nl rfl) rfl d_Model_goesOnTest_180 ?_
              refine j_iconst (pc := 183) C (v := 1) d_Model_goesOnTest_183 (by decide) ?_
              exact j_iret (pc := 184) C hr (by decide) (u465.1, u465.2, 0, i6, yc, (yn + 1), z197, yf, (upd g52 yn 15)) ⟨(show t2 ≤ u465.1 by omega), (show u465.1 ≤ t3 by omega), (fun _ => ⟨rfl, show t2 ≤ u465.1 by omega⟩), (it_push (it_le hTT (show yn ≤ wn by omega)) (by decide)), (Or.inl ⟨rfl, rfl, rs_op hRy_ (by decide) (show az < u465.1 by omega)⟩)⟩ [4, 2, 3, 1, 0, 5] rfl (by decide) (by decide) (by decide) d_Model_goesOnTest_184
            · refine j_if_eqF (pc := 152) C (tgt := 162) d_Model_goesOnTest_152 (by decide) (by decide) ?_
              refine j_aload_n (pc := 155) C d_Model_goesOnTest_155 rfl 0 rfl ?_
              refine j_callVv (pc := 156) C (c_M_drops l D y mo ma t1 u465.1 t3 u465.2 0 i6 i7 i8 i42 i49 yc yn z197 i59 i61 i64 i66 t67 i76 i78 yf g52 (by omega) (by omega) (by omega)) kw_Model_350 kv_Model_drops 0 10 rfl rfl ⟨by decide, by decide⟩ ⟨by decide, by decide⟩ (wr := [(ma 34, .inl (y 3, 3, .inl g34)), (ma 0, .inl (y 0, 1600, .inl g0)), (ma 33, .inl (y 3, 2, .inl g33))]) [4, 0, 5] [1, 2, 3] rfl rfl (by decide) (by decide) (by decide) (As := []) (rest := []) rfl (nb rfl) rfl d_Model_goesOnTest_156 (fun _ _ => ?_)
              refine j_ws (ws' := [(ma 34, .inl (y 3, 3, .inl g34)), (ma 0, .inl (y 0, 1600, .inl g0)), (ma 33, .inl (y 3, 2, .inl g33)), MB mo ma (nI t1) (nI u465.1) (nI t3) u465.2 0 i6 i7 i8 i42 i49 (nI (yc + 1)) (nI (yn - 1)) z197 i59 i61 i64 i66 (nI t67) i76 i78, (ma 50, .inl (y 0, 3200, .inl (upd yf yc (g52 (yn - 1))))), (ma 52, .inl (y 0, 1700, .inl g52))]) rfl ?_
              refine j_goto (pc := 159) C (tgt := 137) d_Model_goesOnTest_159 (by decide) ?_
              refine j_sub (ws' := [(ma 50, .inl (y 0, 3200, .inl (upd yf yc (g52 (yn - 1))))), (ma 52, .inl (y 0, 1700, .inl g52)), (ma 34, .inl (y 3, 3, .inl g34)), MB mo ma (nI t1) (nI u465.1) (nI t3) u465.2 0 i6 i7 i8 i42 i49 (nI (yc + 1)) (nI (yn - 1)) z197 i59 i61 i64 i66 (nI t67) i76 i78, (ma 0, .inl (y 0, 1600, .inl g0)), (ma 33, .inl (y 3, 2, .inl g33))]) [4, 5, 0, 3, 1, 2] rfl (by decide) ?_
              exact ih489 ((yc + 1), (yn - 1), (upd yf yc (g52 (yn - 1)))) ⟨(show (yn - 1) ≤ zn by omega), (show RS kq s0 f0 (xx + 1) 0 (upd yf yc (g52 (yn - 1))) g52 (yc + 1) (yn - 1) az from rs_drop hRy_ (by omega) (show yn = yn - 1 + 1 by omega) (Or.inr (by rw [e499]; decide)))⟩ (show (yn - 1) < yn by omega)
          · refine j_if_neT (pc := 143) C (tgt := 155) d_Model_goesOnTest_143 (by decide) (by decide) ?_
            refine j_aload_n (pc := 155) C d_Model_goesOnTest_155 rfl 0 rfl ?_
            refine j_callVv (pc := 156) C (c_M_drops l D y mo ma t1 u465.1 t3 u465.2 0 i6 i7 i8 i42 i49 yc yn z197 i59 i61 i64 i66 t67 i76 i78 yf g52 (by omega) (by omega) (by omega)) kw_Model_350 kv_Model_drops 0 10 rfl rfl ⟨by decide, by decide⟩ ⟨by decide, by decide⟩ (wr := [(ma 34, .inl (y 3, 3, .inl g34)), (ma 0, .inl (y 0, 1600, .inl g0)), (ma 33, .inl (y 3, 2, .inl g33))]) [4, 0, 5] [1, 2, 3] rfl rfl (by decide) (by decide) (by decide) (As := []) (rest := []) rfl (nb rfl) rfl d_Model_goesOnTest_156 (fun _ _ => ?_)
            refine j_ws (ws' := [(ma 34, .inl (y 3, 3, .inl g34)), (ma 0, .inl (y 0, 1600, .inl g0)), (ma 33, .inl (y 3, 2, .inl g33)), MB mo ma (nI t1) (nI u465.1) (nI t3) u465.2 0 i6 i7 i8 i42 i49 (nI (yc + 1)) (nI (yn - 1)) z197 i59 i61 i64 i66 (nI t67) i76 i78, (ma 50, .inl (y 0, 3200, .inl (upd yf yc (g52 (yn - 1))))), (ma 52, .inl (y 0, 1700, .inl g52))]) rfl ?_
            refine j_goto (pc := 159) C (tgt := 137) d_Model_goesOnTest_159 (by decide) ?_
            refine j_sub (ws' := [(ma 50, .inl (y 0, 3200, .inl (upd yf yc (g52 (yn - 1))))), (ma 52, .inl (y 0, 1700, .inl g52)), (ma 34, .inl (y 3, 3, .inl g34)), MB mo ma (nI t1) (nI u465.1) (nI t3) u465.2 0 i6 i7 i8 i42 i49 (nI (yc + 1)) (nI (yn - 1)) z197 i59 i61 i64 i66 (nI t67) i76 i78, (ma 0, .inl (y 0, 1600, .inl g0)), (ma 33, .inl (y 3, 2, .inl g33))]) [4, 5, 0, 3, 1, 2] rfl (by decide) ?_
            exact ih489 ((yc + 1), (yn - 1), (upd yf yc (g52 (yn - 1)))) ⟨(show (yn - 1) ≤ zn by omega), (show RS kq s0 f0 (xx + 1) 0 (upd yf yc (g52 (yn - 1))) g52 (yc + 1) (yn - 1) az from rs_drop hRy_ (by omega) (show yn = yn - 1 + 1 by omega) (Or.inr (by rw [e494]; decide)))⟩ (show (yn - 1) < yn by omega)
      · refine j_if_eqF (pc := 84) C (tgt := 126) d_Model_goesOnTest_84 (by decide) (by decide) ?_
        refine j_loop (α := Nat × Nat × (Nat → Int32)) (fun a => a.2.1) (fun a => (a.2.1 ≤ zn) ∧ (RS kq s0 f0 (xx + 1) 0 a.2.2 g52 a.1 a.2.1 az)) (fun a => [(ma 33, .inl (y 3, 2, .inl g33)), (ma 50, .inl (y 0, 3200, .inl a.2.2)), (ma 52, .inl (y 0, 1700, .inl g52)), MB mo ma (nI t1) (nI u459.1) (nI t3) u459.2 0 i6 i7 i8 i42 i49 (nI a.1) (nI a.2.1) z197 i59 i61 i64 i66 (nI t67) i76 i78, (ma 0, .inl (y 0, 1600, .inl g0)), (ma 34, .inl (y 3, 3, .inl g34))]) (fun a => [(0, .ref mo)]) (zc, zn, zf) rfl rfl ⟨(show zn ≤ zn by omega), hR_⟩ ?_
        rintro ⟨yc, yn, yf⟩ hP505 ih506
        obtain ⟨hny__, hRy__⟩ := hP505
        have hny_ : yn ≤ zn := hny__
        have hRy_ : RS kq s0 f0 (xx + 1) 0 yf g52 yc yn az := hRy__
        refine j_ws (ws' := [(ma 33, .inl (y 3, 2, .inl g33)), (ma 50, .inl (y 0, 3200, .inl yf)), (ma 52, .inl (y 0, 1700, .inl g52)), MB mo ma (nI t1) (nI u459.1) (nI t3) u459.2 0 i6 i7 i8 i42 i49 (nI yc) (nI yn) z197 i59 i61 i64 i66 (nI t67) i76 i78, (ma 0, .inl (y 0, 1600, .inl g0)), (ma 34, .inl (y 3, 3, .inl g34))]) rfl ?_
        refine j_lv (lv' := [(0, .ref mo)]) rfl ?_
        have hacy := rs_ac3 hRy_
        refine j_aload_n (pc := 87) C d_Model_goesOnTest_87 rfl 0 rfl ?_
        refine j_bipush (pc := 88) C (v := 14) d_Model_goesOnTest_88 (by decide) ?_
        refine j_callVi (pc := 90) C (c_M_isOn l D y mo ma t1 u459.1 t3 u459.2 0 i6 i7 i8 i42 i49 (nI yc) yn z197 i59 i61 i64 i66 t67 i76 i78 g52 14 (by omega)) kw_Model_362 kv_Model_isOn 0 10 rfl rfl ⟨by decide, by decide⟩ ⟨by decide, by decide⟩ (wr := [(ma 33, .inl (y 3, 2, .inl g33)), (ma 50, .inl (y 0, 3200, .inl yf)), (ma 0, .inl (y 0, 1600, .inl g0)), (ma 34, .inl (y 3, 3, .inl g34))]) [3, 2] [0, 1, 4, 5] rfl rfl (by decide) (by decide) (by decide) (As := [.int 14]) (rest := []) rfl (nb rfl) rfl d_Model_goesOnTest_90 (fun r507 _ hr507 => ?_)
        refine j_ws (ws' := [(ma 33, .inl (y 3, 2, .inl g33)), (ma 50, .inl (y 0, 3200, .inl yf)), (ma 0, .inl (y 0, 1600, .inl g0)), (ma 34, .inl (y 3, 3, .inl g34)), MB mo ma (nI t1) (nI u459.1) (nI t3) u459.2 0 i6 i7 i8 i42 i49 (nI yc) (nI yn) z197 i59 i61 i64 i66 (nI t67) i76 i78, (ma 52, .inl (y 0, 1700, .inl g52))]) rfl ?_
        rcases hr507 with ⟨rfl, xh509⟩ | ⟨rfl, xh510, e511⟩
        · refine j_if_eqT (pc := 93) C (tgt := 103) d_Model_goesOnTest_93 (by decide) (by decide) ?_
          refine j_aload_n (pc := 103) C d_Model_goesOnTest_103 rfl 0 rfl ?_
          refine j_get (pc := 104) C gf_Model_139 4 rfl rfl d_Model_goesOnTest_104 ?_
          refine j_aload_n (pc := 107) C d_Model_goesOnTest_107 rfl 0 rfl ?_
          refine j_get (pc := 108) C gf_Model_292 4 rfl rfl d_Model_goesOnTest_108 ?_
          refine j_bipush (pc := 111) C (v := 14) d_Model_goesOnTest_111 (by decide) ?_
          refine j_iast (pc := 113) C 5 rfl (ws' := [(ma 33, .inl (y 3, 2, .inl g33)), (ma 50, .inl (y 0, 3200, .inl yf)), (ma 0, .inl (y 0, 1600, .inl g0)), (ma 34, .inl (y 3, 3, .inl g34)), MB mo ma (nI t1) (nI u459.1) (nI t3) u459.2 0 i6 i7 i8 i42 i49 (nI yc) (nI yn) z197 i59 i61 i64 i66 (nI t67) i76 i78, (ma 52, .inl (y 0, 1700, .inl (upd g52 yn 14)))]) (vp_in_nI (by omega) (by decide)) (by rw [nI_clamp (by omega)]; rfl) d_Model_goesOnTest_113 ?_
          refine j_aload_n (pc := 114) C d_Model_goesOnTest_114 rfl 0 rfl ?_
          refine j_dup (pc := 115) C d_Model_goesOnTest_115 rfl ?_
          refine j_get (pc := 116) C gf_Model_292 4 rfl rfl d_Model_goesOnTest_116 ?_
          refine j_iconst (pc := 119) C (v := 1) d_Model_goesOnTest_119 (by decide) ?_
          refine j_iadd (pc := 120) C (v := nI (yn + 1)) d_Model_goesOnTest_120 (nI_add _ _) ?_
          refine j_put (pc := 121) C pf_Model_292 4 (ws' := [(ma 33, .inl (y 3, 2, .inl g33)), (ma 50, .inl (y 0, 3200, .inl yf)), (ma 0, .inl (y 0, 1600, .inl g0)), (ma 34, .inl (y 3, 3, .inl g34)), MB mo ma (nI t1) (nI u459.1) (nI t3) u459.2 0 i6 i7 i8 i42 i49 (nI yc) (nI (yn + 1)) z197 i59 i61 i64 i66 (nI t67) i76 i78, (ma 52, .inl (y 0, 1700, .inl (upd g52 yn 14)))]) rfl rfl rfl (nl rfl) rfl d_Model_goesOnTest_121 ?_
          refine j_iconst (pc := 124) C (v := 1) d_Model_goesOnTest_124 (by decide) ?_
          exact j_iret (pc := 125) C hr (by decide) (u459.1, u459.2, 0, i6, yc, (yn + 1), z197, yf, (upd g52 yn 14)) ⟨(show t2 ≤ u459.1 by omega), (show u459.1 ≤ t3 by omega), (fun _ => ⟨rfl, show t2 ≤ u459.1 by omega⟩), (it_push (it_le hTT (show yn ≤ wn by omega)) (by decide)), (Or.inl ⟨rfl, rfl, rs_op hRy_ (by decide) (show az < u459.1 by omega)⟩)⟩ [4, 2, 0, 3, 1, 5] rfl (by decide) (by decide) (by decide) d_Model_goesOnTest_125
        · refine j_if_eqF (pc := 93) C (tgt := 103) d_Model_goesOnTest_93 (by decide) (by decide) ?_
          refine j_aload_n (pc := 96) C d_Model_goesOnTest_96 rfl 0 rfl ?_
          refine j_callVv (pc := 97) C (c_M_drops l D y mo ma t1 u459.1 t3 u459.2 0 i6 i7 i8 i42 i49 yc yn z197 i59 i61 i64 i66 t67 i76 i78 yf g52 (by omega) (by omega) (by omega)) kw_Model_350 kv_Model_drops 0 10 rfl rfl ⟨by decide, by decide⟩ ⟨by decide, by decide⟩ (wr := [(ma 33, .inl (y 3, 2, .inl g33)), (ma 0, .inl (y 0, 1600, .inl g0)), (ma 34, .inl (y 3, 3, .inl g34))]) [4, 1, 5] [0, 2, 3] rfl rfl (by decide) (by decide) (by decide) (As := []) (rest := []) rfl (nb rfl) rfl d_Model_goesOnTest_97 (fun _ _ => ?_)
          refine j_ws (ws' := [(ma 33, .inl (y 3, 2, .inl g33)), (ma 0, .inl (y 0, 1600, .inl g0)), (ma 34, .inl (y 3, 3, .inl g34)), MB mo ma (nI t1) (nI u459.1) (nI t3) u459.2 0 i6 i7 i8 i42 i49 (nI (yc + 1)) (nI (yn - 1)) z197 i59 i61 i64 i66 (nI t67) i76 i78, (ma 50, .inl (y 0, 3200, .inl (upd yf yc (g52 (yn - 1))))), (ma 52, .inl (y 0, 1700, .inl g52))]) rfl ?_
          refine j_goto (pc := 100) C (tgt := 87) d_Model_goesOnTest_100 (by decide) ?_
          refine j_sub (ws' := [(ma 33, .inl (y 3, 2, .inl g33)), (ma 50, .inl (y 0, 3200, .inl (upd yf yc (g52 (yn - 1))))), (ma 52, .inl (y 0, 1700, .inl g52)), MB mo ma (nI t1) (nI u459.1) (nI t3) u459.2 0 i6 i7 i8 i42 i49 (nI (yc + 1)) (nI (yn - 1)) z197 i59 i61 i64 i66 (nI t67) i76 i78, (ma 0, .inl (y 0, 1600, .inl g0)), (ma 34, .inl (y 3, 3, .inl g34))]) [0, 4, 5, 3, 1, 2] rfl (by decide) ?_
          exact ih506 ((yc + 1), (yn - 1), (upd yf yc (g52 (yn - 1)))) ⟨(show (yn - 1) ≤ zn by omega), (show RS kq s0 f0 (xx + 1) 0 (upd yf yc (g52 (yn - 1))) g52 (yc + 1) (yn - 1) az from rs_drop hRy_ (by omega) (show yn = yn - 1 + 1 by omega) (Or.inr (by rw [e511]; decide)))⟩ (show (yn - 1) < yn by omega)
    · refine j_aload_n (pc := 16) C d_Model_goesOnTest_16 rfl 0 rfl ?_
      refine j_callVi (pc := 17) C (c_M_hasSquare l D y mo ma t1 u397 t3 i4 0 i6 i7 i8 i42 i49 (nI zc) zn z197 i59 i61 i64 i66 t67 i76 i78 g52 (by omega)) kw_Model_380 kv_Model_hasSquare 0 10 rfl rfl ⟨by decide, by decide⟩ ⟨by decide, by decide⟩ (wr := [(ma 33, .inl (y 3, 2, .inl g33)), (ma 34, .inl (y 3, 3, .inl g34)), (ma 50, .inl (y 0, 3200, .inl zf)), (ma 0, .inl (y 0, 1600, .inl g0))]) [4, 3] [0, 1, 2, 5] rfl rfl (by decide) (by decide) (by decide) (As := []) (rest := []) rfl (nb rfl) rfl d_Model_goesOnTest_17 (fun r512 _ hr512 => ?_)
      refine j_ws (ws' := [(ma 33, .inl (y 3, 2, .inl g33)), (ma 34, .inl (y 3, 3, .inl g34)), (ma 50, .inl (y 0, 3200, .inl zf)), (ma 0, .inl (y 0, 1600, .inl g0)), MB mo ma (nI t1) (nI u397) (nI t3) i4 0 i6 i7 i8 i42 i49 (nI zc) (nI zn) z197 i59 i61 i64 i66 (nI t67) i76 i78, (ma 52, .inl (y 0, 1700, .inl g52))]) rfl ?_
      rcases hr512 with ⟨rfl, xh514⟩ | ⟨rfl, xh515⟩
      · refine j_if_eqT (pc := 20) C (tgt := 76) d_Model_goesOnTest_20 (by decide) (by decide) ?_
        refine j_aload_n (pc := 76) C d_Model_goesOnTest_76 rfl 0 rfl ?_
        refine j_aload_n (pc := 77) C d_Model_goesOnTest_77 rfl 0 rfl ?_
        refine j_get (pc := 78) C gf_Model_93 4 rfl rfl d_Model_goesOnTest_78 ?_
        refine j_callVi (pc := 81) C (c_M_takes_3 l D y mo (ma 34) ma t1 u397 t3 i4 0 i6 i7 i8 i42 i49 (nI zc) (nI zn) z197 i59 i61 i64 i66 t67 i76 i78 g0 g34 xh399 he) kw_Model_228 kv_Model_takes 0 10 rfl rfl ⟨by decide, by decide⟩ ⟨by decide, by decide⟩ (wr := [(ma 33, .inl (y 3, 2, .inl g33)), (ma 50, .inl (y 0, 3200, .inl zf)), (ma 52, .inl (y 0, 1700, .inl g52))]) [4, 3, 1] [0, 2, 5] rfl rfl (by decide) (by decide) (by decide) (As := [.ref (ma 34)]) (rest := []) rfl (nb rfl) rfl d_Model_goesOnTest_81 (fun r516 u517 hr516 => ?_)
        refine j_ws (ws' := [(ma 33, .inl (y 3, 2, .inl g33)), (ma 50, .inl (y 0, 3200, .inl zf)), (ma 52, .inl (y 0, 1700, .inl g52)), MB mo ma (nI t1) (nI u517.1) (nI t3) u517.2 0 i6 i7 i8 i42 i49 (nI zc) (nI zn) z197 i59 i61 i64 i66 (nI t67) i76 i78, (ma 0, .inl (y 0, 1600, .inl g0)), (ma 34, .inl (y 3, 3, .inl g34))]) rfl ?_
        obtain ⟨xh518, xh519, xh520⟩ := hr516
        rcases xh520 with rfl | ⟨rfl, xh521⟩
        · refine j_if_eqT (pc := 84) C (tgt := 126) d_Model_goesOnTest_84 (by decide) (by decide) ?_
          refine j_aload_n (pc := 126) C d_Model_goesOnTest_126 rfl 0 rfl ?_
          refine j_aload_n (pc := 127) C d_Model_goesOnTest_127 rfl 0 rfl ?_
          refine j_get (pc := 128) C gf_Model_90 3 rfl rfl d_Model_goesOnTest_128 ?_
          refine j_callVi (pc := 131) C (c_M_takes_2 l D y mo (ma 33) ma t1 u517.1 t3 u517.2 0 i6 i7 i8 i42 i49 (nI zc) (nI zn) z197 i59 i61 i64 i66 t67 i76 i78 g0 g33 xh519 he) kw_Model_228 kv_Model_takes 0 10 rfl rfl ⟨by decide, by decide⟩ ⟨by decide, by decide⟩ (wr := [(ma 50, .inl (y 0, 3200, .inl zf)), (ma 52, .inl (y 0, 1700, .inl g52)), (ma 34, .inl (y 3, 3, .inl g34))]) [3, 4, 0] [1, 2, 5] rfl rfl (by decide) (by decide) (by decide) (As := [.ref (ma 33)]) (rest := []) rfl (nb rfl) rfl d_Model_goesOnTest_131 (fun r522 u523 hr522 => ?_)
          refine j_ws (ws' := [(ma 50, .inl (y 0, 3200, .inl zf)), (ma 52, .inl (y 0, 1700, .inl g52)), (ma 34, .inl (y 3, 3, .inl g34)), MB mo ma (nI t1) (nI u523.1) (nI t3) u523.2 0 i6 i7 i8 i42 i49 (nI zc) (nI zn) z197 i59 i61 i64 i66 (nI t67) i76 i78, (ma 0, .inl (y 0, 1600, .inl g0)), (ma 33, .inl (y 3, 2, .inl g33))]) rfl ?_
          obtain ⟨xh524, xh525, xh526⟩ := hr522
          rcases xh526 with rfl | ⟨rfl, xh527⟩
          · refine j_if_eqT (pc := 134) C (tgt := 185) d_Model_goesOnTest_134 (by decide) (by decide) ?_
            refine j_aload_n (pc := 185) C d_Model_goesOnTest_185 rfl 0 rfl ?_
            refine j_get (pc := 186) C gf_Model_201 3 rfl rfl d_Model_goesOnTest_186 ?_
            refine j_if_neF (pc := 189) C (tgt := 208) d_Model_goesOnTest_189 (by decide) (by decide) ?_
            refine j_aload_n (pc := 192) C d_Model_goesOnTest_192 rfl 0 rfl ?_
            refine j_callVi (pc := 193) C (c_M_hasSquare l D y mo ma t1 u523.1 t3 u523.2 0 i6 i7 i8 i42 i49 (nI zc) zn z197 i59 i61 i64 i66 t67 i76 i78 g52 (by omega)) kw_Model_380 kv_Model_hasSquare 0 10 rfl rfl ⟨by decide, by decide⟩ ⟨by decide, by decide⟩ (wr := [(ma 50, .inl (y 0, 3200, .inl zf)), (ma 34, .inl (y 3, 3, .inl g34)), (ma 0, .inl (y 0, 1600, .inl g0)), (ma 33, .inl (y 3, 2, .inl g33))]) [3, 1] [0, 2, 4, 5] rfl rfl (by decide) (by decide) (by decide) (As := []) (rest := []) rfl (nb rfl) rfl d_Model_goesOnTest_193 (fun r528 _ hr528 => ?_)
            refine j_ws (ws' := [(ma 50, .inl (y 0, 3200, .inl zf)), (ma 34, .inl (y 3, 3, .inl g34)), (ma 0, .inl (y 0, 1600, .inl g0)), (ma 33, .inl (y 3, 2, .inl g33)), MB mo ma (nI t1) (nI u523.1) (nI t3) u523.2 0 i6 i7 i8 i42 i49 (nI zc) (nI zn) z197 i59 i61 i64 i66 (nI t67) i76 i78, (ma 52, .inl (y 0, 1700, .inl g52))]) rfl ?_
            rcases hr528 with ⟨rfl, xh530⟩ | ⟨rfl, xh531⟩
            · refine j_if_eqT (pc := 196) C (tgt := 208) d_Model_goesOnTest_196 (by decide) (by decide) ?_
              refine j_iconst (pc := 208) C (v := 0) d_Model_goesOnTest_208 (by decide) ?_
              exact j_iret (pc := 209) C hr (by decide) (u523.1, u523.2, 0, i6, zc, zn, z197, zf, g52) ⟨(show t2 ≤ u523.1 by omega), (show u523.1 ≤ t3 by omega), (fun _ => ⟨rfl, show t2 ≤ u523.1 by omega⟩), (it_le hTT (by omega)), (Or.inr ⟨rfl, (rs_at hR_ (show az ≤ u523.1 by omega)), (fun _ => xh530)⟩)⟩ [4, 2, 3, 1, 0, 5] rfl (by decide) (by decide) (by decide) d_Model_goesOnTest_209
            · refine j_if_eqF (pc := 196) C (tgt := 208) d_Model_goesOnTest_196 (by decide) (by decide) ?_
              refine j_aload_n (pc := 199) C d_Model_goesOnTest_199 rfl 0 rfl ?_
              refine j_iconst (pc := 200) C (v := 1) d_Model_goesOnTest_200 (by decide) ?_
              refine j_aload_n (pc := 201) C d_Model_goesOnTest_201 rfl 0 rfl ?_
              refine j_get (pc := 202) C gf_Model_207 4 rfl rfl d_Model_goesOnTest_202 ?_
              refine j_callVv (pc := 205) C (c_M_fail l D y mo ma t1 u523.1 t3 u523.2 0 i6 i7 i8 i42 i49 (nI zc) (nI zn) z197 i59 i61 i64 i66 t67 i76 i78 1 (nI u523.1) (by decide)) kw_Model_230 kv_Model_fail 0 10 rfl rfl ⟨by decide, by decide⟩ ⟨by decide, by decide⟩ (wr := [(ma 50, .inl (y 0, 3200, .inl zf)), (ma 34, .inl (y 3, 3, .inl g34)), (ma 0, .inl (y 0, 1600, .inl g0)), (ma 33, .inl (y 3, 2, .inl g33)), (ma 52, .inl (y 0, 1700, .inl g52))]) [4] [0, 1, 2, 3, 5] rfl rfl (by decide) (by decide) (by decide) (As := [.int 1, .int (nI u523.1)]) (rest := []) rfl (nb rfl) rfl d_Model_goesOnTest_205 (fun u532 hu533 => ?_)
              have xh534 := hu533
              refine j_ws (ws' := [(ma 50, .inl (y 0, 3200, .inl zf)), (ma 34, .inl (y 3, 3, .inl g34)), (ma 0, .inl (y 0, 1600, .inl g0)), (ma 33, .inl (y 3, 2, .inl g33)), (ma 52, .inl (y 0, 1700, .inl g52)), MB mo ma (nI t1) (nI u523.1) (nI t3) u523.2 u532.1 u532.2 i7 i8 i42 i49 (nI zc) (nI zn) z197 i59 i61 i64 i66 (nI t67) i76 i78]) rfl ?_
              refine j_iconst (pc := 208) C (v := 0) d_Model_goesOnTest_208 (by decide) ?_
              have xh535 : RS kq s0 f0 (xx + 1) u532.1 zf g52 zc zn az := rs_bad hR_ xh534
              exact j_iret (pc := 209) C hr (by decide) (u523.1, u523.2, u532.1, u532.2, zc, zn, z197, zf, g52) ⟨(show t2 ≤ u523.1 by omega), (show u523.1 ≤ t3 by omega), (fun _ => ⟨rfl, show t2 ≤ u523.1 by omega⟩), (it_le hTT (by omega)), (Or.inr ⟨rfl, (rs_at xh535 (show az ≤ u523.1 by omega)), (fun e => absurd e xh534)⟩)⟩ [5, 2, 3, 1, 0, 4] rfl (by decide) (by decide) (by decide) d_Model_goesOnTest_209
          · refine j_if_eqF (pc := 134) C (tgt := 185) d_Model_goesOnTest_134 (by decide) (by decide) ?_
            refine j_loop (α := Nat × Nat × (Nat → Int32)) (fun a => a.2.1) (fun a => (a.2.1 ≤ zn) ∧ (RS kq s0 f0 (xx + 1) 0 a.2.2 g52 a.1 a.2.1 az)) (fun a => [(ma 50, .inl (y 0, 3200, .inl a.2.2)), (ma 52, .inl (y 0, 1700, .inl g52)), (ma 34, .inl (y 3, 3, .inl g34)), MB mo ma (nI t1) (nI u523.1) (nI t3) u523.2 0 i6 i7 i8 i42 i49 (nI a.1) (nI a.2.1) z197 i59 i61 i64 i66 (nI t67) i76 i78, (ma 0, .inl (y 0, 1600, .inl g0)), (ma 33, .inl (y 3, 2, .inl g33))]) (fun a => [(0, .ref mo)]) (zc, zn, zf) rfl rfl ⟨(show zn ≤ zn by omega), hR_⟩ ?_
            rintro ⟨yc, yn, yf⟩ hP546 ih547
            obtain ⟨hny__, hRy__⟩ := hP546
            have hny_ : yn ≤ zn := hny__
            have hRy_ : RS kq s0 f0 (xx + 1) 0 yf g52 yc yn az := hRy__
            refine j_ws (ws' := [(ma 50, .inl (y 0, 3200, .inl yf)), (ma 52, .inl (y 0, 1700, .inl g52)), (ma 34, .inl (y 3, 3, .inl g34)), MB mo ma (nI t1) (nI u523.1) (nI t3) u523.2 0 i6 i7 i8 i42 i49 (nI yc) (nI yn) z197 i59 i61 i64 i66 (nI t67) i76 i78, (ma 0, .inl (y 0, 1600, .inl g0)), (ma 33, .inl (y 3, 2, .inl g33))]) rfl ?_
            refine j_lv (lv' := [(0, .ref mo)]) rfl ?_
            have hacy := rs_ac3 hRy_
            refine j_aload_n (pc := 137) C d_Model_goesOnTest_137 rfl 0 rfl ?_
            refine j_bipush (pc := 138) C (v := 14) d_Model_goesOnTest_138 (by decide) ?_
            refine j_callVi (pc := 140) C (c_M_isOn l D y mo ma t1 u523.1 t3 u523.2 0 i6 i7 i8 i42 i49 (nI yc) yn z197 i59 i61 i64 i66 t67 i76 i78 g52 14 (by omega)) kw_Model_362 kv_Model_isOn 0 10 rfl rfl ⟨by decide, by decide⟩ ⟨by decide, by decide⟩ (wr := [(ma 50, .inl (y 0, 3200, .inl yf)), (ma 34, .inl (y 3, 3, .inl g34)), (ma 0, .inl (y 0, 1600, .inl g0)), (ma 33, .inl (y 3, 2, .inl g33))]) [3, 1] [0, 2, 4, 5] rfl rfl (by decide) (by decide) (by decide) (As := [.int 14]) (rest := []) rfl (nb rfl) rfl d_Model_goesOnTest_140 (fun r548 _ hr548 => ?_)
            refine j_ws (ws' := [(ma 50, .inl (y 0, 3200, .inl yf)), (ma 34, .inl (y 3, 3, .inl g34)), (ma 0, .inl (y 0, 1600, .inl g0)), (ma 33, .inl (y 3, 2, .inl g33)), MB mo ma (nI t1) (nI u523.1) (nI t3) u523.2 0 i6 i7 i8 i42 i49 (nI yc) (nI yn) z197 i59 i61 i64 i66 (nI t67) i76 i78, (ma 52, .inl (y 0, 1700, .inl g52))]) rfl ?_
            rcases hr548 with ⟨rfl, xh550⟩ | ⟨rfl, xh551, e552⟩
            · refine j_if_neF (pc := 143) C (tgt := 155) d_Model_goesOnTest_143 (by decide) (by decide) ?_
              refine j_aload_n (pc := 146) C d_Model_goesOnTest_146 rfl 0 rfl ?_
              refine j_bipush (pc := 147) C (v := 15) d_Model_goesOnTest_147 (by decide) ?_
              refine j_callVi (pc := 149) C (c_M_isOn l D y mo ma t1 u523.1 t3 u523.2 0 i6 i7 i8 i42 i49 (nI yc) yn z197 i59 i61 i64 i66 t67 i76 i78 g52 15 (by omega)) kw_Model_362 kv_Model_isOn 0 10 rfl rfl ⟨by decide, by decide⟩ ⟨by decide, by decide⟩ (wr := [(ma 50, .inl (y 0, 3200, .inl yf)), (ma 34, .inl (y 3, 3, .inl g34)), (ma 0, .inl (y 0, 1600, .inl g0)), (ma 33, .inl (y 3, 2, .inl g33))]) [4, 5] [0, 1, 2, 3] rfl rfl (by decide) (by decide) (by decide) (As := [.int 15]) (rest := []) rfl (nb rfl) rfl d_Model_goesOnTest_149 (fun r553 _ hr553 => ?_)
              refine j_ws (ws' := [(ma 50, .inl (y 0, 3200, .inl yf)), (ma 34, .inl (y 3, 3, .inl g34)), (ma 0, .inl (y 0, 1600, .inl g0)), (ma 33, .inl (y 3, 2, .inl g33)), MB mo ma (nI t1) (nI u523.1) (nI t3) u523.2 0 i6 i7 i8 i42 i49 (nI yc) (nI yn) z197 i59 i61 i64 i66 (nI t67) i76 i78, (ma 52, .inl (y 0, 1700, .inl g52))]) rfl ?_
              rcases hr553 with ⟨rfl, xh555⟩ | ⟨rfl, xh556, e557⟩
              · refine j_if_eqT (pc := 152) C (tgt := 162) d_Model_goesOnTest_152 (by decide) (by decide) ?_
                refine j_aload_n (pc := 162) C d_Model_goesOnTest_162 rfl 0 rfl ?_
                refine j_get (pc := 163) C gf_Model_139 4 rfl rfl d_Model_goesOnTest_163 ?_
                refine j_aload_n (pc := 166) C d_Model_goesOnTest_166 rfl 0 rfl ?_
                refine j_get (pc := 167) C gf_Model_292 4 rfl rfl d_Model_goesOnTest_167 ?_
                refine j_bipush (pc := 170) C (v := 15) d_Model_goesOnTest_170 (by decide) ?_
                refine j_iast (pc := 172) C 5 rfl (ws' := [(ma 50, .inl (y 0, 3200, .inl yf)), (ma 34, .inl (y 3, 3, .inl g34)), (ma 0, .inl (y 0, 1600, .inl g0)), (ma 33, .inl (y 3, 2, .inl g33)), MB mo ma (nI t1) (nI u523.1) (nI t3) u523.2 0 i6 i7 i8 i42 i49 (nI yc) (nI yn) z197 i59 i61 i64 i66 (nI t67) i76 i78, (ma 52, .inl (y 0, 1700, .inl (upd g52 yn 15)))]) (vp_in_nI (by omega) (by decide)) (by rw [nI_clamp (by omega)]; rfl) d_Model_goesOnTest_172 ?_
                refine j_aload_n (pc := 173) C d_Model_goesOnTest_173 rfl 0 rfl ?_
                refine j_dup (pc := 174) C d_Model_goesOnTest_174 rfl ?_
                refine j_get (pc := 175) C gf_Model_292 4 rfl rfl d_Model_goesOnTest_175 ?_
                refine j_iconst (pc := 178) C (v := 1) d_Model_goesOnTest_178 (by decide) ?_
                refine j_iadd (pc := 179) C (v := nI (yn + 1)) d_Model_goesOnTest_179 (nI_add _ _) ?_
                refine j_put (pc := 180) C pf_Model_292 4 (ws' := [(ma 50, .inl (y 0, 3200, .inl yf)), (ma 34, .inl (y 3, 3, .inl g34)), (ma 0, .inl (y 0, 1600, .inl g0)), (ma 33, .inl (y 3, 2, .inl g33)), MB mo ma (nI t1) (nI u523.1) (nI t3) u523.2 0 i6 i7 i8 i42 i49 (nI yc) (nI (yn + 1)) z197 i59 i61 i64 i66 (nI t67) i76 i78, (ma 52, .inl (y 0, 1700, .inl (upd g52 yn 15)))]) rfl rfl rfl (nl rfl) rfl d_Model_goesOnTest_180 ?_
                refine j_iconst (pc := 183) C (v := 1) d_Model_goesOnTest_183 (by decide) ?_
                exact j_iret (pc := 184) C hr (by decide) (u523.1, u523.2, 0, i6, yc, (yn + 1), z197, yf, (upd g52 yn 15)) ⟨(show t2 ≤ u523.1 by omega), (show u523.1 ≤ t3 by omega), (fun _ => ⟨rfl, show t2 ≤ u523.1 by omega⟩), (it_push (it_le hTT (show yn ≤ wn by omega)) (by decide)), (Or.inl ⟨rfl, rfl, rs_op hRy_ (by decide) (show az < u523.1 by omega)⟩)⟩ [4, 2, 3, 1, 0, 5] rfl (by decide) (by decide) (by decide) d_Model_goesOnTest_184
              · refine j_if_eqF (pc := 152) C (tgt := 162) d_Model_goesOnTest_152 (by decide) (by decide) ?_
                refine j_aload_n (pc := 155) C d_Model_goesOnTest_155 rfl 0 rfl ?_
                refine j_callVv (pc := 156) C (c_M_drops l D y mo ma t1 u523.1 t3 u523.2 0 i6 i7 i8 i42 i49 yc yn z197 i59 i61 i64 i66 t67 i76 i78 yf g52 (by omega) (by omega) (by omega)) kw_Model_350 kv_Model_drops 0 10 rfl rfl ⟨by decide, by decide⟩ ⟨by decide, by decide⟩ (wr := [(ma 34, .inl (y 3, 3, .inl g34)), (ma 0, .inl (y 0, 1600, .inl g0)), (ma 33, .inl (y 3, 2, .inl g33))]) [4, 0, 5] [1, 2, 3] rfl rfl (by decide) (by decide) (by decide) (As := []) (rest := []) rfl (nb rfl) rfl d_Model_goesOnTest_156 (fun _ _ => ?_)
                refine j_ws (ws' := [(ma 34, .inl (y 3, 3, .inl g34)), (ma 0, .inl (y 0, 1600, .inl g0)), (ma 33, .inl (y 3, 2, .inl g33)), MB mo ma (nI t1) (nI u523.1) (nI t3) u523.2 0 i6 i7 i8 i42 i49 (nI (yc + 1)) (nI (yn - 1)) z197 i59 i61 i64 i66 (nI t67) i76 i78, (ma 50, .inl (y 0, 3200, .inl (upd yf yc (g52 (yn - 1))))), (ma 52, .inl (y 0, 1700, .inl g52))]) rfl ?_
                refine j_goto (pc := 159) C (tgt := 137) d_Model_goesOnTest_159 (by decide) ?_
                refine j_sub (ws' := [(ma 50, .inl (y 0, 3200, .inl (upd yf yc (g52 (yn - 1))))), (ma 52, .inl (y 0, 1700, .inl g52)), (ma 34, .inl (y 3, 3, .inl g34)), MB mo ma (nI t1) (nI u523.1) (nI t3) u523.2 0 i6 i7 i8 i42 i49 (nI (yc + 1)) (nI (yn - 1)) z197 i59 i61 i64 i66 (nI t67) i76 i78, (ma 0, .inl (y 0, 1600, .inl g0)), (ma 33, .inl (y 3, 2, .inl g33))]) [4, 5, 0, 3, 1, 2] rfl (by decide) ?_
                exact ih547 ((yc + 1), (yn - 1), (upd yf yc (g52 (yn - 1)))) ⟨(show (yn - 1) ≤ zn by omega), (show RS kq s0 f0 (xx + 1) 0 (upd yf yc (g52 (yn - 1))) g52 (yc + 1) (yn - 1) az from rs_drop hRy_ (by omega) (show yn = yn - 1 + 1 by omega) (Or.inr (by rw [e557]; decide)))⟩ (show (yn - 1) < yn by omega)
            · refine j_if_neT (pc := 143) C (tgt := 155) d_Model_goesOnTest_143 (by decide) (by decide) ?_
              refine j_aload_n (pc := 155) C d_Model_goesOnTest_155 rfl 0 rfl ?_
              refine j_callVv (pc := 156) C (c_M_drops l D y mo ma t1 u523.1 t3 u523.2 0 i6 i7 i8 i42 i49 yc yn z197 i59 i61 i64 i66 t67 i76 i78 yf g52 (by omega) (by omega) (by omega)) kw_Model_350 kv_Model_drops 0 10 rfl rfl ⟨by decide, by decide⟩ ⟨by decide, by decide⟩ (wr := [(ma 34, .inl (y 3, 3, .inl g34)), (ma 0, .inl (y 0, 1600, .inl g0)), (ma 33, .inl (y 3, 2, .inl g33))]) [4, 0, 5] [1, 2, 3] rfl rfl (by decide) (by decide) (by decide) (As := []) (rest := []) rfl (nb rfl) rfl d_Model_goesOnTest_156 (fun _ _ => ?_)
              refine j_ws (ws' := [(ma 34, .inl (y 3, 3, .inl g34)), (ma 0, .inl (y 0, 1600, .inl g0)), (ma 33, .inl (y 3, 2, .inl g33)), MB mo ma (nI t1) (nI u523.1) (nI t3) u523.2 0 i6 i7 i8 i42 i49 (nI (yc + 1)) (nI (yn - 1)) z197 i59 i61 i64 i66 (nI t67) i76 i78, (ma 50, .inl (y 0, 3200, .inl (upd yf yc (g52 (yn - 1))))), (ma 52, .inl (y 0, 1700, .inl g52))]) rfl ?_
              refine j_goto (pc := 159) C (tgt := 137) d_Model_goesOnTest_159 (by decide) ?_
              refine j_sub (ws' := [(ma 50, .inl (y 0, 3200, .inl (upd yf yc (g52 (yn - 1))))), (ma 52, .inl (y 0, 1700, .inl g52)), (ma 34, .inl (y 3, 3, .inl g34)), MB mo ma (nI t1) (nI u523.1) (nI t3) u523.2 0 i6 i7 i8 i42 i49 (nI (yc + 1)) (nI (yn - 1)) z197 i59 i61 i64 i66 (nI t67) i76 i78, (ma 0, .inl (y 0, 1600, .inl g0)), (ma 33, .inl (y 3, 2, .inl g33))]) [4, 5, 0, 3, 1, 2] rfl (by decide) ?_
              exact ih547 ((yc + 1), (yn - 1), (upd yf yc (g52 (yn - 1)))) ⟨(show (yn - 1) ≤ zn by omega), (show RS kq s0 f0 (xx + 1) 0 (upd yf yc (g52 (yn - 1))) g52 (yc + 1) (yn - 1) az from rs_drop hRy_ (by omega) (show yn = yn - 1 + 1 by omega) (Or.inr (by rw [e552]; decide)))⟩ (show (yn - 1) < yn by omega)
        · refine j_if_eqF (pc := 84) C (tgt := 126) d_Model_goesOnTest_84 (by decide) (by decide) ?_
          refine j_loop (α := Nat × Nat × (Nat → Int32)) (fun a => a.2.1) (fun a => (a.2.1 ≤ zn) ∧ (RS kq s0 f0 (xx + 1) 0 a.2.2 g52 a.1 a.2.1 az)) (fun a => [(ma 33, .inl (y 3, 2, .inl g33)), (ma 50, .inl (y 0, 3200, .inl a.2.2)), (ma 52, .inl (y 0, 1700, .inl g52)), MB mo ma (nI t1) (nI u517.1) (nI t3) u517.2 0 i6 i7 i8 i42 i49 (nI a.1) (nI a.2.1) z197 i59 i61 i64 i66 (nI t67) i76 i78, (ma 0, .inl (y 0, 1600, .inl g0)), (ma 34, .inl (y 3, 3, .inl g34))]) (fun a => [(0, .ref mo)]) (zc, zn, zf) rfl rfl ⟨(show zn ≤ zn by omega), hR_⟩ ?_
          rintro ⟨yc, yn, yf⟩ hP563 ih564
          obtain ⟨hny__, hRy__⟩ := hP563
          have hny_ : yn ≤ zn := hny__
          have hRy_ : RS kq s0 f0 (xx + 1) 0 yf g52 yc yn az := hRy__
          refine j_ws (ws' := [(ma 33, .inl (y 3, 2, .inl g33)), (ma 50, .inl (y 0, 3200, .inl yf)), (ma 52, .inl (y 0, 1700, .inl g52)), MB mo ma (nI t1) (nI u517.1) (nI t3) u517.2 0 i6 i7 i8 i42 i49 (nI yc) (nI yn) z197 i59 i61 i64 i66 (nI t67) i76 i78, (ma 0, .inl (y 0, 1600, .inl g0)), (ma 34, .inl (y 3, 3, .inl g34))]) rfl ?_
          refine j_lv (lv' := [(0, .ref mo)]) rfl ?_
          have hacy := rs_ac3 hRy_
          refine j_aload_n (pc := 87) C d_Model_goesOnTest_87 rfl 0 rfl ?_
          refine j_bipush (pc := 88) C (v := 14) d_Model_goesOnTest_88 (by decide) ?_
          refine j_callVi (pc := 90) C (c_M_isOn l D y mo ma t1 u517.1 t3 u517.2 0 i6 i7 i8 i42 i49 (nI yc) yn z197 i59 i61 i64 i66 t67 i76 i78 g52 14 (by omega)) kw_Model_362 kv_Model_isOn 0 10 rfl rfl ⟨by decide, by decide⟩ ⟨by decide, by decide⟩ (wr := [(ma 33, .inl (y 3, 2, .inl g33)), (ma 50, .inl (y 0, 3200, .inl yf)), (ma 0, .inl (y 0, 1600, .inl g0)), (ma 34, .inl (y 3, 3, .inl g34))]) [3, 2] [0, 1, 4, 5] rfl rfl (by decide) (by decide) (by decide) (As := [.int 14]) (rest := []) rfl (nb rfl) rfl d_Model_goesOnTest_90 (fun r565 _ hr565 => ?_)
          refine j_ws (ws' := [(ma 33, .inl (y 3, 2, .inl g33)), (ma 50, .inl (y 0, 3200, .inl yf)), (ma 0, .inl (y 0, 1600, .inl g0)), (ma 34, .inl (y 3, 3, .inl g34)), MB mo ma (nI t1) (nI u517.1) (nI t3) u517.2 0 i6 i7 i8 i42 i49 (nI yc) (nI yn) z197 i59 i61 i64 i66 (nI t67) i76 i78, (ma 52, .inl (y 0, 1700, .inl g52))]) rfl ?_
          rcases hr565 with ⟨rfl, xh567⟩ | ⟨rfl, xh568, e569⟩
          · refine j_if_eqT (pc := 93) C (tgt := 103) d_Model_goesOnTest_93 (by decide) (by decide) ?_
            refine j_aload_n (pc := 103) C d_Model_goesOnTest_103 rfl 0 rfl ?_
            refine j_get (pc := 104) C gf_Model_139 4 rfl rfl d_Model_goesOnTest_104 ?_
            refine j_aload_n (pc := 107) C d_Model_goesOnTest_107 rfl 0 rfl ?_
            refine j_get (pc := 108) C gf_Model_292 4 rfl rfl d_Model_goesOnTest_108 ?_
            refine j_bipush (pc := 111) C (v := 14) d_Model_goesOnTest_111 (by decide) ?_
            refine j_iast (pc := 113) C 5 rfl (ws' := [(ma 33, .inl (y 3, 2, .inl g33)), (ma 50, .inl (y 0, 3200, .inl yf)), (ma 0, .inl (y 0, 1600, .inl g0)), (ma 34, .inl (y 3, 3, .inl g34)), MB mo ma (nI t1) (nI u517.1) (nI t3) u517.2 0 i6 i7 i8 i42 i49 (nI yc) (nI yn) z197 i59 i61 i64 i66 (nI t67) i76 i78, (ma 52, .inl (y 0, 1700, .inl (upd g52 yn 14)))]) (vp_in_nI (by omega) (by decide)) (by rw [nI_clamp (by omega)]; rfl) d_Model_goesOnTest_113 ?_
            refine j_aload_n (pc := 114) C d_Model_goesOnTest_114 rfl 0 rfl ?_
            refine j_dup (pc := 115) C d_Model_goesOnTest_115 rfl ?_
            refine j_get (pc := 116) C gf_Model_292 4 rfl rfl d_Model_goesOnTest_116 ?_
            refine j_iconst (pc := 119) C (v := 1) d_Model_goesOnTest_119 (by decide) ?_
            refine j_iadd (pc := 120) C (v := nI (yn + 1)) d_Model_goesOnTest_120 (nI_add _ _) ?_
            refine j_put (pc := 121) C pf_Model_292 4 (ws' := [(ma 33, .inl (y 3, 2, .inl g33)), (ma 50, .inl (y 0, 3200, .inl yf)), (ma 0, .inl (y 0, 1600, .inl g0)), (ma 34, .inl (y 3, 3, .inl g34)), MB mo ma (nI t1) (nI u517.1) (nI t3) u517.2 0 i6 i7 i8 i42 i49 (nI yc) (nI (yn + 1)) z197 i59 i61 i64 i66 (nI t67) i76 i78, (ma 52, .inl (y 0, 1700, .inl (upd g52 yn 14)))]) rfl rfl rfl (nl rfl) rfl d_Model_goesOnTest_121 ?_
            refine j_iconst (pc := 124) C (v := 1) d_Model_goesOnTest_124 (by decide) ?_
            exact j_iret (pc := 125) C hr (by decide) (u517.1, u517.2, 0, i6, yc, (yn + 1), z197, yf, (upd g52 yn 14)) ⟨(show t2 ≤ u517.1 by omega), (show u517.1 ≤ t3 by omega), (fun _ => ⟨rfl, show t2 ≤ u517.1 by omega⟩), (it_push (it_le hTT (show yn ≤ wn by omega)) (by decide)), (Or.inl ⟨rfl, rfl, rs_op hRy_ (by decide) (show az < u517.1 by omega)⟩)⟩ [4, 2, 0, 3, 1, 5] rfl (by decide) (by decide) (by decide) d_Model_goesOnTest_125
          · refine j_if_eqF (pc := 93) C (tgt := 103) d_Model_goesOnTest_93 (by decide) (by decide) ?_
            refine j_aload_n (pc := 96) C d_Model_goesOnTest_96 rfl 0 rfl ?_
            refine j_callVv (pc := 97) C (c_M_drops l D y mo ma t1 u517.1 t3 u517.2 0 i6 i7 i8 i42 i49 yc yn z197 i59 i61 i64 i66 t67 i76 i78 yf g52 (by omega) (by omega) (by omega)) kw_Model_350 kv_Model_drops 0 10 rfl rfl ⟨by decide, by decide⟩ ⟨by decide, by decide⟩ (wr := [(ma 33, .inl (y 3, 2, .inl g33)), (ma 0, .inl (y 0, 1600, .inl g0)), (ma 34, .inl (y 3, 3, .inl g34))]) [4, 1, 5] [0, 2, 3] rfl rfl (by decide) (by decide) (by decide) (As := []) (rest := []) rfl (nb rfl) rfl d_Model_goesOnTest_97 (fun _ _ => ?_)
            refine j_ws (ws' := [(ma 33, .inl (y 3, 2, .inl g33)), (ma 0, .inl (y 0, 1600, .inl g0)), (ma 34, .inl (y 3, 3, .inl g34)), MB mo ma (nI t1) (nI u517.1) (nI t3) u517.2 0 i6 i7 i8 i42 i49 (nI (yc + 1)) (nI (yn - 1)) z197 i59 i61 i64 i66 (nI t67) i76 i78, (ma 50, .inl (y 0, 3200, .inl (upd yf yc (g52 (yn - 1))))), (ma 52, .inl (y 0, 1700, .inl g52))]) rfl ?_
            refine j_goto (pc := 100) C (tgt := 87) d_Model_goesOnTest_100 (by decide) ?_
            refine j_sub (ws' := [(ma 33, .inl (y 3, 2, .inl g33)), (ma 50, .inl (y 0, 3200, .inl (upd yf yc (g52 (yn - 1))))), (ma 52, .inl (y 0, 1700, .inl g52)), MB mo ma (nI t1) (nI u517.1) (nI t3) u517.2 0 i6 i7 i8 i42 i49 (nI (yc + 1)) (nI (yn - 1)) z197 i59 i61 i64 i66 (nI t67) i76 i78, (ma 0, .inl (y 0, 1600, .inl g0)), (ma 34, .inl (y 3, 3, .inl g34))]) [0, 4, 5, 3, 1, 2] rfl (by decide) ?_
            exact ih564 ((yc + 1), (yn - 1), (upd yf yc (g52 (yn - 1)))) ⟨(show (yn - 1) ≤ zn by omega), (show RS kq s0 f0 (xx + 1) 0 (upd yf yc (g52 (yn - 1))) g52 (yc + 1) (yn - 1) az from rs_drop hRy_ (by omega) (show yn = yn - 1 + 1 by omega) (Or.inr (by rw [e569]; decide)))⟩ (show (yn - 1) < yn by omega)
      · refine j_if_eqF (pc := 20) C (tgt := 76) d_Model_goesOnTest_20 (by decide) (by decide) ?_
        have hat := xh401
        refine j_aload_n (pc := 23) C d_Model_goesOnTest_23 rfl 0 rfl ?_
        refine j_dup (pc := 24) C d_Model_goesOnTest_24 rfl ?_
        refine j_get (pc := 25) C gf_Model_207 4 rfl rfl d_Model_goesOnTest_25 ?_
        refine j_iconst (pc := 28) C (v := 1) d_Model_goesOnTest_28 (by decide) ?_
        refine j_iadd (pc := 29) C (v := nI (u397 + 1)) d_Model_goesOnTest_29 (nI_add _ _) ?_
        refine j_put (pc := 30) C pf_Model_207 4 (ws' := [(ma 33, .inl (y 3, 2, .inl g33)), (ma 34, .inl (y 3, 3, .inl g34)), (ma 50, .inl (y 0, 3200, .inl zf)), (ma 0, .inl (y 0, 1600, .inl g0)), MB mo ma (nI t1) (nI (u397 + 1)) (nI t3) i4 0 i6 i7 i8 i42 i49 (nI zc) (nI zn) z197 i59 i61 i64 i66 (nI t67) i76 i78, (ma 52, .inl (y 0, 1700, .inl g52))]) rfl rfl rfl (nl rfl) rfl d_Model_goesOnTest_30 ?_
        refine j_loop (α := Nat × Nat × (Nat → Int32)) (fun a => a.2.1) (fun a => (a.2.1 ≤ zn) ∧ (RS kq s0 f0 (xx + 1) 0 a.2.2 g52 a.1 a.2.1 az) ∧ (HSq g52 a.2.1)) (fun a => [(ma 33, .inl (y 3, 2, .inl g33)), (ma 34, .inl (y 3, 3, .inl g34)), (ma 50, .inl (y 0, 3200, .inl a.2.2)), (ma 0, .inl (y 0, 1600, .inl g0)), MB mo ma (nI t1) (nI (u397 + 1)) (nI t3) i4 0 i6 i7 i8 i42 i49 (nI a.1) (nI a.2.1) z197 i59 i61 i64 i66 (nI t67) i76 i78, (ma 52, .inl (y 0, 1700, .inl g52))]) (fun a => [(0, .ref mo)]) (zc, zn, zf) rfl rfl ⟨(show zn ≤ zn by omega), hR_, xh515⟩ ?_
        rintro ⟨yc, yn, yf⟩ hP580 ih581
        obtain ⟨hny__, hRy__, hQy__⟩ := hP580
        have hny_ : yn ≤ zn := hny__
        have hRy_ : RS kq s0 f0 (xx + 1) 0 yf g52 yc yn az := hRy__
        have hQy_ : HSq g52 yn := hQy__
        refine j_ws (ws' := [(ma 33, .inl (y 3, 2, .inl g33)), (ma 34, .inl (y 3, 3, .inl g34)), (ma 50, .inl (y 0, 3200, .inl yf)), (ma 0, .inl (y 0, 1600, .inl g0)), MB mo ma (nI t1) (nI (u397 + 1)) (nI t3) i4 0 i6 i7 i8 i42 i49 (nI yc) (nI yn) z197 i59 i61 i64 i66 (nI t67) i76 i78, (ma 52, .inl (y 0, 1700, .inl g52))]) rfl ?_
        refine j_lv (lv' := [(0, .ref mo)]) rfl ?_
        have hacy := rs_ac3 hRy_
        refine j_aload_n (pc := 33) C d_Model_goesOnTest_33 rfl 0 rfl ?_
        refine j_bipush (pc := 34) C (v := 25) d_Model_goesOnTest_34 (by decide) ?_
        refine j_callVi (pc := 36) C (c_M_isOn l D y mo ma t1 (u397 + 1) t3 i4 0 i6 i7 i8 i42 i49 (nI yc) yn z197 i59 i61 i64 i66 t67 i76 i78 g52 25 (by omega)) kw_Model_362 kv_Model_isOn 0 10 rfl rfl ⟨by decide, by decide⟩ ⟨by decide, by decide⟩ (wr := [(ma 33, .inl (y 3, 2, .inl g33)), (ma 34, .inl (y 3, 3, .inl g34)), (ma 50, .inl (y 0, 3200, .inl yf)), (ma 0, .inl (y 0, 1600, .inl g0))]) [4, 5] [0, 1, 2, 3] rfl rfl (by decide) (by decide) (by decide) (As := [.int 25]) (rest := []) rfl (nb rfl) rfl d_Model_goesOnTest_36 (fun r582 _ hr582 => ?_)
        refine j_ws (ws' := [(ma 33, .inl (y 3, 2, .inl g33)), (ma 34, .inl (y 3, 3, .inl g34)), (ma 50, .inl (y 0, 3200, .inl yf)), (ma 0, .inl (y 0, 1600, .inl g0)), MB mo ma (nI t1) (nI (u397 + 1)) (nI t3) i4 0 i6 i7 i8 i42 i49 (nI yc) (nI yn) z197 i59 i61 i64 i66 (nI t67) i76 i78, (ma 52, .inl (y 0, 1700, .inl g52))]) rfl ?_
        rcases hr582 with ⟨rfl, xh584⟩ | ⟨rfl, xh585, e586⟩
        · refine j_if_neF (pc := 39) C (tgt := 49) d_Model_goesOnTest_39 (by decide) (by decide) ?_
          have hp1 := hsq_pos hQy_
          have hnq := xh584.resolve_left (by omega)
          refine j_aload_n (pc := 42) C d_Model_goesOnTest_42 rfl 0 rfl ?_
          refine j_callVv (pc := 43) C (c_M_drops l D y mo ma t1 (u397 + 1) t3 i4 0 i6 i7 i8 i42 i49 yc yn z197 i59 i61 i64 i66 t67 i76 i78 yf g52 (by omega) (by omega) (by omega)) kw_Model_350 kv_Model_drops 0 10 rfl rfl ⟨by decide, by decide⟩ ⟨by decide, by decide⟩ (wr := [(ma 33, .inl (y 3, 2, .inl g33)), (ma 34, .inl (y 3, 3, .inl g34)), (ma 0, .inl (y 0, 1600, .inl g0))]) [4, 2, 5] [0, 1, 3] rfl rfl (by decide) (by decide) (by decide) (As := []) (rest := []) rfl (nb rfl) rfl d_Model_goesOnTest_43 (fun _ _ => ?_)
          refine j_ws (ws' := [(ma 33, .inl (y 3, 2, .inl g33)), (ma 34, .inl (y 3, 3, .inl g34)), (ma 0, .inl (y 0, 1600, .inl g0)), MB mo ma (nI t1) (nI (u397 + 1)) (nI t3) i4 0 i6 i7 i8 i42 i49 (nI (yc + 1)) (nI (yn - 1)) z197 i59 i61 i64 i66 (nI t67) i76 i78, (ma 50, .inl (y 0, 3200, .inl (upd yf yc (g52 (yn - 1))))), (ma 52, .inl (y 0, 1700, .inl g52))]) rfl ?_
          refine j_goto (pc := 46) C (tgt := 33) d_Model_goesOnTest_46 (by decide) ?_
          refine j_sub (ws' := [(ma 33, .inl (y 3, 2, .inl g33)), (ma 34, .inl (y 3, 3, .inl g34)), (ma 50, .inl (y 0, 3200, .inl (upd yf yc (g52 (yn - 1))))), (ma 0, .inl (y 0, 1600, .inl g0)), MB mo ma (nI t1) (nI (u397 + 1)) (nI t3) i4 0 i6 i7 i8 i42 i49 (nI (yc + 1)) (nI (yn - 1)) z197 i59 i61 i64 i66 (nI t67) i76 i78, (ma 52, .inl (y 0, 1700, .inl g52))]) [0, 1, 4, 2, 3, 5] rfl (by decide) ?_
          exact ih581 ((yc + 1), (yn - 1), (upd yf yc (g52 (yn - 1)))) ⟨(show (yn - 1) ≤ zn by omega), (show RS kq s0 f0 (xx + 1) 0 (upd yf yc (g52 (yn - 1))) g52 (yc + 1) (yn - 1) az from rs_drop hRy_ (by omega) (show yn = yn - 1 + 1 by omega) (Or.inr (ti_nq (hTT (yn - 1) (by omega)) hnq))), (hsq_dn hQy_ hnq)⟩ (show (yn - 1) < yn by omega)
        · refine j_if_neT (pc := 39) C (tgt := 49) d_Model_goesOnTest_39 (by decide) (by decide) ?_
          refine j_aload_n (pc := 49) C d_Model_goesOnTest_49 rfl 0 rfl ?_
          refine j_dup (pc := 50) C d_Model_goesOnTest_50 rfl ?_
          refine j_get (pc := 51) C gf_Model_292 4 rfl rfl d_Model_goesOnTest_51 ?_
          refine j_iconst (pc := 54) C (v := 1) d_Model_goesOnTest_54 (by decide) ?_
          refine j_isub (pc := 55) C (v := nI (yn - 1)) d_Model_goesOnTest_55 (pk_sub (a := yn) (b := 1) (by omega)) ?_
          refine j_put (pc := 56) C pf_Model_292 4 (ws' := [(ma 33, .inl (y 3, 2, .inl g33)), (ma 34, .inl (y 3, 3, .inl g34)), (ma 50, .inl (y 0, 3200, .inl yf)), (ma 0, .inl (y 0, 1600, .inl g0)), MB mo ma (nI t1) (nI (u397 + 1)) (nI t3) i4 0 i6 i7 i8 i42 i49 (nI yc) (nI (yn - 1)) z197 i59 i61 i64 i66 (nI t67) i76 i78, (ma 52, .inl (y 0, 1700, .inl g52))]) rfl rfl rfl (nl rfl) rfl d_Model_goesOnTest_56 ?_
          refine j_aload_n (pc := 59) C d_Model_goesOnTest_59 rfl 0 rfl ?_
          refine j_dup (pc := 60) C d_Model_goesOnTest_60 rfl ?_
          refine j_get (pc := 61) C gf_Model_295 4 rfl rfl d_Model_goesOnTest_61 ?_
          refine j_iconst (pc := 64) C (v := 1) d_Model_goesOnTest_64 (by decide) ?_
          refine j_isub (pc := 65) C (v := z197 - 1) d_Model_goesOnTest_65 rfl ?_
          refine j_put (pc := 66) C pf_Model_295 4 (ws' := [(ma 33, .inl (y 3, 2, .inl g33)), (ma 34, .inl (y 3, 3, .inl g34)), (ma 50, .inl (y 0, 3200, .inl yf)), (ma 0, .inl (y 0, 1600, .inl g0)), MB mo ma (nI t1) (nI (u397 + 1)) (nI t3) i4 0 i6 i7 i8 i42 i49 (nI yc) (nI (yn - 1)) (z197 - 1) i59 i61 i64 i66 (nI t67) i76 i78, (ma 52, .inl (y 0, 1700, .inl g52))]) rfl rfl rfl (nl rfl) rfl d_Model_goesOnTest_66 ?_
          have xh587 : RS kq s0 f0 (xx + 1) 0 yf g52 yc (yn - 1) az := rs_pop hRy_ (show yn = yn - 1 + 1 by omega) (by rw [e586]; decide)
          refine j_aload_n (pc := 69) C d_Model_goesOnTest_69 rfl 0 rfl ?_
          refine j_callVv (pc := 70) C (c_M_dropsNots l D y mo ma t1 (u397 + 1) t3 i4 0 i6 i7 i8 i42 i49 yc (yn - 1) (z197 - 1) i59 i61 i64 i66 t67 i76 i78 yf g52 s0 xx kq f0 (by omega) he (rs_at xh587 (by omega)) hK) kw_Model_374 kv_Model_dropsNots 0 10 rfl rfl ⟨by decide, by decide⟩ ⟨by decide, by decide⟩ (wr := [(ma 33, .inl (y 3, 2, .inl g33)), (ma 34, .inl (y 3, 3, .inl g34)), (ma 0, .inl (y 0, 1600, .inl g0))]) [4, 2, 5] [0, 1, 3] rfl rfl (by decide) (by decide) (by decide) (As := []) (rest := []) rfl (nb rfl) rfl d_Model_goesOnTest_70 (fun u588 hu589 => ?_)
          obtain ⟨xh590, xh591⟩ := hu589
          refine j_ws (ws' := [(ma 33, .inl (y 3, 2, .inl g33)), (ma 34, .inl (y 3, 3, .inl g34)), (ma 0, .inl (y 0, 1600, .inl g0)), MB mo ma (nI t1) (nI (u397 + 1)) (nI t3) i4 0 i6 i7 i8 i42 i49 (nI u588.1) (nI u588.2.1) u588.2.2.1 i59 i61 i64 i66 (nI t67) i76 i78, (ma 50, .inl (y 0, 3200, .inl u588.2.2.2)), (ma 52, .inl (y 0, 1700, .inl g52))]) rfl ?_
          refine j_goto (pc := 73) C (tgt := 0) d_Model_goesOnTest_73 (by decide) ?_
          refine j_sub (ws' := [MB mo ma (nI t1) (nI (u397 + 1)) (nI t3) i4 0 i6 i7 i8 i42 i49 (nI u588.1) (nI u588.2.1) u588.2.2.1 i59 i61 i64 i66 (nI t67) i76 i78, (ma 0, .inl (y 0, 1600, .inl g0)), (ma 33, .inl (y 3, 2, .inl g33)), (ma 34, .inl (y 3, 3, .inl g34)), (ma 50, .inl (y 0, 3200, .inl u588.2.2.2)), (ma 52, .inl (y 0, 1700, .inl g52))]) [3, 2, 0, 1, 4, 5] rfl (by decide) ?_
          exact ih395 ((u397 + 1), u588.1, u588.2.1, u588.2.2.2, u588.2.2.1) ⟨(show (u397 + 1) ≤ t3 by omega), (show t2 ≤ (u397 + 1) by omega), (show u588.2.1 ≤ wn by omega), (show RS kq s0 f0 (xx + 1) 0 u588.2.2.2 g52 u588.1 u588.2.1 (u397 + 1) from (rs_at xh591 (show u397 + 1 ≤ (u397 + 1) by omega)))⟩ (show t3 - (u397 + 1) < t3 - az by omega)
theorem d_Model_test_0 : decode prog_13_method_44_code 0 = .ok (.iconst 1, 1) := by decide +kernel
theorem d_Model_test_1 : decode prog_13_method_44_code 1 = .ok (.istore_n 1, 1) := by decide +kernel
theorem d_Model_test_2 : decode prog_13_method_44_code 2 = .ok (.iload_n 1, 1) := by decide +kernel
theorem d_Model_test_3 : decode prog_13_method_44_code 3 = .ok (.ifCond .eq 107, 3) := by decide +kernel
theorem d_Model_test_110 : decode prog_13_method_44_code 110 = .ok (.aload_n 0, 1) := by decide +kernel
theorem d_Model_test_111 : decode prog_13_method_44_code 111 = .ok (.getfield 201, 3) := by decide +kernel
theorem d_Model_test_114 : decode prog_13_method_44_code 114 = .ok (.ifCond .ne 17, 3) := by decide +kernel
theorem d_Model_test_131 : decode prog_13_method_44_code 131 = .ok (.return_, 1) := by decide +kernel
theorem d_Model_test_117 : decode prog_13_method_44_code 117 = .ok (.aload_n 0, 1) := by decide +kernel
theorem d_Model_test_118 : decode prog_13_method_44_code 118 = .ok (.getfield 292, 3) := by decide +kernel
theorem d_Model_test_121 : decode prog_13_method_44_code 121 = .ok (.ifCond .le 10, 3) := by decide +kernel
theorem d_Model_test_124 : decode prog_13_method_44_code 124 = .ok (.aload_n 0, 1) := by decide +kernel
theorem d_Model_test_125 : decode prog_13_method_44_code 125 = .ok (.invokevirtual 350, 3) := by decide +kernel
theorem d_Model_test_128 : decode prog_13_method_44_code 128 = .ok (.goto (-18), 3) := by decide +kernel
theorem d_Model_test_6 : decode prog_13_method_44_code 6 = .ok (.aload_n 0, 1) := by decide +kernel
theorem d_Model_test_7 : decode prog_13_method_44_code 7 = .ok (.getfield 201, 3) := by decide +kernel
theorem d_Model_test_10 : decode prog_13_method_44_code 10 = .ok (.ifCond .ne 100, 3) := by decide +kernel
theorem d_Model_test_13 : decode prog_13_method_44_code 13 = .ok (.aload_n 0, 1) := by decide +kernel
theorem d_Model_test_14 : decode prog_13_method_44_code 14 = .ok (.invokevirtual 213, 3) := by decide +kernel
theorem d_Model_test_17 : decode prog_13_method_44_code 17 = .ok (.istore_n 2, 1) := by decide +kernel
theorem d_Model_test_18 : decode prog_13_method_44_code 18 = .ok (.iload_n 2, 1) := by decide +kernel
theorem d_Model_test_19 : decode prog_13_method_44_code 19 = .ok (.bipush 91, 2) := by decide +kernel
theorem d_Model_test_21 : decode prog_13_method_44_code 21 = .ok (.if_icmp .ne 26, 3) := by decide +kernel
theorem d_Model_test_47 : decode prog_13_method_44_code 47 = .ok (.aload_n 0, 1) := by decide +kernel
theorem d_Model_test_48 : decode prog_13_method_44_code 48 = .ok (.aload_n 0, 1) := by decide +kernel
theorem d_Model_test_49 : decode prog_13_method_44_code 49 = .ok (.getfield 96, 3) := by decide +kernel
theorem d_Model_test_52 : decode prog_13_method_44_code 52 = .ok (.invokevirtual 224, 3) := by decide +kernel
theorem d_Model_test_55 : decode prog_13_method_44_code 55 = .ok (.ifCond .eq 24, 3) := by decide +kernel
theorem d_Model_test_79 : decode prog_13_method_44_code 79 = .ok (.aload_n 0, 1) := by decide +kernel
theorem d_Model_test_80 : decode prog_13_method_44_code 80 = .ok (.invokevirtual 371, 3) := by decide +kernel
theorem kw_Model_371 : KW "NineBoardsModel" 371 ⟨"NineBoardsModel", "fact", "()V"⟩ prog_13_method_41_code 2 none 0 := ⟨(mt_7 (List.mem_of_getElem? (i := 3) rfl) rfl), (mt_1 (List.mem_of_getElem? (i := 16) rfl) rfl), (mt_7 (List.mem_of_getElem? (i := 6) rfl) rfl), by decide +kernel⟩
theorem kv_Model_fact : Cond.instanceMethod ⟨"NineBoardsModel", "fact", "()V"⟩ ∈ TB ∧ Cond.selects "NineBoardsModel" ⟨"NineBoardsModel", "fact", "()V"⟩ ⟨"NineBoardsModel", "fact", "()V"⟩ ∈ TB := ⟨(mt_7 (List.mem_of_getElem? (i := 5) rfl) rfl), (ms_0 (List.mem_map.mpr ⟨(⟨"NineBoardsModel", "fact", "()V"⟩, 79), List.mem_of_getElem? (i := 82) (by decide +kernel), rfl⟩) rfl)⟩
theorem d_Model_test_83 : decode prog_13_method_44_code 83 = .ok (.aload_n 0, 1) := by decide +kernel
theorem d_Model_test_84 : decode prog_13_method_44_code 84 = .ok (.invokevirtual 374, 3) := by decide +kernel
theorem d_Model_test_87 : decode prog_13_method_44_code 87 = .ok (.aload_n 0, 1) := by decide +kernel
theorem d_Model_test_88 : decode prog_13_method_44_code 88 = .ok (.getfield 201, 3) := by decide +kernel
theorem d_Model_test_91 : decode prog_13_method_44_code 91 = .ok (.ifCond .ne 14, 3) := by decide +kernel
theorem d_Model_test_94 : decode prog_13_method_44_code 94 = .ok (.aload_n 0, 1) := by decide +kernel
theorem d_Model_test_95 : decode prog_13_method_44_code 95 = .ok (.invokevirtual 377, 3) := by decide +kernel
theorem kw_Model_377 : KW "NineBoardsModel" 377 ⟨"NineBoardsModel", "goesOnTest", "()Z"⟩ prog_13_method_45_code 1 (some .boolean) 0 := ⟨(mt_7 (List.mem_of_getElem? (i := 11) rfl) rfl), (mt_1 (List.mem_of_getElem? (i := 16) rfl) rfl), (mt_7 (List.mem_of_getElem? (i := 14) rfl) rfl), by decide +kernel⟩
theorem kv_Model_goesOnTest : Cond.instanceMethod ⟨"NineBoardsModel", "goesOnTest", "()Z"⟩ ∈ TB ∧ Cond.selects "NineBoardsModel" ⟨"NineBoardsModel", "goesOnTest", "()Z"⟩ ⟨"NineBoardsModel", "goesOnTest", "()Z"⟩ ∈ TB := ⟨(mt_7 (List.mem_of_getElem? (i := 13) rfl) rfl), (ms_0 (List.mem_map.mpr ⟨(⟨"NineBoardsModel", "goesOnTest", "()Z"⟩, 79), List.mem_of_getElem? (i := 84) (by decide +kernel), rfl⟩) rfl)⟩
theorem d_Model_test_98 : decode prog_13_method_44_code 98 = .ok (.ifCond .eq 7, 3) := by decide +kernel
theorem d_Model_test_101 : decode prog_13_method_44_code 101 = .ok (.iconst 1, 1) := by decide +kernel
theorem d_Model_test_102 : decode prog_13_method_44_code 102 = .ok (.goto 4, 3) := by decide +kernel
theorem d_Model_test_106 : decode prog_13_method_44_code 106 = .ok (.istore_n 1, 1) := by decide +kernel
theorem d_Model_test_107 : decode prog_13_method_44_code 107 = .ok (.goto (-105), 3) := by decide +kernel
theorem d_Model_test_105 : decode prog_13_method_44_code 105 = .ok (.iconst 0, 1) := by decide +kernel
theorem d_Model_test_58 : decode prog_13_method_44_code 58 = .ok (.aload_n 0, 1) := by decide +kernel
theorem d_Model_test_59 : decode prog_13_method_44_code 59 = .ok (.bipush 16, 2) := by decide +kernel
theorem d_Model_test_61 : decode prog_13_method_44_code 61 = .ok (.aload_n 0, 1) := by decide +kernel
theorem d_Model_test_62 : decode prog_13_method_44_code 62 = .ok (.getfield 207, 3) := by decide +kernel
theorem d_Model_test_65 : decode prog_13_method_44_code 65 = .ok (.invokevirtual 353, 3) := by decide +kernel
theorem d_Model_test_68 : decode prog_13_method_44_code 68 = .ok (.aload_n 0, 1) := by decide +kernel
theorem d_Model_test_69 : decode prog_13_method_44_code 69 = .ok (.aload_n 0, 1) := by decide +kernel
theorem d_Model_test_70 : decode prog_13_method_44_code 70 = .ok (.getfield 96, 3) := by decide +kernel
theorem d_Model_test_73 : decode prog_13_method_44_code 73 = .ok (.invokevirtual 263, 3) := by decide +kernel
theorem d_Model_test_76 : decode prog_13_method_44_code 76 = .ok (.goto (-74), 3) := by decide +kernel
theorem d_Model_test_24 : decode prog_13_method_44_code 24 = .ok (.aload_n 0, 1) := by decide +kernel
theorem d_Model_test_25 : decode prog_13_method_44_code 25 = .ok (.bipush 25, 2) := by decide +kernel
theorem d_Model_test_27 : decode prog_13_method_44_code 27 = .ok (.aload_n 0, 1) := by decide +kernel
theorem d_Model_test_28 : decode prog_13_method_44_code 28 = .ok (.getfield 207, 3) := by decide +kernel
theorem d_Model_test_31 : decode prog_13_method_44_code 31 = .ok (.invokevirtual 353, 3) := by decide +kernel
theorem d_Model_test_34 : decode prog_13_method_44_code 34 = .ok (.aload_n 0, 1) := by decide +kernel
theorem d_Model_test_35 : decode prog_13_method_44_code 35 = .ok (.dup, 1) := by decide +kernel
theorem d_Model_test_36 : decode prog_13_method_44_code 36 = .ok (.getfield 207, 3) := by decide +kernel
theorem d_Model_test_39 : decode prog_13_method_44_code 39 = .ok (.iconst 1, 1) := by decide +kernel
theorem d_Model_test_40 : decode prog_13_method_44_code 40 = .ok (.iadd, 1) := by decide +kernel
theorem d_Model_test_41 : decode prog_13_method_44_code 41 = .ok (.putfield 207, 3) := by decide +kernel
theorem d_Model_test_44 : decode prog_13_method_44_code 44 = .ok (.goto (-42), 3) := by decide +kernel
set_option maxHeartbeats 4000000 in
set_option maxRecDepth 100000 in
theorem c_M_test (l : Launch) (D : va_G) (y : Nat → ClassId) (mo : Nat) (ma : Nat → Nat) (t1 : Nat) (t2 : Nat) (t3 : Nat) (i4 : Int32) (i6 : Int32) (i7 : Int32) (i8 : Int32) (i42 : Int32) (i49 : Int32) (cd : Nat) (wn : Nat) (i54 : Int32) (i59 : Int32) (i61 : Int32) (i64 : Int32) (i66 : Int32) (t67 : Nat) (i76 : Int64) (i78 : Int32) (g0 : Nat → Int32) (g33 : Nat → Int32) (g34 : Nat → Int32) (g35 : Nat → Int32) (g36 : Nat → Int32) (g37 : Nat → Int32) (g38 : Nat → Int32) (g39 : Nat → Int32) (g40 : Nat → Int32) (g41 : Nat → Int32) (g50 : Nat → Int32) (g52 : Nat → Int32) (s0 : Nat) (xx : Nat) (kq : Nat) (f0 : Nat → Int32) (ha : t2 ≤ t3) (he : t3 ≤ 1600) (hR : RS kq s0 f0 xx 0 g50 g52 cd wn t2) (hTT : ITm g52 wn) (hK : 1 ≤ kq) : CT l D y ⟨"NineBoardsModel", "test", "()V"⟩ prog_13_method_44_code 3 none ({ frames := 7, cells := 0, slots := 0, locals := 152 } : Room) [.ref mo] [MB mo ma (nI t1) (nI t2) (nI t3) i4 0 i6 i7 i8 i42 i49 (nI cd) (nI wn) i54 i59 i61 i64 i66 (nI t67) i76 i78, (ma 0, .inl (y 0, 1600, .inl g0)), (ma 33, .inl (y 3, 2, .inl g33)), (ma 34, .inl (y 3, 3, .inl g34)), (ma 35, .inl (y 3, 3, .inl g35)), (ma 36, .inl (y 3, 3, .inl g36)), (ma 37, .inl (y 3, 3, .inl g37)), (ma 38, .inl (y 3, 5, .inl g38)), (ma 39, .inl (y 3, 5, .inl g39)), (ma 40, .inl (y 3, 3, .inl g40)), (ma 41, .inl (y 3, 3, .inl g41)), (ma 50, .inl (y 0, 3200, .inl g50)), (ma 52, .inl (y 0, 1700, .inl g52))] (QV D [MB mo ma (nI t1) (nI t2) (nI t3) i4 0 i6 i7 i8 i42 i49 (nI cd) (nI wn) i54 i59 i61 i64 i66 (nI t67) i76 i78, (ma 0, .inl (y 0, 1600, .inl g0)), (ma 33, .inl (y 3, 2, .inl g33)), (ma 34, .inl (y 3, 3, .inl g34)), (ma 35, .inl (y 3, 3, .inl g35)), (ma 36, .inl (y 3, 3, .inl g36)), (ma 37, .inl (y 3, 3, .inl g37)), (ma 38, .inl (y 3, 5, .inl g38)), (ma 39, .inl (y 3, 5, .inl g39)), (ma 40, .inl (y 3, 3, .inl g40)), (ma 41, .inl (y 3, 3, .inl g41)), (ma 50, .inl (y 0, 3200, .inl g50)), (ma 52, .inl (y 0, 1700, .inl g52))] (fun (u : Nat × Int32 × Int32 × Int32 × Nat × Nat × Int32 × (Nat → Int32) × (Nat → Int32)) => t2 ≤ u.1 ∧ u.1 ≤ t3 ∧ (u.2.2.1 = 0 → 0 = 0 ∧ u.2.2.2.2.2.1 = 0) ∧ RS kq s0 f0 (xx + 1) u.2.2.1 u.2.2.2.2.2.2.2.1 u.2.2.2.2.2.2.2.2 u.2.2.2.2.1 u.2.2.2.2.2.1 u.1) (fun u => [MB mo ma (nI t1) (nI u.1) (nI t3) u.2.1 u.2.2.1 u.2.2.2.1 i7 i8 i42 i49 (nI u.2.2.2.2.1) (nI u.2.2.2.2.2.1) u.2.2.2.2.2.2.1 i59 i61 i64 i66 (nI t67) i76 i78, (ma 0, .inl (y 0, 1600, .inl g0)), (ma 33, .inl (y 3, 2, .inl g33)), (ma 34, .inl (y 3, 3, .inl g34)), (ma 35, .inl (y 3, 3, .inl g35)), (ma 36, .inl (y 3, 3, .inl g36)), (ma 37, .inl (y 3, 3, .inl g37)), (ma 38, .inl (y 3, 5, .inl g38)), (ma 39, .inl (y 3, 5, .inl g39)), (ma 40, .inl (y 3, 3, .inl g40)), (ma 41, .inl (y 3, 3, .inl g41)), (ma 50, .inl (y 0, 3200, .inl u.2.2.2.2.2.2.2.1)), (ma 52, .inl (y 0, 1700, .inl u.2.2.2.2.2.2.2.2))])) := by
  refine CT.of (by decide) (nb rfl) ?_
  intro p e s m args below meth c C hr
  refine j_lv (lv' := [(0, .ref mo)]) rfl ?_
  refine j_iconst (pc := 0) C (v := 1) d_Model_test_0 (by decide) ?_
  refine j_istore_n (pc := 1) C (lv' := [(1, .int 1), (0, .ref mo)]) d_Model_test_1 rfl (by decide) rfl ?_
  refine j_loop (α := Nat × Nat × Int32 × Nat × Nat × (Nat → Int32) × (Nat → Int32) × Int32 × Int32 × Int32) (fun a => 2 * (t3 - a.2.1) + bz1 a.2.2.1 + a.1) (fun a => (a.2.1 ≤ t3) ∧ (t2 ≤ a.2.1) ∧ (a.1 ≤ 1) ∧ ((a.2.2.1 = 0 → ITm a.2.2.2.2.2.2.1 a.2.2.2.1)) ∧ (RS kq s0 f0 (xx + (1 - a.1)) a.2.2.1 a.2.2.2.2.2.1 a.2.2.2.2.2.2.1 a.2.2.2.2.1 a.2.2.2.1 a.2.1) ∧ ((a.1 = 0 → a.2.2.1 = 0 → NSq a.2.2.2.2.2.2.1 a.2.2.2.1))) (fun a => [MB mo ma (nI t1) (nI a.2.1) (nI t3) a.2.2.2.2.2.2.2.1 a.2.2.1 a.2.2.2.2.2.2.2.2.1 i7 i8 i42 i49 (nI a.2.2.2.2.1) (nI a.2.2.2.1) a.2.2.2.2.2.2.2.2.2 i59 i61 i64 i66 (nI t67) i76 i78, (ma 0, .inl (y 0, 1600, .inl g0)), (ma 33, .inl (y 3, 2, .inl g33)), (ma 34, .inl (y 3, 3, .inl g34)), (ma 35, .inl (y 3, 3, .inl g35)), (ma 36, .inl (y 3, 3, .inl g36)), (ma 37, .inl (y 3, 3, .inl g37)), (ma 38, .inl (y 3, 5, .inl g38)), (ma 39, .inl (y 3, 5, .inl g39)), (ma 40, .inl (y 3, 3, .inl g40)), (ma 41, .inl (y 3, 3, .inl g41)), (ma 50, .inl (y 0, 3200, .inl a.2.2.2.2.2.1)), (ma 52, .inl (y 0, 1700, .inl a.2.2.2.2.2.2.1))]) (fun a => [(1, .int (nI a.1)), (0, .ref mo)]) (1, t2, 0, wn, cd, g50, g52, i4, i6, i54) rfl rfl ⟨ha, (show t2 ≤ t2 by omega), (show 1 ≤ 1 by omega), (fun _ => hTT), (show RS kq s0 f0 (xx + (1 - 1)) 0 g50 g52 cd wn t2 from hR), (fun e => absurd e (by omega))⟩ ?_
  rintro ⟨mz, az, bz, zn, zc, zf, zw, z147, z148, z149⟩ hP296 ih297
  obtain ⟨hz__, hy__, hmz__, hT__, hR__, hN__⟩ := hP296
  have hz_ : az ≤ t3 := hz__
  have hy_ : t2 ≤ az := hy__
  have hmz_ : mz ≤ 1 := hmz__
  have hT_ : (bz = 0 → ITm zw zn) := hT__
  have hR_ : RS kq s0 f0 (xx + (1 - mz)) bz zf zw zc zn az := hR__
  have hN_ : (mz = 0 → bz = 0 → NSq zw zn) := hN__
  refine j_ws (ws' := [MB mo ma (nI t1) (nI az) (nI t3) z147 bz z148 i7 i8 i42 i49 (nI zc) (nI zn) z149 i59 i61 i64 i66 (nI t67) i76 i78, (ma 0, .inl (y 0, 1600, .inl g0)), (ma 33, .inl (y 3, 2, .inl g33)), (ma 34, .inl (y 3, 3, .inl g34)), (ma 35, .inl (y 3, 3, .inl g35)), (ma 36, .inl (y 3, 3, .inl g36)), (ma 37, .inl (y 3, 3, .inl g37)), (ma 38, .inl (y 3, 5, .inl g38)), (ma 39, .inl (y 3, 5, .inl g39)), (ma 40, .inl (y 3, 3, .inl g40)), (ma 41, .inl (y 3, 3, .inl g41)), (ma 50, .inl (y 0, 3200, .inl zf)), (ma 52, .inl (y 0, 1700, .inl zw))]) rfl ?_
  refine j_lv (lv' := [(1, .int (nI mz)), (0, .ref mo)]) rfl ?_
  have hac := rs_acc hR_
  refine j_iload_n (pc := 2) C d_Model_test_2 rfl 0 rfl ?_
  by_cases c298 : mz = 0
  · refine j_if_eqT (pc := 3) C (tgt := 110) d_Model_test_3 (by decide) (show nI mz = nI 0 from (nI_eq (by omega) (by omega)).mpr (by omega)) ?_
    have xh299 : RS kq s0 f0 (xx + 1) bz zf zw zc zn az := (by have hq := hR_; rw [c298] at hq; exact hq)
    refine j_aload_n (pc := 110) C d_Model_test_110 rfl 1 rfl ?_
    refine j_get (pc := 111) C gf_Model_201 0 rfl rfl d_Model_test_111 ?_
    refine j_if_ne (pc := 114) C (tgt := 131) d_Model_test_114 (by decide) (fun c300 => ?_) (fun c300 => ?_)
    · exact j_vret (pc := 131) C hr (az, z147, bz, z148, zc, zn, z149, zf, zw) ⟨(show t2 ≤ az by omega), (show az ≤ t3 by omega), (fun e => absurd e c300), (rs_at xh299 (show az ≤ az by omega))⟩ [0, 1, 2, 3, 4, 5, 6, 7, 8, 9, 10, 11, 12] rfl (by decide) (by decide) (by decide) d_Model_test_131
    · refine j_ws (ws' := [MB mo ma (nI t1) (nI az) (nI t3) z147 0 z148 i7 i8 i42 i49 (nI zc) (nI zn) z149 i59 i61 i64 i66 (nI t67) i76 i78, (ma 0, .inl (y 0, 1600, .inl g0)), (ma 33, .inl (y 3, 2, .inl g33)), (ma 34, .inl (y 3, 3, .inl g34)), (ma 35, .inl (y 3, 3, .inl g35)), (ma 36, .inl (y 3, 3, .inl g36)), (ma 37, .inl (y 3, 3, .inl g37)), (ma 38, .inl (y 3, 5, .inl g38)), (ma 39, .inl (y 3, 5, .inl g39)), (ma 40, .inl (y 3, 3, .inl g40)), (ma 41, .inl (y 3, 3, .inl g41)), (ma 50, .inl (y 0, 3200, .inl zf)), (ma 52, .inl (y 0, 1700, .inl zw))]) (by rw [c300]) ?_
      have xh301 : RS kq s0 f0 (xx + 1) 0 zf zw zc zn az := rs_z xh299 c300
      have hNM := hN_ c298 c300
      have hTM := hT_ c300
      refine j_loop (α := Nat × Nat × (Nat → Int32)) (fun a => a.2.1) (fun a => (a.2.1 ≤ zn) ∧ (RS kq s0 f0 (xx + 1) 0 a.2.2 zw a.1 a.2.1 az)) (fun a => [MB mo ma (nI t1) (nI az) (nI t3) z147 0 z148 i7 i8 i42 i49 (nI a.1) (nI a.2.1) z149 i59 i61 i64 i66 (nI t67) i76 i78, (ma 0, .inl (y 0, 1600, .inl g0)), (ma 33, .inl (y 3, 2, .inl g33)), (ma 34, .inl (y 3, 3, .inl g34)), (ma 35, .inl (y 3, 3, .inl g35)), (ma 36, .inl (y 3, 3, .inl g36)), (ma 37, .inl (y 3, 3, .inl g37)), (ma 38, .inl (y 3, 5, .inl g38)), (ma 39, .inl (y 3, 5, .inl g39)), (ma 40, .inl (y 3, 3, .inl g40)), (ma 41, .inl (y 3, 3, .inl g41)), (ma 50, .inl (y 0, 3200, .inl a.2.2)), (ma 52, .inl (y 0, 1700, .inl zw))]) (fun a => [(1, .int (nI mz)), (0, .ref mo)]) (zc, zn, zf) rfl rfl ⟨(show zn ≤ zn by omega), xh301⟩ ?_
      rintro ⟨yc, yn, yf⟩ hP303 ih304
      obtain ⟨hny__, hRy__⟩ := hP303
      have hny_ : yn ≤ zn := hny__
      have hRy_ : RS kq s0 f0 (xx + 1) 0 yf zw yc yn az := hRy__
      refine j_ws (ws' := [MB mo ma (nI t1) (nI az) (nI t3) z147 0 z148 i7 i8 i42 i49 (nI yc) (nI yn) z149 i59 i61 i64 i66 (nI t67) i76 i78, (ma 0, .inl (y 0, 1600, .inl g0)), (ma 33, .inl (y 3, 2, .inl g33)), (ma 34, .inl (y 3, 3, .inl g34)), (ma 35, .inl (y 3, 3, .inl g35)), (ma 36, .inl (y 3, 3, .inl g36)), (ma 37, .inl (y 3, 3, .inl g37)), (ma 38, .inl (y 3, 5, .inl g38)), (ma 39, .inl (y 3, 5, .inl g39)), (ma 40, .inl (y 3, 3, .inl g40)), (ma 41, .inl (y 3, 3, .inl g41)), (ma 50, .inl (y 0, 3200, .inl yf)), (ma 52, .inl (y 0, 1700, .inl zw))]) rfl ?_
      refine j_lv (lv' := [(1, .int (nI mz)), (0, .ref mo)]) rfl ?_
      have hacy := rs_ac3 hRy_
      refine j_aload_n (pc := 117) C d_Model_test_117 rfl 1 rfl ?_
      refine j_get (pc := 118) C gf_Model_292 0 rfl rfl d_Model_test_118 ?_
      by_cases c305 : yn ≤ 0
      · refine j_if_leT (pc := 121) C (tgt := 131) d_Model_test_121 (by decide) (show nI yn ≤ nI 0 from nI_le (by omega) (by omega)) ?_
        exact j_vret (pc := 131) C hr (az, z147, 0, z148, yc, yn, z149, yf, zw) ⟨(show t2 ≤ az by omega), (show az ≤ t3 by omega), (fun _ => ⟨rfl, show yn = 0 by omega⟩), (rs_at hRy_ (show az ≤ az by omega))⟩ [0, 1, 2, 3, 4, 5, 6, 7, 8, 9, 10, 11, 12] rfl (by decide) (by decide) (by decide) d_Model_test_131
      · refine j_if_leF (pc := 121) C (tgt := 131) d_Model_test_121 (by decide) (show ¬ nI yn ≤ nI 0 from nI_ge (by omega) (by omega)) ?_
        refine j_aload_n (pc := 124) C d_Model_test_124 rfl 1 rfl ?_
        refine j_callVv (pc := 125) C (c_M_drops l D y mo ma t1 az t3 z147 0 z148 i7 i8 i42 i49 yc yn z149 i59 i61 i64 i66 t67 i76 i78 yf zw (by omega) (by omega) (by omega)) kw_Model_350 kv_Model_drops 0 10 rfl rfl ⟨by decide, by decide⟩ ⟨by decide, by decide⟩ (wr := [(ma 0, .inl (y 0, 1600, .inl g0)), (ma 33, .inl (y 3, 2, .inl g33)), (ma 34, .inl (y 3, 3, .inl g34)), (ma 35, .inl (y 3, 3, .inl g35)), (ma 36, .inl (y 3, 3, .inl g36)), (ma 37, .inl (y 3, 3, .inl g37)), (ma 38, .inl (y 3, 5, .inl g38)), (ma 39, .inl (y 3, 5, .inl g39)), (ma 40, .inl (y 3, 3, .inl g40)), (ma 41, .inl (y 3, 3, .inl g41))]) [0, 11, 12] [1, 2, 3, 4, 5, 6, 7, 8, 9, 10] rfl rfl (by decide) (by decide) (by decide) (As := []) (rest := []) rfl (nb rfl) rfl d_Model_test_125 (fun _ _ => ?_)
        refine j_ws (ws' := [(ma 0, .inl (y 0, 1600, .inl g0)), (ma 33, .inl (y 3, 2, .inl g33)), (ma 34, .inl (y 3, 3, .inl g34)), (ma 35, .inl (y 3, 3, .inl g35)), (ma 36, .inl (y 3, 3, .inl g36)), (ma 37, .inl (y 3, 3, .inl g37)), (ma 38, .inl (y 3, 5, .inl g38)), (ma 39, .inl (y 3, 5, .inl g39)), (ma 40, .inl (y 3, 3, .inl g40)), (ma 41, .inl (y 3, 3, .inl g41)), MB mo ma (nI t1) (nI az) (nI t3) z147 0 z148 i7 i8 i42 i49 (nI (yc + 1)) (nI (yn - 1)) z149 i59 i61 i64 i66 (nI t67) i76 i78, (ma 50, .inl (y 0, 3200, .inl (upd yf yc (zw (yn - 1))))), (ma 52, .inl (y 0, 1700, .inl zw))]) rfl ?_
        refine j_goto (pc := 128) C (tgt := 110) d_Model_test_128 (by decide) ?_
        refine j_aload_n (pc := 110) C d_Model_test_110 rfl 1 rfl ?_
        refine j_get (pc := 111) C gf_Model_201 10 rfl rfl d_Model_test_111 ?_
        refine j_if_neF (pc := 114) C (tgt := 131) d_Model_test_114 (by decide) (by decide) ?_
        refine j_sub (ws' := [MB mo ma (nI t1) (nI az) (nI t3) z147 0 z148 i7 i8 i42 i49 (nI (yc + 1)) (nI (yn - 1)) z149 i59 i61 i64 i66 (nI t67) i76 i78, (ma 0, .inl (y 0, 1600, .inl g0)), (ma 33, .inl (y 3, 2, .inl g33)), (ma 34, .inl (y 3, 3, .inl g34)), (ma 35, .inl (y 3, 3, .inl g35)), (ma 36, .inl (y 3, 3, .inl g36)), (ma 37, .inl (y 3, 3, .inl g37)), (ma 38, .inl (y 3, 5, .inl g38)), (ma 39, .inl (y 3, 5, .inl g39)), (ma 40, .inl (y 3, 3, .inl g40)), (ma 41, .inl (y 3, 3, .inl g41)), (ma 50, .inl (y 0, 3200, .inl (upd yf yc (zw (yn - 1))))), (ma 52, .inl (y 0, 1700, .inl zw))]) [10, 0, 1, 2, 3, 4, 5, 6, 7, 8, 9, 11, 12] rfl (by decide) ?_
        exact ih304 ((yc + 1), (yn - 1), (upd yf yc (zw (yn - 1)))) ⟨(show (yn - 1) ≤ zn by omega), (show RS kq s0 f0 (xx + 1) 0 (upd yf yc (zw (yn - 1))) zw (yc + 1) (yn - 1) az from rs_drop hRy_ (by omega) (show yn = yn - 1 + 1 by omega) (Or.inr (ti_nq (hTM (yn - 1) (by omega)) (hNM (yn - 1) (by omega)))))⟩ (show (yn - 1) < yn by omega)
  · refine j_if_eqF (pc := 3) C (tgt := 110) d_Model_test_3 (by decide) (show ¬ nI mz = nI 0 from fun e => absurd ((nI_eq (by omega) (by omega)).mp e) (by omega)) ?_
    refine j_aload_n (pc := 6) C d_Model_test_6 rfl 1 rfl ?_
    refine j_get (pc := 7) C gf_Model_201 0 rfl rfl d_Model_test_7 ?_
    refine j_if_ne (pc := 10) C (tgt := 110) d_Model_test_10 (by decide) (fun c306 => ?_) (fun c306 => ?_)
    · have xh307 : RS kq s0 f0 (xx + 1) bz zf zw zc zn az := rs_bad hR_ c306
      refine j_aload_n (pc := 110) C d_Model_test_110 rfl 1 rfl ?_
      refine j_get (pc := 111) C gf_Model_201 0 rfl rfl d_Model_test_111 ?_
      refine j_if_neT (pc := 114) C (tgt := 131) d_Model_test_114 (by decide) c306 ?_
      exact j_vret (pc := 131) C hr (az, z147, bz, z148, zc, zn, z149, zf, zw) ⟨(show t2 ≤ az by omega), (show az ≤ t3 by omega), (fun e => absurd e c306), (rs_at xh307 (show az ≤ az by omega))⟩ [0, 1, 2, 3, 4, 5, 6, 7, 8, 9, 10, 11, 12] rfl (by decide) (by decide) (by decide) d_Model_test_131
    · have hm1 : mz = 1 := by omega
      have xh308 : RS kq s0 f0 xx bz zf zw zc zn az := (by have hq := hR_; rw [hm1] at hq; exact hq)
      have hT0 : ITm zw zn := hT_ c306
      refine j_ws (ws' := [MB mo ma (nI t1) (nI az) (nI t3) z147 0 z148 i7 i8 i42 i49 (nI zc) (nI zn) z149 i59 i61 i64 i66 (nI t67) i76 i78, (ma 0, .inl (y 0, 1600, .inl g0)), (ma 33, .inl (y 3, 2, .inl g33)), (ma 34, .inl (y 3, 3, .inl g34)), (ma 35, .inl (y 3, 3, .inl g35)), (ma 36, .inl (y 3, 3, .inl g36)), (ma 37, .inl (y 3, 3, .inl g37)), (ma 38, .inl (y 3, 5, .inl g38)), (ma 39, .inl (y 3, 5, .inl g39)), (ma 40, .inl (y 3, 3, .inl g40)), (ma 41, .inl (y 3, 3, .inl g41)), (ma 50, .inl (y 0, 3200, .inl zf)), (ma 52, .inl (y 0, 1700, .inl zw))]) (by rw [c306]) ?_
      have xh309 : RS kq s0 f0 xx 0 zf zw zc zn az := rs_z xh308 c306
      refine j_aload_n (pc := 13) C d_Model_test_13 rfl 1 rfl ?_
      refine j_callVi (pc := 14) C (c_M_look l D y mo ma t1 az t3 z147 0 z148 i7 i8 i42 i49 (nI zc) (nI zn) z149 i59 i61 i64 i66 t67 i76 i78 g0 hz_ he) kw_Model_213 kv_Model_look 0 10 rfl rfl ⟨by decide, by decide⟩ ⟨by decide, by decide⟩ (wr := [(ma 33, .inl (y 3, 2, .inl g33)), (ma 34, .inl (y 3, 3, .inl g34)), (ma 35, .inl (y 3, 3, .inl g35)), (ma 36, .inl (y 3, 3, .inl g36)), (ma 37, .inl (y 3, 3, .inl g37)), (ma 38, .inl (y 3, 5, .inl g38)), (ma 39, .inl (y 3, 5, .inl g39)), (ma 40, .inl (y 3, 3, .inl g40)), (ma 41, .inl (y 3, 3, .inl g41)), (ma 50, .inl (y 0, 3200, .inl zf)), (ma 52, .inl (y 0, 1700, .inl zw))]) [0, 1] [2, 3, 4, 5, 6, 7, 8, 9, 10, 11, 12] rfl rfl (by decide) (by decide) (by decide) (As := []) (rest := []) rfl (nb rfl) rfl d_Model_test_14 (fun r310 u311 hr310 => ?_)
      refine j_ws (ws' := [(ma 33, .inl (y 3, 2, .inl g33)), (ma 34, .inl (y 3, 3, .inl g34)), (ma 35, .inl (y 3, 3, .inl g35)), (ma 36, .inl (y 3, 3, .inl g36)), (ma 37, .inl (y 3, 3, .inl g37)), (ma 38, .inl (y 3, 5, .inl g38)), (ma 39, .inl (y 3, 5, .inl g39)), (ma 40, .inl (y 3, 3, .inl g40)), (ma 41, .inl (y 3, 3, .inl g41)), (ma 50, .inl (y 0, 3200, .inl zf)), (ma 52, .inl (y 0, 1700, .inl zw)), MB mo ma (nI t1) (nI u311) (nI t3) z147 0 z148 i7 i8 i42 i49 (nI zc) (nI zn) z149 i59 i61 i64 i66 (nI t67) i76 i78, (ma 0, .inl (y 0, 1600, .inl g0))]) rfl ?_
      obtain ⟨xh312, xh313, xh314⟩ := hr310
      rcases xh314 with rfl | ⟨xh315, e316⟩
      · refine j_istore_n (pc := 17) C (lv' := [(2, .int (-1)), (1, .int (nI mz)), (0, .ref mo)]) d_Model_test_17 rfl (by decide) rfl ?_
        refine j_iload_n (pc := 18) C d_Model_test_18 rfl 0 rfl ?_
        refine j_bipush (pc := 19) C (v := 91) d_Model_test_19 (by decide) ?_
        refine j_icmp_neT (pc := 21) C (tgt := 47) d_Model_test_21 (by decide) (by decide) ?_
        refine j_aload_n (pc := 47) C d_Model_test_47 rfl 2 rfl ?_
        refine j_aload_n (pc := 48) C d_Model_test_48 rfl 2 rfl ?_
        refine j_get (pc := 49) C gf_Model_96 11 rfl rfl d_Model_test_49 ?_
        refine j_callVi (pc := 52) C (c_M_isHere_3 l D y mo (ma 35) ma t1 u311 t3 z147 0 z148 i7 i8 i42 i49 (nI zc) (nI zn) z149 i59 i61 i64 i66 t67 i76 i78 g0 g35 xh313 he) kw_Model_224 kv_Model_isHere 0 10 rfl rfl ⟨by decide, by decide⟩ ⟨by decide, by decide⟩ (wr := [(ma 33, .inl (y 3, 2, .inl g33)), (ma 34, .inl (y 3, 3, .inl g34)), (ma 36, .inl (y 3, 3, .inl g36)), (ma 37, .inl (y 3, 3, .inl g37)), (ma 38, .inl (y 3, 5, .inl g38)), (ma 39, .inl (y 3, 5, .inl g39)), (ma 40, .inl (y 3, 3, .inl g40)), (ma 41, .inl (y 3, 3, .inl g41)), (ma 50, .inl (y 0, 3200, .inl zf)), (ma 52, .inl (y 0, 1700, .inl zw))]) [11, 12, 2] [0, 1, 3, 4, 5, 6, 7, 8, 9, 10] rfl rfl (by decide) (by decide) (by decide) (As := [.ref (ma 35)]) (rest := []) rfl (nb rfl) rfl d_Model_test_52 (fun r317 u318 hr317 => ?_)
        refine j_ws (ws' := [(ma 33, .inl (y 3, 2, .inl g33)), (ma 34, .inl (y 3, 3, .inl g34)), (ma 36, .inl (y 3, 3, .inl g36)), (ma 37, .inl (y 3, 3, .inl g37)), (ma 38, .inl (y 3, 5, .inl g38)), (ma 39, .inl (y 3, 5, .inl g39)), (ma 40, .inl (y 3, 3, .inl g40)), (ma 41, .inl (y 3, 3, .inl g41)), (ma 50, .inl (y 0, 3200, .inl zf)), (ma 52, .inl (y 0, 1700, .inl zw)), MB mo ma (nI t1) (nI u318) (nI t3) z147 0 z148 i7 i8 i42 i49 (nI zc) (nI zn) z149 i59 i61 i64 i66 (nI t67) i76 i78, (ma 0, .inl (y 0, 1600, .inl g0)), (ma 35, .inl (y 3, 3, .inl g35))]) rfl ?_
        obtain ⟨xh319, xh320, xh321⟩ := hr317
        rcases xh321 with rfl | ⟨rfl, xh322⟩
        · refine j_if_eqT (pc := 55) C (tgt := 79) d_Model_test_55 (by decide) (by decide) ?_
          refine j_aload_n (pc := 79) C d_Model_test_79 rfl 2 rfl ?_
          refine j_callVv (pc := 80) C (c_M_fact l D y mo ma t1 u318 t3 z147 z148 i7 i8 i42 i49 zc zn z149 i59 i61 i64 i66 t67 i76 i78 g0 g36 g37 g38 g39 g40 g41 zf zw s0 xx kq f0 xh320 he (rs_at xh309 (by omega)) hT0 hK) kw_Model_371 kv_Model_fact 0 10 rfl rfl ⟨by decide, by decide⟩ ⟨by decide, by decide⟩ (wr := [(ma 33, .inl (y 3, 2, .inl g33)), (ma 34, .inl (y 3, 3, .inl g34)), (ma 35, .inl (y 3, 3, .inl g35))]) [10, 11, 2, 3, 4, 5, 6, 7, 8, 9] [0, 1, 12] rfl rfl (by decide) (by decide) (by decide) (As := []) (rest := []) rfl (nb rfl) rfl d_Model_test_80 (fun u323 hu324 => ?_)
          obtain ⟨xh325, xh326, xh327, xh328, xh329, xh330⟩ := hu324
          refine j_ws (ws' := [(ma 33, .inl (y 3, 2, .inl g33)), (ma 34, .inl (y 3, 3, .inl g34)), (ma 35, .inl (y 3, 3, .inl g35)), MB mo ma (nI t1) (nI u323.1) (nI t3) u323.2.1 u323.2.2.1 u323.2.2.2.1 i7 i8 i42 i49 (nI u323.2.2.2.2.1) (nI u323.2.2.2.2.2.1) u323.2.2.2.2.2.2.1 i59 i61 i64 i66 (nI t67) i76 i78, (ma 0, .inl (y 0, 1600, .inl g0)), (ma 36, .inl (y 3, 3, .inl g36)), (ma 37, .inl (y 3, 3, .inl g37)), (ma 38, .inl (y 3, 5, .inl g38)), (ma 39, .inl (y 3, 5, .inl g39)), (ma 40, .inl (y 3, 3, .inl g40)), (ma 41, .inl (y 3, 3, .inl g41)), (ma 50, .inl (y 0, 3200, .inl u323.2.2.2.2.2.2.2.1)), (ma 52, .inl (y 0, 1700, .inl u323.2.2.2.2.2.2.2.2))]) rfl ?_
          by_cases c331 : u323.2.2.1 = 0
          · have hpg := (xh327 c331).2
            refine j_ws (ws' := [(ma 33, .inl (y 3, 2, .inl g33)), (ma 34, .inl (y 3, 3, .inl g34)), (ma 35, .inl (y 3, 3, .inl g35)), MB mo ma (nI t1) (nI u323.1) (nI t3) u323.2.1 0 u323.2.2.2.1 i7 i8 i42 i49 (nI u323.2.2.2.2.1) (nI u323.2.2.2.2.2.1) u323.2.2.2.2.2.2.1 i59 i61 i64 i66 (nI t67) i76 i78, (ma 0, .inl (y 0, 1600, .inl g0)), (ma 36, .inl (y 3, 3, .inl g36)), (ma 37, .inl (y 3, 3, .inl g37)), (ma 38, .inl (y 3, 5, .inl g38)), (ma 39, .inl (y 3, 5, .inl g39)), (ma 40, .inl (y 3, 3, .inl g40)), (ma 41, .inl (y 3, 3, .inl g41)), (ma 50, .inl (y 0, 3200, .inl u323.2.2.2.2.2.2.2.1)), (ma 52, .inl (y 0, 1700, .inl u323.2.2.2.2.2.2.2.2))]) (by rw [c331]) ?_
            have xh332 : RS kq s0 f0 (xx + 1) 0 u323.2.2.2.2.2.2.2.1 u323.2.2.2.2.2.2.2.2 u323.2.2.2.2.1 u323.2.2.2.2.2.1 u323.1 := rs_z xh328 c331
            refine j_aload_n (pc := 83) C d_Model_test_83 rfl 2 rfl ?_
            refine j_callVv (pc := 84) C (c_M_dropsNots l D y mo ma t1 u323.1 t3 u323.2.1 0 u323.2.2.2.1 i7 i8 i42 i49 u323.2.2.2.2.1 u323.2.2.2.2.2.1 u323.2.2.2.2.2.2.1 i59 i61 i64 i66 t67 i76 i78 u323.2.2.2.2.2.2.2.1 u323.2.2.2.2.2.2.2.2 s0 xx kq f0 xh326 he xh332 hK) kw_Model_374 kv_Model_dropsNots 0 10 rfl rfl ⟨by decide, by decide⟩ ⟨by decide, by decide⟩ (wr := [(ma 33, .inl (y 3, 2, .inl g33)), (ma 34, .inl (y 3, 3, .inl g34)), (ma 35, .inl (y 3, 3, .inl g35)), (ma 0, .inl (y 0, 1600, .inl g0)), (ma 36, .inl (y 3, 3, .inl g36)), (ma 37, .inl (y 3, 3, .inl g37)), (ma 38, .inl (y 3, 5, .inl g38)), (ma 39, .inl (y 3, 5, .inl g39)), (ma 40, .inl (y 3, 3, .inl g40)), (ma 41, .inl (y 3, 3, .inl g41))]) [3, 11, 12] [0, 1, 2, 4, 5, 6, 7, 8, 9, 10] rfl rfl (by decide) (by decide) (by decide) (As := []) (rest := []) rfl (nb rfl) rfl d_Model_test_84 (fun u333 hu334 => ?_)
            obtain ⟨xh335, xh336⟩ := hu334
            refine j_ws (ws' := [(ma 33, .inl (y 3, 2, .inl g33)), (ma 34, .inl (y 3, 3, .inl g34)), (ma 35, .inl (y 3, 3, .inl g35)), (ma 0, .inl (y 0, 1600, .inl g0)), (ma 36, .inl (y 3, 3, .inl g36)), (ma 37, .inl (y 3, 3, .inl g37)), (ma 38, .inl (y 3, 5, .inl g38)), (ma 39, .inl (y 3, 5, .inl g39)), (ma 40, .inl (y 3, 3, .inl g40)), (ma 41, .inl (y 3, 3, .inl g41)), MB mo ma (nI t1) (nI u323.1) (nI t3) u323.2.1 0 u323.2.2.2.1 i7 i8 i42 i49 (nI u333.1) (nI u333.2.1) u333.2.2.1 i59 i61 i64 i66 (nI t67) i76 i78, (ma 50, .inl (y 0, 3200, .inl u333.2.2.2)), (ma 52, .inl (y 0, 1700, .inl u323.2.2.2.2.2.2.2.2))]) rfl ?_
            refine j_aload_n (pc := 87) C d_Model_test_87 rfl 2 rfl ?_
            refine j_get (pc := 88) C gf_Model_201 10 rfl rfl d_Model_test_88 ?_
            refine j_if_neF (pc := 91) C (tgt := 105) d_Model_test_91 (by decide) (by decide) ?_
            refine j_aload_n (pc := 94) C d_Model_test_94 rfl 2 rfl ?_
            refine j_callVi (pc := 95) C (c_M_goesOnTest l D y mo ma t1 u323.1 t3 u323.2.1 u323.2.2.2.1 i7 i8 i42 i49 u333.1 u333.2.1 u333.2.2.1 i59 i61 i64 i66 t67 i76 i78 g0 g33 g34 u333.2.2.2 u323.2.2.2.2.2.2.2.2 s0 xx kq f0 xh326 he xh336 (it_le xh329 (by omega)) hK) kw_Model_377 kv_Model_goesOnTest 0 10 rfl rfl ⟨by decide, by decide⟩ ⟨by decide, by decide⟩ (wr := [(ma 35, .inl (y 3, 3, .inl g35)), (ma 36, .inl (y 3, 3, .inl g36)), (ma 37, .inl (y 3, 3, .inl g37)), (ma 38, .inl (y 3, 5, .inl g38)), (ma 39, .inl (y 3, 5, .inl g39)), (ma 40, .inl (y 3, 3, .inl g40)), (ma 41, .inl (y 3, 3, .inl g41))]) [10, 3, 0, 1, 11, 12] [2, 4, 5, 6, 7, 8, 9] rfl rfl (by decide) (by decide) (by decide) (As := []) (rest := []) rfl (nb rfl) rfl d_Model_test_95 (fun r337 u338 hr337 => ?_)
            refine j_ws (ws' := [(ma 35, .inl (y 3, 3, .inl g35)), (ma 36, .inl (y 3, 3, .inl g36)), (ma 37, .inl (y 3, 3, .inl g37)), (ma 38, .inl (y 3, 5, .inl g38)), (ma 39, .inl (y 3, 5, .inl g39)), (ma 40, .inl (y 3, 3, .inl g40)), (ma 41, .inl (y 3, 3, .inl g41)), MB mo ma (nI t1) (nI u338.1) (nI t3) u338.2.1 u338.2.2.1 u338.2.2.2.1 i7 i8 i42 i49 (nI u338.2.2.2.2.1) (nI u338.2.2.2.2.2.1) u338.2.2.2.2.2.2.1 i59 i61 i64 i66 (nI t67) i76 i78, (ma 0, .inl (y 0, 1600, .inl g0)), (ma 33, .inl (y 3, 2, .inl g33)), (ma 34, .inl (y 3, 3, .inl g34)), (ma 50, .inl (y 0, 3200, .inl u338.2.2.2.2.2.2.2.1)), (ma 52, .inl (y 0, 1700, .inl u338.2.2.2.2.2.2.2.2))]) rfl ?_
            obtain ⟨xh339, xh340, xh341, xh342, xh343⟩ := hr337
            rcases xh343 with ⟨rfl, e344, xh345⟩ | ⟨rfl, xh346, xh347⟩
            · refine j_if_eqF (pc := 98) C (tgt := 105) d_Model_test_98 (by decide) (by decide) ?_
              refine j_iconst (pc := 101) C (v := 1) d_Model_test_101 (by decide) ?_
              refine j_goto (pc := 102) C (tgt := 106) d_Model_test_102 (by decide) ?_
              refine j_istore_n (pc := 106) C (lv' := [(1, .int 1), (2, .int (-1)), (0, .ref mo)]) d_Model_test_106 rfl (by decide) rfl ?_
              refine j_goto (pc := 107) C (tgt := 2) d_Model_test_107 (by decide) ?_
              refine j_sub (ws' := [MB mo ma (nI t1) (nI u338.1) (nI t3) u338.2.1 u338.2.2.1 u338.2.2.2.1 i7 i8 i42 i49 (nI u338.2.2.2.2.1) (nI u338.2.2.2.2.2.1) u338.2.2.2.2.2.2.1 i59 i61 i64 i66 (nI t67) i76 i78, (ma 0, .inl (y 0, 1600, .inl g0)), (ma 33, .inl (y 3, 2, .inl g33)), (ma 34, .inl (y 3, 3, .inl g34)), (ma 35, .inl (y 3, 3, .inl g35)), (ma 36, .inl (y 3, 3, .inl g36)), (ma 37, .inl (y 3, 3, .inl g37)), (ma 38, .inl (y 3, 5, .inl g38)), (ma 39, .inl (y 3, 5, .inl g39)), (ma 40, .inl (y 3, 3, .inl g40)), (ma 41, .inl (y 3, 3, .inl g41)), (ma 50, .inl (y 0, 3200, .inl u338.2.2.2.2.2.2.2.1)), (ma 52, .inl (y 0, 1700, .inl u338.2.2.2.2.2.2.2.2))]) [7, 8, 9, 10, 0, 1, 2, 3, 4, 5, 6, 11, 12] rfl (by decide) ?_
              refine j_locs (lv' := [(1, .int 1), (0, .ref mo)]) [0, 2] rfl ?_
              have hz1 := bz_e c306
              have hz0 := bz_le u338.2.2.1
              have hz2 : bz1 u338.2.2.1 = 0 ∨ az + 1 ≤ u338.1 := by
                by_cases e : u338.2.2.1 = 0
                · exact Or.inr (by have f0 := xh341 e; have g0 := f0.2; omega)
                · exact Or.inl (bz_0 e)
              exact ih297 (1, u338.1, u338.2.2.1, u338.2.2.2.2.2.1, u338.2.2.2.2.1, u338.2.2.2.2.2.2.2.1, u338.2.2.2.2.2.2.2.2, u338.2.1, u338.2.2.2.1, u338.2.2.2.2.2.2.1) ⟨xh340, (show t2 ≤ u338.1 by omega), (show 1 ≤ 1 by omega), (fun _ => xh342), (show RS kq s0 f0 (xx + (1 - 1)) u338.2.2.1 u338.2.2.2.2.2.2.2.1 u338.2.2.2.2.2.2.2.2 u338.2.2.2.2.1 u338.2.2.2.2.2.1 u338.1 from rs_at xh345 (by omega)), (fun e => absurd e (by omega))⟩ (show 2 * (t3 - u338.1) + bz1 u338.2.2.1 + 1 < 2 * (t3 - az) + bz1 bz + mz by omega)
            · refine j_if_eqT (pc := 98) C (tgt := 105) d_Model_test_98 (by decide) (by decide) ?_
              refine j_iconst (pc := 105) C (v := 0) d_Model_test_105 (by decide) ?_
              refine j_istore_n (pc := 106) C (lv' := [(1, .int 0), (2, .int (-1)), (0, .ref mo)]) d_Model_test_106 rfl (by decide) rfl ?_
              refine j_goto (pc := 107) C (tgt := 2) d_Model_test_107 (by decide) ?_
              refine j_sub (ws' := [MB mo ma (nI t1) (nI u338.1) (nI t3) u338.2.1 u338.2.2.1 u338.2.2.2.1 i7 i8 i42 i49 (nI u338.2.2.2.2.1) (nI u338.2.2.2.2.2.1) u338.2.2.2.2.2.2.1 i59 i61 i64 i66 (nI t67) i76 i78, (ma 0, .inl (y 0, 1600, .inl g0)), (ma 33, .inl (y 3, 2, .inl g33)), (ma 34, .inl (y 3, 3, .inl g34)), (ma 35, .inl (y 3, 3, .inl g35)), (ma 36, .inl (y 3, 3, .inl g36)), (ma 37, .inl (y 3, 3, .inl g37)), (ma 38, .inl (y 3, 5, .inl g38)), (ma 39, .inl (y 3, 5, .inl g39)), (ma 40, .inl (y 3, 3, .inl g40)), (ma 41, .inl (y 3, 3, .inl g41)), (ma 50, .inl (y 0, 3200, .inl u338.2.2.2.2.2.2.2.1)), (ma 52, .inl (y 0, 1700, .inl u338.2.2.2.2.2.2.2.2))]) [7, 8, 9, 10, 0, 1, 2, 3, 4, 5, 6, 11, 12] rfl (by decide) ?_
              refine j_locs (lv' := [(1, .int 0), (0, .ref mo)]) [0, 2] rfl ?_
              have hz1 := bz_e c306
              have hz0 := bz_le u338.2.2.1
              exact ih297 (0, u338.1, u338.2.2.1, u338.2.2.2.2.2.1, u338.2.2.2.2.1, u338.2.2.2.2.2.2.2.1, u338.2.2.2.2.2.2.2.2, u338.2.1, u338.2.2.2.1, u338.2.2.2.2.2.2.1) ⟨xh340, (show t2 ≤ u338.1 by omega), (show 0 ≤ 1 by omega), (fun _ => xh342), (show RS kq s0 f0 (xx + (1 - 0)) u338.2.2.1 u338.2.2.2.2.2.2.2.1 u338.2.2.2.2.2.2.2.2 u338.2.2.2.2.1 u338.2.2.2.2.2.1 u338.1 from rs_at xh346 (by omega)), (fun _ => xh347)⟩ (show 2 * (t3 - u338.1) + bz1 u338.2.2.1 + 0 < 2 * (t3 - az) + bz1 bz + mz by omega)
          · refine j_aload_n (pc := 83) C d_Model_test_83 rfl 2 rfl ?_
            refine j_callVv (pc := 84) C (c_M_dropsNots l D y mo ma t1 u323.1 t3 u323.2.1 u323.2.2.1 u323.2.2.2.1 i7 i8 i42 i49 u323.2.2.2.2.1 u323.2.2.2.2.2.1 u323.2.2.2.2.2.2.1 i59 i61 i64 i66 t67 i76 i78 u323.2.2.2.2.2.2.2.1 u323.2.2.2.2.2.2.2.2 s0 xx kq f0 xh326 he xh328 hK) kw_Model_374 kv_Model_dropsNots 0 10 rfl rfl ⟨by decide, by decide⟩ ⟨by decide, by decide⟩ (wr := [(ma 33, .inl (y 3, 2, .inl g33)), (ma 34, .inl (y 3, 3, .inl g34)), (ma 35, .inl (y 3, 3, .inl g35)), (ma 0, .inl (y 0, 1600, .inl g0)), (ma 36, .inl (y 3, 3, .inl g36)), (ma 37, .inl (y 3, 3, .inl g37)), (ma 38, .inl (y 3, 5, .inl g38)), (ma 39, .inl (y 3, 5, .inl g39)), (ma 40, .inl (y 3, 3, .inl g40)), (ma 41, .inl (y 3, 3, .inl g41))]) [3, 11, 12] [0, 1, 2, 4, 5, 6, 7, 8, 9, 10] rfl rfl (by decide) (by decide) (by decide) (As := []) (rest := []) rfl (nb rfl) rfl d_Model_test_84 (fun u348 hu349 => ?_)
            obtain ⟨xh350, xh351⟩ := hu349
            refine j_ws (ws' := [(ma 33, .inl (y 3, 2, .inl g33)), (ma 34, .inl (y 3, 3, .inl g34)), (ma 35, .inl (y 3, 3, .inl g35)), (ma 0, .inl (y 0, 1600, .inl g0)), (ma 36, .inl (y 3, 3, .inl g36)), (ma 37, .inl (y 3, 3, .inl g37)), (ma 38, .inl (y 3, 5, .inl g38)), (ma 39, .inl (y 3, 5, .inl g39)), (ma 40, .inl (y 3, 3, .inl g40)), (ma 41, .inl (y 3, 3, .inl g41)), MB mo ma (nI t1) (nI u323.1) (nI t3) u323.2.1 u323.2.2.1 u323.2.2.2.1 i7 i8 i42 i49 (nI u348.1) (nI u348.2.1) u348.2.2.1 i59 i61 i64 i66 (nI t67) i76 i78, (ma 50, .inl (y 0, 3200, .inl u348.2.2.2)), (ma 52, .inl (y 0, 1700, .inl u323.2.2.2.2.2.2.2.2))]) rfl ?_
            refine j_aload_n (pc := 87) C d_Model_test_87 rfl 2 rfl ?_
            refine j_get (pc := 88) C gf_Model_201 10 rfl rfl d_Model_test_88 ?_
            refine j_if_neT (pc := 91) C (tgt := 105) d_Model_test_91 (by decide) c331 ?_
            refine j_iconst (pc := 105) C (v := 0) d_Model_test_105 (by decide) ?_
            refine j_istore_n (pc := 106) C (lv' := [(1, .int 0), (2, .int (-1)), (0, .ref mo)]) d_Model_test_106 rfl (by decide) rfl ?_
            refine j_goto (pc := 107) C (tgt := 2) d_Model_test_107 (by decide) ?_
            refine j_sub (ws' := [MB mo ma (nI t1) (nI u323.1) (nI t3) u323.2.1 u323.2.2.1 u323.2.2.2.1 i7 i8 i42 i49 (nI u348.1) (nI u348.2.1) u348.2.2.1 i59 i61 i64 i66 (nI t67) i76 i78, (ma 0, .inl (y 0, 1600, .inl g0)), (ma 33, .inl (y 3, 2, .inl g33)), (ma 34, .inl (y 3, 3, .inl g34)), (ma 35, .inl (y 3, 3, .inl g35)), (ma 36, .inl (y 3, 3, .inl g36)), (ma 37, .inl (y 3, 3, .inl g37)), (ma 38, .inl (y 3, 5, .inl g38)), (ma 39, .inl (y 3, 5, .inl g39)), (ma 40, .inl (y 3, 3, .inl g40)), (ma 41, .inl (y 3, 3, .inl g41)), (ma 50, .inl (y 0, 3200, .inl u348.2.2.2)), (ma 52, .inl (y 0, 1700, .inl u323.2.2.2.2.2.2.2.2))]) [10, 3, 0, 1, 2, 4, 5, 6, 7, 8, 9, 11, 12] rfl (by decide) ?_
            refine j_locs (lv' := [(1, .int 0), (0, .ref mo)]) [0, 2] rfl ?_
            have hz1 := bz_e c306
            have hz0 := bz_le u323.2.2.1
            exact ih297 (0, u323.1, u323.2.2.1, u348.2.1, u348.1, u348.2.2.2, u323.2.2.2.2.2.2.2.2, u323.2.1, u323.2.2.2.1, u348.2.2.1) ⟨xh326, (show t2 ≤ u323.1 by omega), (show 0 ≤ 1 by omega), (fun e => absurd e c331), (show RS kq s0 f0 (xx + (1 - 0)) u323.2.2.1 u348.2.2.2 u323.2.2.2.2.2.2.2.2 u348.1 u348.2.1 u323.1 from rs_at xh351 (by omega)), (fun _ e => absurd e c331)⟩ (show 2 * (t3 - u323.1) + bz1 u323.2.2.1 + 0 < 2 * (t3 - az) + bz1 bz + mz by omega)
        · refine j_if_eqF (pc := 55) C (tgt := 79) d_Model_test_55 (by decide) (by decide) ?_
          refine j_aload_n (pc := 58) C d_Model_test_58 rfl 2 rfl ?_
          refine j_bipush (pc := 59) C (v := 16) d_Model_test_59 (by decide) ?_
          refine j_aload_n (pc := 61) C d_Model_test_61 rfl 2 rfl ?_
          refine j_get (pc := 62) C gf_Model_207 10 rfl rfl d_Model_test_62 ?_
          refine j_callVv (pc := 65) C (c_M_opens_T l D y mo ma t1 u318 t3 z147 0 z148 i7 i8 i42 i49 zc zn z149 i59 i61 i64 i66 t67 i76 i78 zw 16 (nI u318) s0 xx kq f0 az zf (by decide) (by omega) xh309 (by decide) hT0 hK) kw_Model_353 kv_Model_opens 0 10 rfl rfl ⟨by decide, by decide⟩ ⟨by decide, by decide⟩ (wr := [(ma 33, .inl (y 3, 2, .inl g33)), (ma 34, .inl (y 3, 3, .inl g34)), (ma 36, .inl (y 3, 3, .inl g36)), (ma 37, .inl (y 3, 3, .inl g37)), (ma 38, .inl (y 3, 5, .inl g38)), (ma 39, .inl (y 3, 5, .inl g39)), (ma 40, .inl (y 3, 3, .inl g40)), (ma 41, .inl (y 3, 3, .inl g41)), (ma 50, .inl (y 0, 3200, .inl zf)), (ma 0, .inl (y 0, 1600, .inl g0)), (ma 35, .inl (y 3, 3, .inl g35))]) [10, 9] [0, 1, 2, 3, 4, 5, 6, 7, 8, 11, 12] rfl rfl (by decide) (by decide) (by decide) (As := [.int 16, .int (nI u318)]) (rest := []) rfl (nb rfl) rfl d_Model_test_65 (fun u352 hu353 => ?_)
          obtain ⟨xh354, xh355, xh356, xh357, xh358, xh359⟩ := hu353
          refine j_ws (ws' := [(ma 33, .inl (y 3, 2, .inl g33)), (ma 34, .inl (y 3, 3, .inl g34)), (ma 36, .inl (y 3, 3, .inl g36)), (ma 37, .inl (y 3, 3, .inl g37)), (ma 38, .inl (y 3, 5, .inl g38)), (ma 39, .inl (y 3, 5, .inl g39)), (ma 40, .inl (y 3, 3, .inl g40)), (ma 41, .inl (y 3, 3, .inl g41)), (ma 50, .inl (y 0, 3200, .inl zf)), (ma 0, .inl (y 0, 1600, .inl g0)), (ma 35, .inl (y 3, 3, .inl g35)), MB mo ma (nI t1) (nI u318) (nI t3) z147 u352.1 u352.2.1 i7 i8 i42 i49 (nI zc) (nI u352.2.2.1) u352.2.2.2.1 i59 i61 i64 i66 (nI t67) i76 i78, (ma 52, .inl (y 0, 1700, .inl u352.2.2.2.2))]) rfl ?_
          by_cases c360 : u352.1 = 0
          · refine j_ws (ws' := [(ma 33, .inl (y 3, 2, .inl g33)), (ma 34, .inl (y 3, 3, .inl g34)), (ma 36, .inl (y 3, 3, .inl g36)), (ma 37, .inl (y 3, 3, .inl g37)), (ma 38, .inl (y 3, 5, .inl g38)), (ma 39, .inl (y 3, 5, .inl g39)), (ma 40, .inl (y 3, 3, .inl g40)), (ma 41, .inl (y 3, 3, .inl g41)), (ma 50, .inl (y 0, 3200, .inl zf)), (ma 0, .inl (y 0, 1600, .inl g0)), (ma 35, .inl (y 3, 3, .inl g35)), MB mo ma (nI t1) (nI u318) (nI t3) z147 0 u352.2.1 i7 i8 i42 i49 (nI zc) (nI u352.2.2.1) u352.2.2.2.1 i59 i61 i64 i66 (nI t67) i76 i78, (ma 52, .inl (y 0, 1700, .inl u352.2.2.2.2))]) (by rw [c360]) ?_
            have xh361 : RS kq s0 f0 xx 0 zf u352.2.2.2.2 zc u352.2.2.1 (az + 1) := rs_z xh357 c360
            refine j_aload_n (pc := 68) C d_Model_test_68 rfl 2 rfl ?_
            refine j_aload_n (pc := 69) C d_Model_test_69 rfl 2 rfl ?_
            refine j_get (pc := 70) C gf_Model_96 11 rfl rfl d_Model_test_70 ?_
            refine j_callVv (pc := 73) C (c_M_asks_3 l D y mo (ma 35) ma t1 u318 t3 z147 0 u352.2.1 i7 i8 i42 i49 (nI zc) (nI u352.2.2.1) u352.2.2.2.1 i59 i61 i64 i66 t67 i76 i78 g0 g35 xh320 he) kw_Model_263 kv_Model_asks 0 10 rfl rfl ⟨by decide, by decide⟩ ⟨by decide, by decide⟩ (wr := [(ma 33, .inl (y 3, 2, .inl g33)), (ma 34, .inl (y 3, 3, .inl g34)), (ma 36, .inl (y 3, 3, .inl g36)), (ma 37, .inl (y 3, 3, .inl g37)), (ma 38, .inl (y 3, 5, .inl g38)), (ma 39, .inl (y 3, 5, .inl g39)), (ma 40, .inl (y 3, 3, .inl g40)), (ma 41, .inl (y 3, 3, .inl g41)), (ma 50, .inl (y 0, 3200, .inl zf)), (ma 52, .inl (y 0, 1700, .inl u352.2.2.2.2))]) [11, 9, 10] [0, 1, 2, 3, 4, 5, 6, 7, 8, 12] rfl rfl (by decide) (by decide) (by decide) (As := [.ref (ma 35)]) (rest := []) rfl (nb rfl) rfl d_Model_test_73 (fun u362 hu363 => ?_)
            obtain ⟨xh364, xh365, xh366⟩ := hu363
            refine j_ws (ws' := [(ma 33, .inl (y 3, 2, .inl g33)), (ma 34, .inl (y 3, 3, .inl g34)), (ma 36, .inl (y 3, 3, .inl g36)), (ma 37, .inl (y 3, 3, .inl g37)), (ma 38, .inl (y 3, 5, .inl g38)), (ma 39, .inl (y 3, 5, .inl g39)), (ma 40, .inl (y 3, 3, .inl g40)), (ma 41, .inl (y 3, 3, .inl g41)), (ma 50, .inl (y 0, 3200, .inl zf)), (ma 52, .inl (y 0, 1700, .inl u352.2.2.2.2)), MB mo ma (nI t1) (nI u362.1) (nI t3) u362.2.1 u362.2.2.1 u362.2.2.2 i7 i8 i42 i49 (nI zc) (nI u352.2.2.1) u352.2.2.2.1 i59 i61 i64 i66 (nI t67) i76 i78, (ma 0, .inl (y 0, 1600, .inl g0)), (ma 35, .inl (y 3, 3, .inl g35))]) rfl ?_
            by_cases c367 : u362.2.2.1 = 0
            · have hpg := (xh366 c367).2
              have xh368 : RS kq s0 f0 xx u362.2.2.1 zf u352.2.2.2.2 zc u352.2.2.1 (az + 1) := rs_mono xh361 (fun _ => rfl)
              refine j_ws (ws' := [(ma 33, .inl (y 3, 2, .inl g33)), (ma 34, .inl (y 3, 3, .inl g34)), (ma 36, .inl (y 3, 3, .inl g36)), (ma 37, .inl (y 3, 3, .inl g37)), (ma 38, .inl (y 3, 5, .inl g38)), (ma 39, .inl (y 3, 5, .inl g39)), (ma 40, .inl (y 3, 3, .inl g40)), (ma 41, .inl (y 3, 3, .inl g41)), (ma 50, .inl (y 0, 3200, .inl zf)), (ma 52, .inl (y 0, 1700, .inl u352.2.2.2.2)), MB mo ma (nI t1) (nI u362.1) (nI t3) u362.2.1 0 u362.2.2.2 i7 i8 i42 i49 (nI zc) (nI u352.2.2.1) u352.2.2.2.1 i59 i61 i64 i66 (nI t67) i76 i78, (ma 0, .inl (y 0, 1600, .inl g0)), (ma 35, .inl (y 3, 3, .inl g35))]) (by rw [c367]) ?_
              refine j_goto (pc := 76) C (tgt := 2) d_Model_test_76 (by decide) ?_
              refine j_sub (ws' := [MB mo ma (nI t1) (nI u362.1) (nI t3) u362.2.1 0 u362.2.2.2 i7 i8 i42 i49 (nI zc) (nI u352.2.2.1) u352.2.2.2.1 i59 i61 i64 i66 (nI t67) i76 i78, (ma 0, .inl (y 0, 1600, .inl g0)), (ma 33, .inl (y 3, 2, .inl g33)), (ma 34, .inl (y 3, 3, .inl g34)), (ma 35, .inl (y 3, 3, .inl g35)), (ma 36, .inl (y 3, 3, .inl g36)), (ma 37, .inl (y 3, 3, .inl g37)), (ma 38, .inl (y 3, 5, .inl g38)), (ma 39, .inl (y 3, 5, .inl g39)), (ma 40, .inl (y 3, 3, .inl g40)), (ma 41, .inl (y 3, 3, .inl g41)), (ma 50, .inl (y 0, 3200, .inl zf)), (ma 52, .inl (y 0, 1700, .inl u352.2.2.2.2))]) [10, 11, 0, 1, 12, 2, 3, 4, 5, 6, 7, 8, 9] rfl (by decide) ?_
              refine j_locs (lv' := [(1, .int (nI mz)), (0, .ref mo)]) [1, 2] rfl ?_
              have hz1 := bz_e c306
              have hz0 := bz_1
              have hz2 : bz1 0 = 0 ∨ az + 1 ≤ u362.1 := Or.inr (by omega)
              exact ih297 (mz, u362.1, 0, u352.2.2.1, zc, zf, u352.2.2.2.2, u362.2.1, u362.2.2.2, u352.2.2.2.1) ⟨xh365, (show t2 ≤ u362.1 by omega), hmz_, (fun _ => xh359), (show RS kq s0 f0 (xx + (1 - mz)) 0 zf u352.2.2.2.2 zc u352.2.2.1 u362.1 by rw [hm1]; exact rs_at xh361 (by omega)), (fun e => absurd e (by omega))⟩ (show 2 * (t3 - u362.1) + bz1 0 + mz < 2 * (t3 - az) + bz1 bz + mz by omega)
            · have xh369 : RS kq s0 f0 xx u362.2.2.1 zf u352.2.2.2.2 zc u352.2.2.1 az := rs_bad1 xh361 c367
              refine j_goto (pc := 76) C (tgt := 2) d_Model_test_76 (by decide) ?_
              refine j_sub (ws' := [MB mo ma (nI t1) (nI u362.1) (nI t3) u362.2.1 u362.2.2.1 u362.2.2.2 i7 i8 i42 i49 (nI zc) (nI u352.2.2.1) u352.2.2.2.1 i59 i61 i64 i66 (nI t67) i76 i78, (ma 0, .inl (y 0, 1600, .inl g0)), (ma 33, .inl (y 3, 2, .inl g33)), (ma 34, .inl (y 3, 3, .inl g34)), (ma 35, .inl (y 3, 3, .inl g35)), (ma 36, .inl (y 3, 3, .inl g36)), (ma 37, .inl (y 3, 3, .inl g37)), (ma 38, .inl (y 3, 5, .inl g38)), (ma 39, .inl (y 3, 5, .inl g39)), (ma 40, .inl (y 3, 3, .inl g40)), (ma 41, .inl (y 3, 3, .inl g41)), (ma 50, .inl (y 0, 3200, .inl zf)), (ma 52, .inl (y 0, 1700, .inl u352.2.2.2.2))]) [10, 11, 0, 1, 12, 2, 3, 4, 5, 6, 7, 8, 9] rfl (by decide) ?_
              refine j_locs (lv' := [(1, .int (nI mz)), (0, .ref mo)]) [1, 2] rfl ?_
              have hz1 := bz_e c306
              have hz0 := bz_le u362.2.2.1
              have hz2 : bz1 u362.2.2.1 = 0 ∨ az + 1 ≤ u362.1 := Or.inl (bz_0 c367)
              exact ih297 (mz, u362.1, u362.2.2.1, u352.2.2.1, zc, zf, u352.2.2.2.2, u362.2.1, u362.2.2.2, u352.2.2.2.1) ⟨xh365, (show t2 ≤ u362.1 by omega), hmz_, (fun e => absurd e c367), (show RS kq s0 f0 (xx + (1 - mz)) u362.2.2.1 zf u352.2.2.2.2 zc u352.2.2.1 u362.1 by rw [hm1]; exact rs_at xh369 (by omega)), (fun e => absurd e (by omega))⟩ (show 2 * (t3 - u362.1) + bz1 u362.2.2.1 + mz < 2 * (t3 - az) + bz1 bz + mz by omega)
          · have xh370 : RS kq s0 f0 xx u352.1 zf u352.2.2.2.2 zc u352.2.2.1 az := xh358 rfl c360
            refine j_aload_n (pc := 68) C d_Model_test_68 rfl 2 rfl ?_
            refine j_aload_n (pc := 69) C d_Model_test_69 rfl 2 rfl ?_
            refine j_get (pc := 70) C gf_Model_96 11 rfl rfl d_Model_test_70 ?_
            refine j_callVv (pc := 73) C (c_M_asks_3 l D y mo (ma 35) ma t1 u318 t3 z147 u352.1 u352.2.1 i7 i8 i42 i49 (nI zc) (nI u352.2.2.1) u352.2.2.2.1 i59 i61 i64 i66 t67 i76 i78 g0 g35 xh320 he) kw_Model_263 kv_Model_asks 0 10 rfl rfl ⟨by decide, by decide⟩ ⟨by decide, by decide⟩ (wr := [(ma 33, .inl (y 3, 2, .inl g33)), (ma 34, .inl (y 3, 3, .inl g34)), (ma 36, .inl (y 3, 3, .inl g36)), (ma 37, .inl (y 3, 3, .inl g37)), (ma 38, .inl (y 3, 5, .inl g38)), (ma 39, .inl (y 3, 5, .inl g39)), (ma 40, .inl (y 3, 3, .inl g40)), (ma 41, .inl (y 3, 3, .inl g41)), (ma 50, .inl (y 0, 3200, .inl zf)), (ma 52, .inl (y 0, 1700, .inl u352.2.2.2.2))]) [11, 9, 10] [0, 1, 2, 3, 4, 5, 6, 7, 8, 12] rfl rfl (by decide) (by decide) (by decide) (As := [.ref (ma 35)]) (rest := []) rfl (nb rfl) rfl d_Model_test_73 (fun u371 hu372 => ?_)
            obtain ⟨xh373, xh374, xh375⟩ := hu372
            refine j_ws (ws' := [(ma 33, .inl (y 3, 2, .inl g33)), (ma 34, .inl (y 3, 3, .inl g34)), (ma 36, .inl (y 3, 3, .inl g36)), (ma 37, .inl (y 3, 3, .inl g37)), (ma 38, .inl (y 3, 5, .inl g38)), (ma 39, .inl (y 3, 5, .inl g39)), (ma 40, .inl (y 3, 3, .inl g40)), (ma 41, .inl (y 3, 3, .inl g41)), (ma 50, .inl (y 0, 3200, .inl zf)), (ma 52, .inl (y 0, 1700, .inl u352.2.2.2.2)), MB mo ma (nI t1) (nI u371.1) (nI t3) u371.2.1 u371.2.2.1 u371.2.2.2 i7 i8 i42 i49 (nI zc) (nI u352.2.2.1) u352.2.2.2.1 i59 i61 i64 i66 (nI t67) i76 i78, (ma 0, .inl (y 0, 1600, .inl g0)), (ma 35, .inl (y 3, 3, .inl g35))]) rfl ?_
            refine j_goto (pc := 76) C (tgt := 2) d_Model_test_76 (by decide) ?_
            refine j_sub (ws' := [MB mo ma (nI t1) (nI u371.1) (nI t3) u371.2.1 u371.2.2.1 u371.2.2.2 i7 i8 i42 i49 (nI zc) (nI u352.2.2.1) u352.2.2.2.1 i59 i61 i64 i66 (nI t67) i76 i78, (ma 0, .inl (y 0, 1600, .inl g0)), (ma 33, .inl (y 3, 2, .inl g33)), (ma 34, .inl (y 3, 3, .inl g34)), (ma 35, .inl (y 3, 3, .inl g35)), (ma 36, .inl (y 3, 3, .inl g36)), (ma 37, .inl (y 3, 3, .inl g37)), (ma 38, .inl (y 3, 5, .inl g38)), (ma 39, .inl (y 3, 5, .inl g39)), (ma 40, .inl (y 3, 3, .inl g40)), (ma 41, .inl (y 3, 3, .inl g41)), (ma 50, .inl (y 0, 3200, .inl zf)), (ma 52, .inl (y 0, 1700, .inl u352.2.2.2.2))]) [10, 11, 0, 1, 12, 2, 3, 4, 5, 6, 7, 8, 9] rfl (by decide) ?_
            refine j_locs (lv' := [(1, .int (nI mz)), (0, .ref mo)]) [1, 2] rfl ?_
            have hz1 := bz_e c306
            have hz0 := bz_le u371.2.2.1
            have hz2 : bz1 u371.2.2.1 = 0 ∨ az + 1 ≤ u371.1 := by
              by_cases e : u371.2.2.1 = 0
              · exact Or.inr (by have f0 := xh375 e; have g0 := f0.2; exact absurd f0.1 c360)
              · exact Or.inl (bz_0 e)
            have xh376 : RS kq s0 f0 xx u371.2.2.1 zf u352.2.2.2.2 zc u352.2.2.1 az := rs_mono xh370 (fun e => by have e0 := (xh375 e).1; exact e0)
            exact ih297 (mz, u371.1, u371.2.2.1, u352.2.2.1, zc, zf, u352.2.2.2.2, u371.2.1, u371.2.2.2, u352.2.2.2.1) ⟨xh374, (show t2 ≤ u371.1 by omega), hmz_, (fun _ => xh359), (show RS kq s0 f0 (xx + (1 - mz)) u371.2.2.1 zf u352.2.2.2.2 zc u352.2.2.1 u371.1 by rw [hm1]; exact rs_at xh376 (by omega)), (fun e => absurd e (by omega))⟩ (show 2 * (t3 - u371.1) + bz1 u371.2.2.1 + mz < 2 * (t3 - az) + bz1 bz + mz by omega)
      · refine j_istore_n (pc := 17) C (lv' := [(2, .int r310), (1, .int (nI mz)), (0, .ref mo)]) d_Model_test_17 rfl (by decide) rfl ?_
        refine j_iload_n (pc := 18) C d_Model_test_18 rfl 0 rfl ?_
        refine j_bipush (pc := 19) C (v := 91) d_Model_test_19 (by decide) ?_
        refine j_icmp_ne (pc := 21) C (tgt := 47) d_Model_test_21 (by decide) (fun c377 => ?_) (fun c377 => ?_)
        · refine j_aload_n (pc := 47) C d_Model_test_47 rfl 2 rfl ?_
          refine j_aload_n (pc := 48) C d_Model_test_48 rfl 2 rfl ?_
          refine j_get (pc := 49) C gf_Model_96 11 rfl rfl d_Model_test_49 ?_
          refine j_callVi (pc := 52) C (c_M_isHere_3 l D y mo (ma 35) ma t1 u311 t3 z147 0 z148 i7 i8 i42 i49 (nI zc) (nI zn) z149 i59 i61 i64 i66 t67 i76 i78 g0 g35 xh313 he) kw_Model_224 kv_Model_isHere 0 10 rfl rfl ⟨by decide, by decide⟩ ⟨by decide, by decide⟩ (wr := [(ma 33, .inl (y 3, 2, .inl g33)), (ma 34, .inl (y 3, 3, .inl g34)), (ma 36, .inl (y 3, 3, .inl g36)), (ma 37, .inl (y 3, 3, .inl g37)), (ma 38, .inl (y 3, 5, .inl g38)), (ma 39, .inl (y 3, 5, .inl g39)), (ma 40, .inl (y 3, 3, .inl g40)), (ma 41, .inl (y 3, 3, .inl g41)), (ma 50, .inl (y 0, 3200, .inl zf)), (ma 52, .inl (y 0, 1700, .inl zw))]) [11, 12, 2] [0, 1, 3, 4, 5, 6, 7, 8, 9, 10] rfl rfl (by decide) (by decide) (by decide) (As := [.ref (ma 35)]) (rest := []) rfl (nb rfl) rfl d_Model_test_52 (fun r378 u379 hr378 => ?_)
          refine j_ws (ws' := [(ma 33, .inl (y 3, 2, .inl g33)), (ma 34, .inl (y 3, 3, .inl g34)), (ma 36, .inl (y 3, 3, .inl g36)), (ma 37, .inl (y 3, 3, .inl g37)), (ma 38, .inl (y 3, 5, .inl g38)), (ma 39, .inl (y 3, 5, .inl g39)), (ma 40, .inl (y 3, 3, .inl g40)), (ma 41, .inl (y 3, 3, .inl g41)), (ma 50, .inl (y 0, 3200, .inl zf)), (ma 52, .inl (y 0, 1700, .inl zw)), MB mo ma (nI t1) (nI u379) (nI t3) z147 0 z148 i7 i8 i42 i49 (nI zc) (nI zn) z149 i59 i61 i64 i66 (nI t67) i76 i78, (ma 0, .inl (y 0, 1600, .inl g0)), (ma 35, .inl (y 3, 3, .inl g35))]) rfl ?_
          obtain ⟨xh380, xh381, xh382⟩ := hr378
          rcases xh382 with rfl | ⟨rfl, xh383⟩
          · refine j_if_eqT (pc := 55) C (tgt := 79) d_Model_test_55 (by decide) (by decide) ?_
            refine j_aload_n (pc := 79) C d_Model_test_79 rfl 2 rfl ?_
            refine j_callVv (pc := 80) C (c_M_fact l D y mo ma t1 u379 t3 z147 z148 i7 i8 i42 i49 zc zn z149 i59 i61 i64 i66 t67 i76 i78 g0 g36 g37 g38 g39 g40 g41 zf zw s0 xx kq f0 xh381 he (rs_at xh309 (by omega)) hT0 hK) kw_Model_371 kv_Model_fact 0 10 rfl rfl ⟨by decide, by decide⟩ ⟨by decide, by decide⟩ (wr := [(ma 33, .inl (y 3, 2, .inl g33)), (ma 34, .inl (y 3, 3, .inl g34)), (ma 35, .inl (y 3, 3, .inl g35))]) [10, 11, 2, 3, 4, 5, 6, 7, 8, 9] [0, 1, 12] rfl rfl (by decide) (by decide) (by decide) (As := []) (rest := []) rfl (nb rfl) rfl d_Model_test_80 (fun u384 hu385 => ?_)
            obtain ⟨xh386, xh387, xh388, xh389, xh390, xh391⟩ := hu385
            refine j_ws (ws' := [(ma 33, .inl (y 3, 2, .inl g33)), (ma 34, .inl (y 3, 3, .inl g34)), (ma 35, .inl (y 3, 3, .inl g35)), MB mo ma (nI t1) (nI u384.1) (nI t3) u384.2.1 u384.2.2.1 u384.2.2.2.1 i7 i8 i42 i49 (nI u384.2.2.2.2.1) (nI u384.2.2.2.2.2.1) u384.2.2.2.2.2.2.1 i59 i61 i64 i66 (nI t67) i76 i78, (ma 0, .inl (y 0, 1600, .inl g0)), (ma 36, .inl (y 3, 3, .inl g36)), (ma 37, .inl (y 3, 3, .inl g37)), (ma 38, .inl (y 3, 5, .inl g38)), (ma 39, .inl (y 3, 5, .inl g39)), (ma 40, .inl (y 3, 3, .inl g40)), (ma 41, .inl (y 3, 3, .inl g41)), (ma 50, .inl (y 0, 3200, .inl u384.2.2.2.2.2.2.2.1)), (ma 52, .inl (y 0, 1700, .inl u384.2.2.2.2.2.2.2.2))]) rfl ?_
            by_cases c392 : u384.2.2.1 = 0
            · have hpg := (xh388 c392).2
              refine j_ws (ws' := [(ma 33, .inl (y 3, 2, .inl g33)), (ma 34, .inl (y 3, 3, .inl g34)), (ma 35, .inl (y 3, 3, .inl g35)), MB mo ma (nI t1) (nI u384.1) (nI t3) u384.2.1 0 u384.2.2.2.1 i7 i8 i42 i49 (nI u384.2.2.2.2.1) (nI u384.2.2.2.2.2.1) u384.2.2.2.2.2.2.1 i59 i61 i64 i66 (nI t67) i76 i78, (ma 0, .inl (y 0, 1600, .inl g0)), (ma 36, .inl (y 3, 3, .inl g36)), (ma 37, .inl (y 3, 3, .inl g37)), (ma 38, .inl (y 3, 5, .inl g38)), (ma 39, .inl (y 3, 5, .inl g39)), (ma 40, .inl (y 3, 3, .inl g40)), (ma 41, .inl (y 3, 3, .inl g41)), (ma 50, .inl (y 0, 3200, .inl u384.2.2.2.2.2.2.2.1)), (ma 52, .inl (y 0, 1700, .inl u384.2.2.2.2.2.2.2.2))]) (by rw [c392]) ?_
              have xh393 : RS kq s0 f0 (xx + 1) 0 u384.2.2.2.2.2.2.2.1 u384.2.2.2.2.2.2.2.2 u384.2.2.2.2.1 u384.2.2.2.2.2.1 u384.1 := rs_z xh389 c392
              refine j_aload_n (pc := 83) C d_Model_test_83 rfl 2 rfl ?_
              refine j_callVv (pc := 84) C (c_M_dropsNots l D y mo ma t1 u384.1 t3 u384.2.1 0 u384.2.2.2.1 i7 i8 i42 i49 u384.2.2.2.2.1 u384.2.2.2.2.2.1 u384.2.2.2.2.2.2.1 i59 i61 i64 i66 t67 i76 i78 u384.2.2.2.2.2.2.2.1 u384.2.2.2.2.2.2.2.2 s0 xx kq f0 xh387 he xh393 hK) kw_Model_374 kv_Model_dropsNots 0 10 rfl rfl ⟨by decide, by decide⟩ ⟨by decide, by decide⟩ (wr := [(ma 33, .inl (y 3, 2, .inl g33)), (ma 34, .inl (y 3, 3, .inl g34)), (ma 35, .inl (y 3, 3, .inl g35)), (ma 0, .inl (y 0, 1600, .inl g0)), (ma 36, .inl (y 3, 3, .inl g36)), (ma 37, .inl (y 3, 3, .inl g37)), (ma 38, .inl (y 3, 5, .inl g38)), (ma 39, .inl (y 3, 5, .inl g39)), (ma 40, .inl (y 3, 3, .inl g40)), (ma 41, .inl (y 3, 3, .inl g41))]) [3, 11, 12] [0, 1, 2, 4, 5, 6, 7, 8, 9, 10] rfl rfl (by decide) (by decide) (by decide) (As := []) (rest := []) rfl (nb rfl) rfl d_Model_test_84 (fun u394 hu395 => ?_)
              obtain ⟨xh396, xh397⟩ := hu395
              refine j_ws (ws' := [(ma 33, .inl (y 3, 2, .inl g33)), (ma 34, .inl (y 3, 3, .inl g34)), (ma 35, .inl (y 3, 3, .inl g35)), (ma 0, .inl (y 0, 1600, .inl g0)), (ma 36, .inl (y 3, 3, .inl g36)), (ma 37, .inl (y 3, 3, .inl g37)), (ma 38, .inl (y 3, 5, .inl g38)), (ma 39, .inl (y 3, 5, .inl g39)), (ma 40, .inl (y 3, 3, .inl g40)), (ma 41, .inl (y 3, 3, .inl g41)), MB mo ma (nI t1) (nI u384.1) (nI t3) u384.2.1 0 u384.2.2.2.1 i7 i8 i42 i49 (nI u394.1) (nI u394.2.1) u394.2.2.1 i59 i61 i64 i66 (nI t67) i76 i78, (ma 50, .inl (y 0, 3200, .inl u394.2.2.2)), (ma 52, .inl (y 0, 1700, .inl u384.2.2.2.2.2.2.2.2))]) rfl ?_
              refine j_aload_n (pc := 87) C d_Model_test_87 rfl 2 rfl ?_
              refine j_get (pc := 88) C gf_Model_201 10 rfl rfl d_Model_test_88 ?_
              refine j_if_neF (pc := 91) C (tgt := 105) d_Model_test_91 (by decide) (by decide) ?_
              refine j_aload_n (pc := 94) C d_Model_test_94 rfl 2 rfl ?_
              refine j_callVi (pc := 95) C (c_M_goesOnTest l D y mo ma t1 u384.1 t3 u384.2.1 u384.2.2.2.1 i7 i8 i42 i49 u394.1 u394.2.1 u394.2.2.1 i59 i61 i64 i66 t67 i76 i78 g0 g33 g34 u394.2.2.2 u384.2.2.2.2.2.2.2.2 s0 xx kq f0 xh387 he xh397 (it_le xh390 (by omega)) hK) kw_Model_377 kv_Model_goesOnTest 0 10 rfl rfl ⟨by decide, by decide⟩ ⟨by decide, by decide⟩ (wr := [(ma 35, .inl (y 3, 3, .inl g35)), (ma 36, .inl (y 3, 3, .inl g36)), (ma 37, .inl (y 3, 3, .inl g37)), (ma 38, .inl (y 3, 5, .inl g38)), (ma 39, .inl (y 3, 5, .inl g39)), (ma 40, .inl (y 3, 3, .inl g40)), (ma 41, .inl (y 3, 3, .inl g41))]) [10, 3, 0, 1, 11, 12] [2, 4, 5, 6, 7, 8, 9] rfl rfl (by decide) (by decide) (by decide) (As := []) (rest := []) rfl (nb rfl) rfl d_Model_test_95 (fun r398 u399 hr398 => ?_)
              refine j_ws (ws' := [(ma 35, .inl (y 3, 3, .inl g35)), (ma 36, .inl (y 3, 3, .inl g36)), (ma 37, .inl (y 3, 3, .inl g37)), (ma 38, .inl (y 3, 5, .inl g38)), (ma 39, .inl (y 3, 5, .inl g39)), (ma 40, .inl (y 3, 3, .inl g40)), (ma 41, .inl (y 3, 3, .inl g41)), MB mo ma (nI t1) (nI u399.1) (nI t3) u399.2.1 u399.2.2.1 u399.2.2.2.1 i7 i8 i42 i49 (nI u399.2.2.2.2.1) (nI u399.2.2.2.2.2.1) u399.2.2.2.2.2.2.1 i59 i61 i64 i66 (nI t67) i76 i78, (ma 0, .inl (y 0, 1600, .inl g0)), (ma 33, .inl (y 3, 2, .inl g33)), (ma 34, .inl (y 3, 3, .inl g34)), (ma 50, .inl (y 0, 3200, .inl u399.2.2.2.2.2.2.2.1)), (ma 52, .inl (y 0, 1700, .inl u399.2.2.2.2.2.2.2.2))]) rfl ?_
              obtain ⟨xh400, xh401, xh402, xh403, xh404⟩ := hr398
              rcases xh404 with ⟨rfl, e405, xh406⟩ | ⟨rfl, xh407, xh408⟩
              · refine j_if_eqF (pc := 98) C (tgt := 105) d_Model_test_98 (by decide) (by decide) ?_
                refine j_iconst (pc := 101) C (v := 1) d_Model_test_101 (by decide) ?_
                refine j_goto (pc := 102) C (tgt := 106) d_Model_test_102 (by decide) ?_
                refine j_istore_n (pc := 106) C (lv' := [(1, .int 1), (2, .int r310), (0, .ref mo)]) d_Model_test_106 rfl (by decide) rfl ?_
                refine j_goto (pc := 107) C (tgt := 2) d_Model_test_107 (by decide) ?_
                refine j_sub (ws' := [MB mo ma (nI t1) (nI u399.1) (nI t3) u399.2.1 u399.2.2.1 u399.2.2.2.1 i7 i8 i42 i49 (nI u399.2.2.2.2.1) (nI u399.2.2.2.2.2.1) u399.2.2.2.2.2.2.1 i59 i61 i64 i66 (nI t67) i76 i78, (ma 0, .inl (y 0, 1600, .inl g0)), (ma 33, .inl (y 3, 2, .inl g33)), (ma 34, .inl (y 3, 3, .inl g34)), (ma 35, .inl (y 3, 3, .inl g35)), (ma 36, .inl (y 3, 3, .inl g36)), (ma 37, .inl (y 3, 3, .inl g37)), (ma 38, .inl (y 3, 5, .inl g38)), (ma 39, .inl (y 3, 5, .inl g39)), (ma 40, .inl (y 3, 3, .inl g40)), (ma 41, .inl (y 3, 3, .inl g41)), (ma 50, .inl (y 0, 3200, .inl u399.2.2.2.2.2.2.2.1)), (ma 52, .inl (y 0, 1700, .inl u399.2.2.2.2.2.2.2.2))]) [7, 8, 9, 10, 0, 1, 2, 3, 4, 5, 6, 11, 12] rfl (by decide) ?_
                refine j_locs (lv' := [(1, .int 1), (0, .ref mo)]) [0, 2] rfl ?_
                have hz1 := bz_e c306
                have hz0 := bz_le u399.2.2.1
                have hz2 : bz1 u399.2.2.1 = 0 ∨ az + 1 ≤ u399.1 := by
                  by_cases e : u399.2.2.1 = 0
                  · exact Or.inr (by have f0 := xh402 e; have g0 := f0.2; omega)
                  · exact Or.inl (bz_0 e)
                exact ih297 (1, u399.1, u399.2.2.1, u399.2.2.2.2.2.1, u399.2.2.2.2.1, u399.2.2.2.2.2.2.2.1, u399.2.2.2.2.2.2.2.2, u399.2.1, u399.2.2.2.1, u399.2.2.2.2.2.2.1) ⟨xh401, (show t2 ≤ u399.1 by omega), (show 1 ≤ 1 by omega), (fun _ => xh403), (show RS kq s0 f0 (xx + (1 - 1)) u399.2.2.1 u399.2.2.2.2.2.2.2.1 u399.2.2.2.2.2.2.2.2 u399.2.2.2.2.1 u399.2.2.2.2.2.1 u399.1 from rs_at xh406 (by omega)), (fun e => absurd e (by omega))⟩ (show 2 * (t3 - u399.1) + bz1 u399.2.2.1 + 1 < 2 * (t3 - az) + bz1 bz + mz by omega)
              · refine j_if_eqT (pc := 98) C (tgt := 105) d_Model_test_98 (by decide) (by decide) ?_
                refine j_iconst (pc := 105) C (v := 0) d_Model_test_105 (by decide) ?_
                refine j_istore_n (pc := 106) C (lv' := [(1, .int 0), (2, .int r310), (0, .ref mo)]) d_Model_test_106 rfl (by decide) rfl ?_
                refine j_goto (pc := 107) C (tgt := 2) d_Model_test_107 (by decide) ?_
                refine j_sub (ws' := [MB mo ma (nI t1) (nI u399.1) (nI t3) u399.2.1 u399.2.2.1 u399.2.2.2.1 i7 i8 i42 i49 (nI u399.2.2.2.2.1) (nI u399.2.2.2.2.2.1) u399.2.2.2.2.2.2.1 i59 i61 i64 i66 (nI t67) i76 i78, (ma 0, .inl (y 0, 1600, .inl g0)), (ma 33, .inl (y 3, 2, .inl g33)), (ma 34, .inl (y 3, 3, .inl g34)), (ma 35, .inl (y 3, 3, .inl g35)), (ma 36, .inl (y 3, 3, .inl g36)), (ma 37, .inl (y 3, 3, .inl g37)), (ma 38, .inl (y 3, 5, .inl g38)), (ma 39, .inl (y 3, 5, .inl g39)), (ma 40, .inl (y 3, 3, .inl g40)), (ma 41, .inl (y 3, 3, .inl g41)), (ma 50, .inl (y 0, 3200, .inl u399.2.2.2.2.2.2.2.1)), (ma 52, .inl (y 0, 1700, .inl u399.2.2.2.2.2.2.2.2))]) [7, 8, 9, 10, 0, 1, 2, 3, 4, 5, 6, 11, 12] rfl (by decide) ?_
                refine j_locs (lv' := [(1, .int 0), (0, .ref mo)]) [0, 2] rfl ?_
                have hz1 := bz_e c306
                have hz0 := bz_le u399.2.2.1
                exact ih297 (0, u399.1, u399.2.2.1, u399.2.2.2.2.2.1, u399.2.2.2.2.1, u399.2.2.2.2.2.2.2.1, u399.2.2.2.2.2.2.2.2, u399.2.1, u399.2.2.2.1, u399.2.2.2.2.2.2.1) ⟨xh401, (show t2 ≤ u399.1 by omega), (show 0 ≤ 1 by omega), (fun _ => xh403), (show RS kq s0 f0 (xx + (1 - 0)) u399.2.2.1 u399.2.2.2.2.2.2.2.1 u399.2.2.2.2.2.2.2.2 u399.2.2.2.2.1 u399.2.2.2.2.2.1 u399.1 from rs_at xh407 (by omega)), (fun _ => xh408)⟩ (show 2 * (t3 - u399.1) + bz1 u399.2.2.1 + 0 < 2 * (t3 - az) + bz1 bz + mz by omega)
            · refine j_aload_n (pc := 83) C d_Model_test_83 rfl 2 rfl ?_
              refine j_callVv (pc := 84) C (c_M_dropsNots l D y mo ma t1 u384.1 t3 u384.2.1 u384.2.2.1 u384.2.2.2.1 i7 i8 i42 i49 u384.2.2.2.2.1 u384.2.2.2.2.2.1 u384.2.2.2.2.2.2.1 i59 i61 i64 i66 t67 i76 i78 u384.2.2.2.2.2.2.2.1 u384.2.2.2.2.2.2.2.2 s0 xx kq f0 xh387 he xh389 hK) kw_Model_374 kv_Model_dropsNots 0 10 rfl rfl ⟨by decide, by decide⟩ ⟨by decide, by decide⟩ (wr := [(ma 33, .inl (y 3, 2, .inl g33)), (ma 34, .inl (y 3, 3, .inl g34)), (ma 35, .inl (y 3, 3, .inl g35)), (ma 0, .inl (y 0, 1600, .inl g0)), (ma 36, .inl (y 3, 3, .inl g36)), (ma 37, .inl (y 3, 3, .inl g37)), (ma 38, .inl (y 3, 5, .inl g38)), (ma 39, .inl (y 3, 5, .inl g39)), (ma 40, .inl (y 3, 3, .inl g40)), (ma 41, .inl (y 3, 3, .inl g41))]) [3, 11, 12] [0, 1, 2, 4, 5, 6, 7, 8, 9, 10] rfl rfl (by decide) (by decide) (by decide) (As := []) (rest := []) rfl (nb rfl) rfl d_Model_test_84 (fun u409 hu410 => ?_)
              obtain ⟨xh411, xh412⟩ := hu410
              refine j_ws (ws' := [(ma 33, .inl (y 3, 2, .inl g33)), (ma 34, .inl (y 3, 3, .inl g34)), (ma 35, .inl (y 3, 3, .inl g35)), (ma 0, .inl (y 0, 1600, .inl g0)), (ma 36, .inl (y 3, 3, .inl g36)), (ma 37, .inl (y 3, 3, .inl g37)), (ma 38, .inl (y 3, 5, .inl g38)), (ma 39, .inl (y 3, 5, .inl g39)), (ma 40, .inl (y 3, 3, .inl g40)), (ma 41, .inl (y 3, 3, .inl g41)), MB mo ma (nI t1) (nI u384.1) (nI t3) u384.2.1 u384.2.2.1 u384.2.2.2.1 i7 i8 i42 i49 (nI u409.1) (nI u409.2.1) u409.2.2.1 i59 i61 i64 i66 (nI t67) i76 i78, (ma 50, .inl (y 0, 3200, .inl u409.2.2.2)), (ma 52, .inl (y 0, 1700, .inl u384.2.2.2.2.2.2.2.2))]) rfl ?_
              refine j_aload_n (pc := 87) C d_Model_test_87 rfl 2 rfl ?_
              refine j_get (pc := 88) C gf_Model_201 10 rfl rfl d_Model_test_88 ?_
              refine j_if_neT (pc := 91) C (tgt := 105) d_Model_test_91 (by decide) c392 ?_
              refine j_iconst (pc := 105) C (v := 0) d_Model_test_105 (by decide) ?_
              refine j_istore_n (pc := 106) C (lv' := [(1, .int 0), (2, .int r310), (0, .ref mo)]) d_Model_test_106 rfl (by decide) rfl ?_
              refine j_goto (pc := 107) C (tgt := 2) d_Model_test_107 (by decide) ?_
              refine j_sub (ws' := [MB mo ma (nI t1) (nI u384.1) (nI t3) u384.2.1 u384.2.2.1 u384.2.2.2.1 i7 i8 i42 i49 (nI u409.1) (nI u409.2.1) u409.2.2.1 i59 i61 i64 i66 (nI t67) i76 i78, (ma 0, .inl (y 0, 1600, .inl g0)), (ma 33, .inl (y 3, 2, .inl g33)), (ma 34, .inl (y 3, 3, .inl g34)), (ma 35, .inl (y 3, 3, .inl g35)), (ma 36, .inl (y 3, 3, .inl g36)), (ma 37, .inl (y 3, 3, .inl g37)), (ma 38, .inl (y 3, 5, .inl g38)), (ma 39, .inl (y 3, 5, .inl g39)), (ma 40, .inl (y 3, 3, .inl g40)), (ma 41, .inl (y 3, 3, .inl g41)), (ma 50, .inl (y 0, 3200, .inl u409.2.2.2)), (ma 52, .inl (y 0, 1700, .inl u384.2.2.2.2.2.2.2.2))]) [10, 3, 0, 1, 2, 4, 5, 6, 7, 8, 9, 11, 12] rfl (by decide) ?_
              refine j_locs (lv' := [(1, .int 0), (0, .ref mo)]) [0, 2] rfl ?_
              have hz1 := bz_e c306
              have hz0 := bz_le u384.2.2.1
              exact ih297 (0, u384.1, u384.2.2.1, u409.2.1, u409.1, u409.2.2.2, u384.2.2.2.2.2.2.2.2, u384.2.1, u384.2.2.2.1, u409.2.2.1) ⟨xh387, (show t2 ≤ u384.1 by omega), (show 0 ≤ 1 by omega), (fun e => absurd e c392), (show RS kq s0 f0 (xx + (1 - 0)) u384.2.2.1 u409.2.2.2 u384.2.2.2.2.2.2.2.2 u409.1 u409.2.1 u384.1 from rs_at xh412 (by omega)), (fun _ e => absurd e c392)⟩ (show 2 * (t3 - u384.1) + bz1 u384.2.2.1 + 0 < 2 * (t3 - az) + bz1 bz + mz by omega)
          · refine j_if_eqF (pc := 55) C (tgt := 79) d_Model_test_55 (by decide) (by decide) ?_
            refine j_aload_n (pc := 58) C d_Model_test_58 rfl 2 rfl ?_
            refine j_bipush (pc := 59) C (v := 16) d_Model_test_59 (by decide) ?_
            refine j_aload_n (pc := 61) C d_Model_test_61 rfl 2 rfl ?_
            refine j_get (pc := 62) C gf_Model_207 10 rfl rfl d_Model_test_62 ?_
            refine j_callVv (pc := 65) C (c_M_opens_T l D y mo ma t1 u379 t3 z147 0 z148 i7 i8 i42 i49 zc zn z149 i59 i61 i64 i66 t67 i76 i78 zw 16 (nI u379) s0 xx kq f0 az zf (by decide) (by omega) xh309 (by decide) hT0 hK) kw_Model_353 kv_Model_opens 0 10 rfl rfl ⟨by decide, by decide⟩ ⟨by decide, by decide⟩ (wr := [(ma 33, .inl (y 3, 2, .inl g33)), (ma 34, .inl (y 3, 3, .inl g34)), (ma 36, .inl (y 3, 3, .inl g36)), (ma 37, .inl (y 3, 3, .inl g37)), (ma 38, .inl (y 3, 5, .inl g38)), (ma 39, .inl (y 3, 5, .inl g39)), (ma 40, .inl (y 3, 3, .inl g40)), (ma 41, .inl (y 3, 3, .inl g41)), (ma 50, .inl (y 0, 3200, .inl zf)), (ma 0, .inl (y 0, 1600, .inl g0)), (ma 35, .inl (y 3, 3, .inl g35))]) [10, 9] [0, 1, 2, 3, 4, 5, 6, 7, 8, 11, 12] rfl rfl (by decide) (by decide) (by decide) (As := [.int 16, .int (nI u379)]) (rest := []) rfl (nb rfl) rfl d_Model_test_65 (fun u413 hu414 => ?_)
            obtain ⟨xh415, xh416, xh417, xh418, xh419, xh420⟩ := hu414
            refine j_ws (ws' := [(ma 33, .inl (y 3, 2, .inl g33)), (ma 34, .inl (y 3, 3, .inl g34)), (ma 36, .inl (y 3, 3, .inl g36)), (ma 37, .inl (y 3, 3, .inl g37)), (ma 38, .inl (y 3, 5, .inl g38)), (ma 39, .inl (y 3, 5, .inl g39)), (ma 40, .inl (y 3, 3, .inl g40)), (ma 41, .inl (y 3, 3, .inl g41)), (ma 50, .inl (y 0, 3200, .inl zf)), (ma 0, .inl (y 0, 1600, .inl g0)), (ma 35, .inl (y 3, 3, .inl g35)), MB mo ma (nI t1) (nI u379) (nI t3) z147 u413.1 u413.2.1 i7 i8 i42 i49 (nI zc) (nI u413.2.2.1) u413.2.2.2.1 i59 i61 i64 i66 (nI t67) i76 i78, (ma 52, .inl (y 0, 1700, .inl u413.2.2.2.2))]) rfl ?_
            by_cases c421 : u413.1 = 0
            · refine j_ws (ws' := [(ma 33, .inl (y 3, 2, .inl g33)), (ma 34, .inl (y 3, 3, .inl g34)), (ma 36, .inl (y 3, 3, .inl g36)), (ma 37, .inl (y 3, 3, .inl g37)), (ma 38, .inl (y 3, 5, .inl g38)), (ma 39, .inl (y 3, 5, .inl g39)), (ma 40, .inl (y 3, 3, .inl g40)), (ma 41, .inl (y 3, 3, .inl g41)), (ma 50, .inl (y 0, 3200, .inl zf)), (ma 0, .inl (y 0, 1600, .inl g0)), (ma 35, .inl (y 3, 3, .inl g35)), MB mo ma (nI t1) (nI u379) (nI t3) z147 0 u413.2.1 i7 i8 i42 i49 (nI zc) (nI u413.2.2.1) u413.2.2.2.1 i59 i61 i64 i66 (nI t67) i76 i78, (ma 52, .inl (y 0, 1700, .inl u413.2.2.2.2))]) (by rw [c421]) ?_
              have xh422 : RS kq s0 f0 xx 0 zf u413.2.2.2.2 zc u413.2.2.1 (az + 1) := rs_z xh418 c421
              refine j_aload_n (pc := 68) C d_Model_test_68 rfl 2 rfl ?_
              refine j_aload_n (pc := 69) C d_Model_test_69 rfl 2 rfl ?_
              refine j_get (pc := 70) C gf_Model_96 11 rfl rfl d_Model_test_70 ?_
              refine j_callVv (pc := 73) C (c_M_asks_3 l D y mo (ma 35) ma t1 u379 t3 z147 0 u413.2.1 i7 i8 i42 i49 (nI zc) (nI u413.2.2.1) u413.2.2.2.1 i59 i61 i64 i66 t67 i76 i78 g0 g35 xh381 he) kw_Model_263 kv_Model_asks 0 10 rfl rfl ⟨by decide, by decide⟩ ⟨by decide, by decide⟩ (wr := [(ma 33, .inl (y 3, 2, .inl g33)), (ma 34, .inl (y 3, 3, .inl g34)), (ma 36, .inl (y 3, 3, .inl g36)), (ma 37, .inl (y 3, 3, .inl g37)), (ma 38, .inl (y 3, 5, .inl g38)), (ma 39, .inl (y 3, 5, .inl g39)), (ma 40, .inl (y 3, 3, .inl g40)), (ma 41, .inl (y 3, 3, .inl g41)), (ma 50, .inl (y 0, 3200, .inl zf)), (ma 52, .inl (y 0, 1700, .inl u413.2.2.2.2))]) [11, 9, 10] [0, 1, 2, 3, 4, 5, 6, 7, 8, 12] rfl rfl (by decide) (by decide) (by decide) (As := [.ref (ma 35)]) (rest := []) rfl (nb rfl) rfl d_Model_test_73 (fun u423 hu424 => ?_)
              obtain ⟨xh425, xh426, xh427⟩ := hu424
              refine j_ws (ws' := [(ma 33, .inl (y 3, 2, .inl g33)), (ma 34, .inl (y 3, 3, .inl g34)), (ma 36, .inl (y 3, 3, .inl g36)), (ma 37, .inl (y 3, 3, .inl g37)), (ma 38, .inl (y 3, 5, .inl g38)), (ma 39, .inl (y 3, 5, .inl g39)), (ma 40, .inl (y 3, 3, .inl g40)), (ma 41, .inl (y 3, 3, .inl g41)), (ma 50, .inl (y 0, 3200, .inl zf)), (ma 52, .inl (y 0, 1700, .inl u413.2.2.2.2)), MB mo ma (nI t1) (nI u423.1) (nI t3) u423.2.1 u423.2.2.1 u423.2.2.2 i7 i8 i42 i49 (nI zc) (nI u413.2.2.1) u413.2.2.2.1 i59 i61 i64 i66 (nI t67) i76 i78, (ma 0, .inl (y 0, 1600, .inl g0)), (ma 35, .inl (y 3, 3, .inl g35))]) rfl ?_
              by_cases c428 : u423.2.2.1 = 0
              · have hpg := (xh427 c428).2
                have xh429 : RS kq s0 f0 xx u423.2.2.1 zf u413.2.2.2.2 zc u413.2.2.1 (az + 1) := rs_mono xh422 (fun _ => rfl)
                refine j_ws (ws' := [(ma 33, .inl (y 3, 2, .inl g33)), (ma 34, .inl (y 3, 3, .inl g34)), (ma 36, .inl (y 3, 3, .inl g36)), (ma 37, .inl (y 3, 3, .inl g37)), (ma 38, .inl (y 3, 5, .inl g38)), (ma 39, .inl (y 3, 5, .inl g39)), (ma 40, .inl (y 3, 3, .inl g40)), (ma 41, .inl (y 3, 3, .inl g41)), (ma 50, .inl (y 0, 3200, .inl zf)), (ma 52, .inl (y 0, 1700, .inl u413.2.2.2.2)), MB mo ma (nI t1) (nI u423.1) (nI t3) u423.2.1 0 u423.2.2.2 i7 i8 i42 i49 (nI zc) (nI u413.2.2.1) u413.2.2.2.1 i59 i61 i64 i66 (nI t67) i76 i78, (ma 0, .inl (y 0, 1600, .inl g0)), (ma 35, .inl (y 3, 3, .inl g35))]) (by rw [c428]) ?_
                refine j_goto (pc := 76) C (tgt := 2) d_Model_test_76 (by decide) ?_
                refine j_sub (ws' := [MB mo ma (nI t1) (nI u423.1) (nI t3) u423.2.1 0 u423.2.2.2 i7 i8 i42 i49 (nI zc) (nI u413.2.2.1) u413.2.2.2.1 i59 i61 i64 i66 (nI t67) i76 i78, (ma 0, .inl (y 0, 1600, .inl g0)), (ma 33, .inl (y 3, 2, .inl g33)), (ma 34, .inl (y 3, 3, .inl g34)), (ma 35, .inl (y 3, 3, .inl g35)), (ma 36, .inl (y 3, 3, .inl g36)), (ma 37, .inl (y 3, 3, .inl g37)), (ma 38, .inl (y 3, 5, .inl g38)), (ma 39, .inl (y 3, 5, .inl g39)), (ma 40, .inl (y 3, 3, .inl g40)), (ma 41, .inl (y 3, 3, .inl g41)), (ma 50, .inl (y 0, 3200, .inl zf)), (ma 52, .inl (y 0, 1700, .inl u413.2.2.2.2))]) [10, 11, 0, 1, 12, 2, 3, 4, 5, 6, 7, 8, 9] rfl (by decide) ?_
                refine j_locs (lv' := [(1, .int (nI mz)), (0, .ref mo)]) [1, 2] rfl ?_
                have hz1 := bz_e c306
                have hz0 := bz_1
                have hz2 : bz1 0 = 0 ∨ az + 1 ≤ u423.1 := Or.inr (by omega)
                exact ih297 (mz, u423.1, 0, u413.2.2.1, zc, zf, u413.2.2.2.2, u423.2.1, u423.2.2.2, u413.2.2.2.1) ⟨xh426, (show t2 ≤ u423.1 by omega), hmz_, (fun _ => xh420), (show RS kq s0 f0 (xx + (1 - mz)) 0 zf u413.2.2.2.2 zc u413.2.2.1 u423.1 by rw [hm1]; exact rs_at xh422 (by omega)), (fun e => absurd e (by omega))⟩ (show 2 * (t3 - u423.1) + bz1 0 + mz < 2 * (t3 - az) + bz1 bz + mz by omega)
              · have xh430 : RS kq s0 f0 xx u423.2.2.1 zf u413.2.2.2.2 zc u413.2.2.1 az := rs_bad1 xh422 c428
                refine j_goto (pc := 76) C (tgt := 2) d_Model_test_76 (by decide) ?_
                refine j_sub (ws' := [MB mo ma (nI t1) (nI u423.1) (nI t3) u423.2.1 u423.2.2.1 u423.2.2.2 i7 i8 i42 i49 (nI zc) (nI u413.2.2.1) u413.2.2.2.1 i59 i61 i64 i66 (nI t67) i76 i78, (ma 0, .inl (y 0, 1600, .inl g0)), (ma 33, .inl (y 3, 2, .inl g33)), (ma 34, .inl (y 3, 3, .inl g34)), (ma 35, .inl (y 3, 3, .inl g35)), (ma 36, .inl (y 3, 3, .inl g36)), (ma 37, .inl (y 3, 3, .inl g37)), (ma 38, .inl (y 3, 5, .inl g38)), (ma 39, .inl (y 3, 5, .inl g39)), (ma 40, .inl (y 3, 3, .inl g40)), (ma 41, .inl (y 3, 3, .inl g41)), (ma 50, .inl (y 0, 3200, .inl zf)), (ma 52, .inl (y 0, 1700, .inl u413.2.2.2.2))]) [10, 11, 0, 1, 12, 2, 3, 4, 5, 6, 7, 8, 9] rfl (by decide) ?_
                refine j_locs (lv' := [(1, .int (nI mz)), (0, .ref mo)]) [1, 2] rfl ?_
                have hz1 := bz_e c306
                have hz0 := bz_le u423.2.2.1
                have hz2 : bz1 u423.2.2.1 = 0 ∨ az + 1 ≤ u423.1 := Or.inl (bz_0 c428)
                exact ih297 (mz, u423.1, u423.2.2.1, u413.2.2.1, zc, zf, u413.2.2.2.2, u423.2.1, u423.2.2.2, u413.2.2.2.1) ⟨xh426, (show t2 ≤ u423.1 by omega), hmz_, (fun e => absurd e c428), (show RS kq s0 f0 (xx + (1 - mz)) u423.2.2.1 zf u413.2.2.2.2 zc u413.2.2.1 u423.1 by rw [hm1]; exact rs_at xh430 (by omega)), (fun e => absurd e (by omega))⟩ (show 2 * (t3 - u423.1) + bz1 u423.2.2.1 + mz < 2 * (t3 - az) + bz1 bz + mz by omega)
            · have xh431 : RS kq s0 f0 xx u413.1 zf u413.2.2.2.2 zc u413.2.2.1 az := xh419 rfl c421
              refine j_aload_n (pc := 68) C d_Model_test_68 rfl 2 rfl ?_
              refine j_aload_n (pc := 69) C d_Model_test_69 rfl 2 rfl ?_
              refine j_get (pc := 70) C gf_Model_96 11 rfl rfl d_Model_test_70 ?_
              refine j_callVv (pc := 73) C (c_M_asks_3 l D y mo (ma 35) ma t1 u379 t3 z147 u413.1 u413.2.1 i7 i8 i42 i49 (nI zc) (nI u413.2.2.1) u413.2.2.2.1 i59 i61 i64 i66 t67 i76 i78 g0 g35 xh381 he) kw_Model_263 kv_Model_asks 0 10 rfl rfl ⟨by decide, by decide⟩ ⟨by decide, by decide⟩ (wr := [(ma 33, .inl (y 3, 2, .inl g33)), (ma 34, .inl (y 3, 3, .inl g34)), (ma 36, .inl (y 3, 3, .inl g36)), (ma 37, .inl (y 3, 3, .inl g37)), (ma 38, .inl (y 3, 5, .inl g38)), (ma 39, .inl (y 3, 5, .inl g39)), (ma 40, .inl (y 3, 3, .inl g40)), (ma 41, .inl (y 3, 3, .inl g41)), (ma 50, .inl (y 0, 3200, .inl zf)), (ma 52, .inl (y 0, 1700, .inl u413.2.2.2.2))]) [11, 9, 10] [0, 1, 2, 3, 4, 5, 6, 7, 8, 12] rfl rfl (by decide) (by decide) (by decide) (As := [.ref (ma 35)]) (rest := []) rfl (nb rfl) rfl d_Model_test_73 (fun u432 hu433 => ?_)
              obtain ⟨xh434, xh435, xh436⟩ := hu433
              refine j_ws (ws' := [(ma 33, .inl (y 3, 2, .inl g33)), (ma 34, .inl (y 3, 3, .inl g34)), (ma 36, .inl (y 3, 3, .inl g36)), (ma 37, .inl (y 3, 3, .inl g37)), (ma 38, .inl (y 3, 5, .inl g38)), (ma 39, .inl (y 3, 5, .inl g39)), (ma 40, .inl (y 3, 3, .inl g40)), (ma 41, .inl (y 3, 3, .inl g41)), (ma 50, .inl (y 0, 3200, .inl zf)), (ma 52, .inl (y 0, 1700, .inl u413.2.2.2.2)), MB mo ma (nI t1) (nI u432.1) (nI t3) u432.2.1 u432.2.2.1 u432.2.2.2 i7 i8 i42 i49 (nI zc) (nI u413.2.2.1) u413.2.2.2.1 i59 i61 i64 i66 (nI t67) i76 i78, (ma 0, .inl (y 0, 1600, .inl g0)), (ma 35, .inl (y 3, 3, .inl g35))]) rfl ?_
              refine j_goto (pc := 76) C (tgt := 2) d_Model_test_76 (by decide) ?_
              refine j_sub (ws' := [MB mo ma (nI t1) (nI u432.1) (nI t3) u432.2.1 u432.2.2.1 u432.2.2.2 i7 i8 i42 i49 (nI zc) (nI u413.2.2.1) u413.2.2.2.1 i59 i61 i64 i66 (nI t67) i76 i78, (ma 0, .inl (y 0, 1600, .inl g0)), (ma 33, .inl (y 3, 2, .inl g33)), (ma 34, .inl (y 3, 3, .inl g34)), (ma 35, .inl (y 3, 3, .inl g35)), (ma 36, .inl (y 3, 3, .inl g36)), (ma 37, .inl (y 3, 3, .inl g37)), (ma 38, .inl (y 3, 5, .inl g38)), (ma 39, .inl (y 3, 5, .inl g39)), (ma 40, .inl (y 3, 3, .inl g40)), (ma 41, .inl (y 3, 3, .inl g41)), (ma 50, .inl (y 0, 3200, .inl zf)), (ma 52, .inl (y 0, 1700, .inl u413.2.2.2.2))]) [10, 11, 0, 1, 12, 2, 3, 4, 5, 6, 7, 8, 9] rfl (by decide) ?_
              refine j_locs (lv' := [(1, .int (nI mz)), (0, .ref mo)]) [1, 2] rfl ?_
              have hz1 := bz_e c306
              have hz0 := bz_le u432.2.2.1
              have hz2 : bz1 u432.2.2.1 = 0 ∨ az + 1 ≤ u432.1 := by
                by_cases e : u432.2.2.1 = 0
                · exact Or.inr (by have f0 := xh436 e; have g0 := f0.2; exact absurd f0.1 c421)
                · exact Or.inl (bz_0 e)
              have xh437 : RS kq s0 f0 xx u432.2.2.1 zf u413.2.2.2.2 zc u413.2.2.1 az := rs_mono xh431 (fun e => by have e0 := (xh436 e).1; exact e0)
              exact ih297 (mz, u432.1, u432.2.2.1, u413.2.2.1, zc, zf, u413.2.2.2.2, u432.2.1, u432.2.2.2, u413.2.2.2.1) ⟨xh435, (show t2 ≤ u432.1 by omega), hmz_, (fun _ => xh420), (show RS kq s0 f0 (xx + (1 - mz)) u432.2.2.1 zf u413.2.2.2.2 zc u413.2.2.1 u432.1 by rw [hm1]; exact rs_at xh437 (by omega)), (fun e => absurd e (by omega))⟩ (show 2 * (t3 - u432.1) + bz1 u432.2.2.1 + mz < 2 * (t3 - az) + bz1 bz + mz by omega)
        · refine j_aload_n (pc := 24) C d_Model_test_24 rfl 2 rfl ?_
          refine j_bipush (pc := 25) C (v := 25) d_Model_test_25 (by decide) ?_
          refine j_aload_n (pc := 27) C d_Model_test_27 rfl 2 rfl ?_
          refine j_get (pc := 28) C gf_Model_207 11 rfl rfl d_Model_test_28 ?_
          refine j_callVv (pc := 31) C (c_M_opens_T l D y mo ma t1 u311 t3 z147 0 z148 i7 i8 i42 i49 zc zn z149 i59 i61 i64 i66 t67 i76 i78 zw 25 (nI u311) s0 xx kq f0 az zf (by decide) (by omega) xh309 (by decide) hT0 hK) kw_Model_353 kv_Model_opens 0 10 rfl rfl ⟨by decide, by decide⟩ ⟨by decide, by decide⟩ (wr := [(ma 33, .inl (y 3, 2, .inl g33)), (ma 34, .inl (y 3, 3, .inl g34)), (ma 35, .inl (y 3, 3, .inl g35)), (ma 36, .inl (y 3, 3, .inl g36)), (ma 37, .inl (y 3, 3, .inl g37)), (ma 38, .inl (y 3, 5, .inl g38)), (ma 39, .inl (y 3, 5, .inl g39)), (ma 40, .inl (y 3, 3, .inl g40)), (ma 41, .inl (y 3, 3, .inl g41)), (ma 50, .inl (y 0, 3200, .inl zf)), (ma 0, .inl (y 0, 1600, .inl g0))]) [11, 10] [0, 1, 2, 3, 4, 5, 6, 7, 8, 9, 12] rfl rfl (by decide) (by decide) (by decide) (As := [.int 25, .int (nI u311)]) (rest := []) rfl (nb rfl) rfl d_Model_test_31 (fun u438 hu439 => ?_)
          obtain ⟨xh440, xh441, xh442, xh443, xh444, xh445⟩ := hu439
          refine j_ws (ws' := [(ma 33, .inl (y 3, 2, .inl g33)), (ma 34, .inl (y 3, 3, .inl g34)), (ma 35, .inl (y 3, 3, .inl g35)), (ma 36, .inl (y 3, 3, .inl g36)), (ma 37, .inl (y 3, 3, .inl g37)), (ma 38, .inl (y 3, 5, .inl g38)), (ma 39, .inl (y 3, 5, .inl g39)), (ma 40, .inl (y 3, 3, .inl g40)), (ma 41, .inl (y 3, 3, .inl g41)), (ma 50, .inl (y 0, 3200, .inl zf)), (ma 0, .inl (y 0, 1600, .inl g0)), MB mo ma (nI t1) (nI u311) (nI t3) z147 u438.1 u438.2.1 i7 i8 i42 i49 (nI zc) (nI u438.2.2.1) u438.2.2.2.1 i59 i61 i64 i66 (nI t67) i76 i78, (ma 52, .inl (y 0, 1700, .inl u438.2.2.2.2))]) rfl ?_
          refine j_aload_n (pc := 34) C d_Model_test_34 rfl 2 rfl ?_
          refine j_dup (pc := 35) C d_Model_test_35 rfl ?_
          refine j_get (pc := 36) C gf_Model_207 11 rfl rfl d_Model_test_36 ?_
          refine j_iconst (pc := 39) C (v := 1) d_Model_test_39 (by decide) ?_
          refine j_iadd (pc := 40) C (v := nI (u311 + 1)) d_Model_test_40 (nI_add _ _) ?_
          refine j_put (pc := 41) C pf_Model_207 11 (ws' := [(ma 33, .inl (y 3, 2, .inl g33)), (ma 34, .inl (y 3, 3, .inl g34)), (ma 35, .inl (y 3, 3, .inl g35)), (ma 36, .inl (y 3, 3, .inl g36)), (ma 37, .inl (y 3, 3, .inl g37)), (ma 38, .inl (y 3, 5, .inl g38)), (ma 39, .inl (y 3, 5, .inl g39)), (ma 40, .inl (y 3, 3, .inl g40)), (ma 41, .inl (y 3, 3, .inl g41)), (ma 50, .inl (y 0, 3200, .inl zf)), (ma 0, .inl (y 0, 1600, .inl g0)), MB mo ma (nI t1) (nI (u311 + 1)) (nI t3) z147 u438.1 u438.2.1 i7 i8 i42 i49 (nI zc) (nI u438.2.2.1) u438.2.2.2.1 i59 i61 i64 i66 (nI t67) i76 i78, (ma 52, .inl (y 0, 1700, .inl u438.2.2.2.2))]) rfl rfl rfl (nl rfl) rfl d_Model_test_41 ?_
          refine j_goto (pc := 44) C (tgt := 2) d_Model_test_44 (by decide) ?_
          refine j_sub (ws' := [MB mo ma (nI t1) (nI (u311 + 1)) (nI t3) z147 u438.1 u438.2.1 i7 i8 i42 i49 (nI zc) (nI u438.2.2.1) u438.2.2.2.1 i59 i61 i64 i66 (nI t67) i76 i78, (ma 0, .inl (y 0, 1600, .inl g0)), (ma 33, .inl (y 3, 2, .inl g33)), (ma 34, .inl (y 3, 3, .inl g34)), (ma 35, .inl (y 3, 3, .inl g35)), (ma 36, .inl (y 3, 3, .inl g36)), (ma 37, .inl (y 3, 3, .inl g37)), (ma 38, .inl (y 3, 5, .inl g38)), (ma 39, .inl (y 3, 5, .inl g39)), (ma 40, .inl (y 3, 3, .inl g40)), (ma 41, .inl (y 3, 3, .inl g41)), (ma 50, .inl (y 0, 3200, .inl zf)), (ma 52, .inl (y 0, 1700, .inl u438.2.2.2.2))]) [11, 10, 0, 1, 2, 3, 4, 5, 6, 7, 8, 9, 12] rfl (by decide) ?_
          refine j_locs (lv' := [(1, .int (nI mz)), (0, .ref mo)]) [1, 2] rfl ?_
          have hz1 := bz_e c306
          have hz0 := bz_le u438.1
          have hz2 : bz1 u438.1 = 0 ∨ az + 1 ≤ (u311 + 1) := by
            by_cases e : u438.1 = 0
            · exact Or.inr (by have f0 := xh442 e; omega)
            · exact Or.inl (bz_0 e)
          exact ih297 (mz, (u311 + 1), u438.1, u438.2.2.1, zc, zf, u438.2.2.2.2, z147, u438.2.1, u438.2.2.2.1) ⟨(show (u311 + 1) ≤ t3 by omega), (show t2 ≤ (u311 + 1) by omega), hmz_, (fun _ => xh445), (show RS kq s0 f0 (xx + (1 - mz)) u438.1 zf u438.2.2.2.2 zc u438.2.2.1 (u311 + 1) by rw [hm1]; exact rs_at xh443 (by omega)), (fun e => absurd e (by omega))⟩ (show 2 * (t3 - (u311 + 1)) + bz1 u438.1 + mz < 2 * (t3 - az) + bz1 bz + mz by omega)
