theorem d_Model_goesOnTest_0 : decode prog_13_method_45_code 0 = .ok (.aload_n 0, 1) := by decide +kernel
theorem d_Model_goesOnTest_1 : decode prog_13_method_45_code 1 = .ok (.getfield 201, 3) := by decide +kernel
theorem d_Model_goesOnTest_4 : decode prog_13_method_45_code 4 = .ok (.ifCond .ne 72, 3) := by decide +kernel
theorem d_Model_goesOnTest_7 : decode prog_13_method_45_code 7 = .ok (.aload_n 0, 1) := by decide +kernel
theorem d_Model_goesOnTest_8 : decode prog_13_method_45_code 8 = .ok (.invokevirtual 213, 3) := by decide +kernel
theorem d_Model_goesOnTest_11 : decode prog_13_method_45_code 11 = .ok (.bipush 93, 2) := by decide +kernel
theorem d_Model_goesOnTest_13 : decode prog_13_method_45_code 13 = .ok (.if_icmp .ne 63, 3) := by decide +kernel
theorem d_Model_goesOnTest_76 : decode prog_13_method_45_code 76 = .ok (.aload_n 0, 1) := by decide +kernel
theorem d_Model_goesOnTest_77 : decode prog_13_method_45_code 77 = .ok (.aload_n 0, 1) := by decide +kernel
theorem d_Model_goesOnTest_78 : decode prog_13_method_45_code 78 = .ok (.getfield 93, 3) := by decide +kernel
theorem d_Model_goesOnTest_81 : decode prog_13_method_45_code 81 = .ok (.invokevirtual 228, 3) := by decide +kernel
theorem d_Model_goesOnTest_84 : decode prog_13_method_45_code 84 = .ok (.ifCond .eq 42, 3) := by decide +kernel
theorem d_Model_goesOnTest_126 : decode prog_13_method_45_code 126 = .ok (.aload_n 0, 1) := by decide +kernel
theorem d_Model_goesOnTest_127 : decode prog_13_method_45_code 127 = .ok (.aload_n 0, 1) := by decide +kernel
theorem d_Model_goesOnTest_128 : decode prog_13_method_45_code 128 = .ok (.getfield 90, 3) := by decide +kernel
theorem d_Model_goesOnTest_131 : decode prog_13_method_45_code 131 = .ok (.invokevirtual 228, 3) := by decide +kernel
theorem d_Model_goesOnTest_134 : decode prog_13_method_45_code 134 = .ok (.ifCond .eq 51, 3) := by decide +kernel
theorem d_Model_goesOnTest_185 : decode prog_13_method_45_code 185 = .ok (.aload_n 0, 1) := by decide +kernel
theorem d_Model_goesOnTest_186 : decode prog_13_method_45_code 186 = .ok (.getfield 201, 3) := by decide +kernel
theorem d_Model_goesOnTest_189 : decode prog_13_method_45_code 189 = .ok (.ifCond .ne 19, 3) := by decide +kernel
theorem d_Model_goesOnTest_192 : decode prog_13_method_45_code 192 = .ok (.aload_n 0, 1) := by decide +kernel
theorem d_Model_goesOnTest_193 : decode prog_13_method_45_code 193 = .ok (.invokevirtual 380, 3) := by decide +kernel
theorem kw_Model_380 : KW "NineBoardsModel" 380 ⟨"NineBoardsModel", "hasSquare", "()Z"⟩ prog_13_method_42_code 2 (some .boolean) 0 := ⟨(mt_7 (List.mem_of_getElem? (i := 15) rfl) rfl), (mt_1 (List.mem_of_getElem? (i := 16) rfl) rfl), (mt_7 (List.mem_of_getElem? (i := 18) rfl) rfl), by decide +kernel⟩
theorem kv_Model_hasSquare : Cond.instanceMethod ⟨"NineBoardsModel", "hasSquare", "()Z"⟩ ∈ TB ∧ Cond.selects "NineBoardsModel" ⟨"NineBoardsModel", "hasSquare", "()Z"⟩ ⟨"NineBoardsModel", "hasSquare", "()Z"⟩ ∈ TB := ⟨(mt_7 (List.mem_of_getElem? (i := 17) rfl) rfl), (ms_0 (List.mem_map.mpr ⟨(⟨"NineBoardsModel", "hasSquare", "()Z"⟩, 79), List.mem_of_getElem? (i := 85) (by decide +kernel), rfl⟩) rfl)⟩
theorem d_Model_goesOnTest_196 : decode prog_13_method_45_code 196 = .ok (.ifCond .eq 12, 3) := by decide +kernel
theorem d_Model_goesOnTest_208 : decode prog_13_method_45_code 208 = .ok (.iconst 0, 1) := by decide +kernel
theorem d_Model_goesOnTest_209 : decode prog_13_method_45_code 209 = .ok (.ireturn, 1) := by decide +kernel
theorem d_Model_goesOnTest_199 : decode prog_13_method_45_code 199 = .ok (.aload_n 0, 1) := by decide +kernel
theorem d_Model_goesOnTest_200 : decode prog_13_method_45_code 200 = .ok (.iconst 1, 1) := by decide +kernel
theorem d_Model_goesOnTest_201 : decode prog_13_method_45_code 201 = .ok (.aload_n 0, 1) := by decide +kernel
theorem d_Model_goesOnTest_202 : decode prog_13_method_45_code 202 = .ok (.getfield 207, 3) := by decide +kernel
theorem d_Model_goesOnTest_205 : decode prog_13_method_45_code 205 = .ok (.invokevirtual 230, 3) := by decide +kernel
theorem d_Model_goesOnTest_137 : decode prog_13_method_45_code 137 = .ok (.aload_n 0, 1) := by decide +kernel
theorem d_Model_goesOnTest_138 : decode prog_13_method_45_code 138 = .ok (.bipush 14, 2) := by decide +kernel
theorem d_Model_goesOnTest_140 : decode prog_13_method_45_code 140 = .ok (.invokevirtual 362, 3) := by decide +kernel
theorem d_Model_goesOnTest_143 : decode prog_13_method_45_code 143 = .ok (.ifCond .ne 12, 3) := by decide +kernel
theorem d_Model_goesOnTest_146 : decode prog_13_method_45_code 146 = .ok (.aload_n 0, 1) := by decide +kernel
theorem d_Model_goesOnTest_147 : decode prog_13_method_45_code 147 = .ok (.bipush 15, 2) := by decide +kernel
theorem d_Model_goesOnTest_149 : decode prog_13_method_45_code 149 = .ok (.invokevirtual 362, 3) := by decide +kernel
theorem d_Model_goesOnTest_152 : decode prog_13_method_45_code 152 = .ok (.ifCond .eq 10, 3) := by decide +kernel
theorem d_Model_goesOnTest_162 : decode prog_13_method_45_code 162 = .ok (.aload_n 0, 1) := by decide +kernel
theorem d_Model_goesOnTest_163 : decode prog_13_method_45_code 163 = .ok (.getfield 139, 3) := by decide +kernel
theorem d_Model_goesOnTest_166 : decode prog_13_method_45_code 166 = .ok (.aload_n 0, 1) := by decide +kernel
theorem d_Model_goesOnTest_167 : decode prog_13_method_45_code 167 = .ok (.getfield 292, 3) := by decide +kernel
theorem d_Model_goesOnTest_170 : decode prog_13_method_45_code 170 = .ok (.bipush 15, 2) := by decide +kernel
theorem d_Model_goesOnTest_172 : decode prog_13_method_45_code 172 = .ok (.iastore, 1) := by decide +kernel
theorem d_Model_goesOnTest_173 : decode prog_13_method_45_code 173 = .ok (.aload_n 0, 1) := by decide +kernel
theorem d_Model_goesOnTest_174 : decode prog_13_method_45_code 174 = .ok (.dup, 1) := by decide +kernel
theorem d_Model_goesOnTest_175 : decode prog_13_method_45_code 175 = .ok (.getfield 292, 3) := by decide +kernel
theorem d_Model_goesOnTest_178 : decode prog_13_method_45_code 178 = .ok (.iconst 1, 1) := by decide +kernel
theorem d_Model_goesOnTest_179 : decode prog_13_method_45_code 179 = .ok (.iadd, 1) := by decide +kernel
theorem d_Model_goesOnTest_180 : decode prog_13_method_45_code 180 = .ok (.putfield 292, 3) := by decide +kernel
theorem d_Model_goesOnTest_183 : decode prog_13_method_45_code 183 = .ok (.iconst 1, 1) := by decide +kernel
theorem d_Model_goesOnTest_184 : decode prog_13_method_45_code 184 = .ok (.ireturn, 1) := by decide +kernel
theorem d_Model_goesOnTest_155 : decode prog_13_method_45_code 155 = .ok (.aload_n 0, 1) := by decide +kernel
theorem d_Model_goesOnTest_156 : decode prog_13_method_45_code 156 = .ok (.invokevirtual 350, 3) := by decide +kernel
theorem d_Model_goesOnTest_159 : decode prog_13_method_45_code 159 = .ok (.goto (-22), 3) := by decide +kernel
theorem d_Model_goesOnTest_87 : decode prog_13_method_45_code 87 = .ok (.aload_n 0, 1) := by decide +kernel
theorem d_Model_goesOnTest_88 : decode prog_13_method_45_code 88 = .ok (.bipush 14, 2) := by decide +kernel
theorem d_Model_goesOnTest_90 : decode prog_13_method_45_code 90 = .ok (.invokevirtual 362, 3) := by decide +kernel
theorem d_Model_goesOnTest_93 : decode prog_13_method_45_code 93 = .ok (.ifCond .eq 10, 3) := by decide +kernel
theorem d_Model_goesOnTest_103 : decode prog_13_method_45_code 103 = .ok (.aload_n 0, 1) := by decide +kernel
theorem d_Model_goesOnTest_104 : decode prog_13_method_45_code 104 = .ok (.getfield 139, 3) := by decide +kernel
theorem d_Model_goesOnTest_107 : decode prog_13_method_45_code 107 = .ok (.aload_n 0, 1) := by decide +kernel
theorem d_Model_goesOnTest_108 : decode prog_13_method_45_code 108 = .ok (.getfield 292, 3) := by decide +kernel
theorem d_Model_goesOnTest_111 : decode prog_13_method_45_code 111 = .ok (.bipush 14, 2) := by decide +kernel
theorem d_Model_goesOnTest_113 : decode prog_13_method_45_code 113 = .ok (.iastore, 1) := by decide +kernel
theorem d_Model_goesOnTest_114 : decode prog_13_method_45_code 114 = .ok (.aload_n 0, 1) := by decide +kernel
theorem d_Model_goesOnTest_115 : decode prog_13_method_45_code 115 = .ok (.dup, 1) := by decide +kernel
theorem d_Model_goesOnTest_116 : decode prog_13_method_45_code 116 = .ok (.getfield 292, 3) := by decide +kernel
theorem d_Model_goesOnTest_119 : decode prog_13_method_45_code 119 = .ok (.iconst 1, 1) := by decide +kernel
theorem d_Model_goesOnTest_120 : decode prog_13_method_45_code 120 = .ok (.iadd, 1) := by decide +kernel
theorem d_Model_goesOnTest_121 : decode prog_13_method_45_code 121 = .ok (.putfield 292, 3) := by decide +kernel
theorem d_Model_goesOnTest_124 : decode prog_13_method_45_code 124 = .ok (.iconst 1, 1) := by decide +kernel
theorem d_Model_goesOnTest_125 : decode prog_13_method_45_code 125 = .ok (.ireturn, 1) := by decide +kernel
theorem d_Model_goesOnTest_96 : decode prog_13_method_45_code 96 = .ok (.aload_n 0, 1) := by decide +kernel
theorem d_Model_goesOnTest_97 : decode prog_13_method_45_code 97 = .ok (.invokevirtual 350, 3) := by decide +kernel
theorem d_Model_goesOnTest_100 : decode prog_13_method_45_code 100 = .ok (.goto (-13), 3) := by decide +kernel
theorem d_Model_goesOnTest_16 : decode prog_13_method_45_code 16 = .ok (.aload_n 0, 1) := by decide +kernel
theorem d_Model_goesOnTest_17 : decode prog_13_method_45_code 17 = .ok (.invokevirtual 380, 3) := by decide +kernel
theorem d_Model_goesOnTest_20 : decode prog_13_method_45_code 20 = .ok (.ifCond .eq 56, 3) := by decide +kernel
theorem d_Model_goesOnTest_23 : decode prog_13_method_45_code 23 = .ok (.aload_n 0, 1) := by decide +kernel
theorem d_Model_goesOnTest_24 : decode prog_13_method_45_code 24 = .ok (.dup, 1) := by decide +kernel
theorem d_Model_goesOnTest_25 : decode prog_13_method_45_code 25 = .ok (.getfield 207, 3) := by decide +kernel
theorem d_Model_goesOnTest_28 : decode prog_13_method_45_code 28 = .ok (.iconst 1, 1) := by decide +kernel
theorem d_Model_goesOnTest_29 : decode prog_13_method_45_code 29 = .ok (.iadd, 1) := by decide +kernel
theorem d_Model_goesOnTest_30 : decode prog_13_method_45_code 30 = .ok (.putfield 207, 3) := by decide +kernel
theorem d_Model_goesOnTest_33 : decode prog_13_method_45_code 33 = .ok (.aload_n 0, 1) := by decide +kernel
theorem d_Model_goesOnTest_34 : decode prog_13_method_45_code 34 = .ok (.bipush 25, 2) := by decide +kernel
theorem d_Model_goesOnTest_36 : decode prog_13_method_45_code 36 = .ok (.invokevirtual 362, 3) := by decide +kernel
theorem d_Model_goesOnTest_39 : decode prog_13_method_45_code 39 = .ok (.ifCond .ne 10, 3) := by decide +kernel
theorem d_Model_goesOnTest_42 : decode prog_13_method_45_code 42 = .ok (.aload_n 0, 1) := by decide +kernel
theorem d_Model_goesOnTest_43 : decode prog_13_method_45_code 43 = .ok (.invokevirtual 350, 3) := by decide +kernel
theorem d_Model_goesOnTest_46 : decode prog_13_method_45_code 46 = .ok (.goto (-13), 3) := by decide +kernel
theorem d_Model_goesOnTest_49 : decode prog_13_method_45_code 49 = .ok (.aload_n 0, 1) := by decide +kernel
theorem d_Model_goesOnTest_50 : decode prog_13_method_45_code 50 = .ok (.dup, 1) := by decide +kernel
theorem d_Model_goesOnTest_51 : decode prog_13_method_45_code 51 = .ok (.getfield 292, 3) := by decide +kernel
theorem d_Model_goesOnTest_54 : decode prog_13_method_45_code 54 = .ok (.iconst 1, 1) := by decide +kernel
theorem d_Model_goesOnTest_55 : decode prog_13_method_45_code 55 = .ok (.isub, 1) := by decide +kernel
theorem d_Model_goesOnTest_56 : decode prog_13_method_45_code 56 = .ok (.putfield 292, 3) := by decide +kernel
theorem d_Model_goesOnTest_59 : decode prog_13_method_45_code 59 = .ok (.aload_n 0, 1) := by decide +kernel
theorem d_Model_goesOnTest_60 : decode prog_13_method_45_code 60 = .ok (.dup, 1) := by decide +kernel
theorem d_Model_goesOnTest_61 : decode prog_13_method_45_code 61 = .ok (.getfield 295, 3) := by decide +kernel
theorem d_Model_goesOnTest_64 : decode prog_13_method_45_code 64 = .ok (.iconst 1, 1) := by decide +kernel
theorem d_Model_goesOnTest_65 : decode prog_13_method_45_code 65 = .ok (.isub, 1) := by decide +kernel
theorem d_Model_goesOnTest_66 : decode prog_13_method_45_code 66 = .ok (.putfield 295, 3) := by decide +kernel
theorem d_Model_goesOnTest_69 : decode prog_13_method_45_code 69 = .ok (.aload_n 0, 1) := by decide +kernel
theorem d_Model_goesOnTest_70 : decode prog_13_method_45_code 70 = .ok (.invokevirtual 374, 3) := by decide +kernel
theorem kw_Model_374 : KW "NineBoardsModel" 374 ⟨"NineBoardsModel", "dropsNots", "()V"⟩ prog_13_method_43_code 1 none 0 := ⟨(mt_7 (List.mem_of_getElem? (i := 7) rfl) rfl), (mt_1 (List.mem_of_getElem? (i := 16) rfl) rfl), (mt_7 (List.mem_of_getElem? (i := 10) rfl) rfl), by decide +kernel⟩
theorem kv_Model_dropsNots : Cond.instanceMethod ⟨"NineBoardsModel", "dropsNots", "()V"⟩ ∈ TB ∧ Cond.selects "NineBoardsModel" ⟨"NineBoardsModel", "dropsNots", "()V"⟩ ⟨"NineBoardsModel", "dropsNots", "()V"⟩ ∈ TB := ⟨(mt_7 (List.mem_of_getElem? (i := 9) rfl) rfl), (ms_0 (List.mem_map.mpr ⟨(⟨"NineBoardsModel", "dropsNots", "()V"⟩, 79), List.mem_of_getElem? (i := 83) (by decide +kernel), rfl⟩) rfl)⟩
theorem d_Model_goesOnTest_73 : decode prog_13_method_45_code 73 = .ok (.goto (-73), 3) := by decide +kernel
set_option maxHeartbeats 4000000 in
set_option maxRecDepth 100000 in
theorem c_M_goesOnTest (l : Launch) (D : va_G) (y : Nat → ClassId) (mo : Nat) (ma : Nat → Nat) (t1 : Nat) (t2 : Nat) (t3 : Nat) (i4 : Int32) (i6 : Int32) (i7 : Int32) (i8 : Int32) (i42 : Int32) (i49 : Int32) (cd : Nat) (wn : Nat) (oo : Nat) (i59 : Int32) (i61 : Int32) (i64 : Int32) (i66 : Int32) (t67 : Nat) (i76 : Int64) (i78 : Int32) (tx : Nat → Nat) (g50 : Nat → Int32) (g52 : Nat → Int32) (gs : PS) (s0 : Nat) (xx : Nat) (sk : List Nat) (cs : List Nat) (kq : Nat) (f0 : Nat → Int32) (ha : t2 ≤ t3) (he : t3 ≤ 1600) (hB : ∀ j, tx j < 256) (hx : RR tx t3 gs t2 i4 0 i6) (hR : RS kq s0 f0 (xx + 1) 0 g50 g52 cd wn t2) (hTT : ITm g52 wn) (hww : WB sk g52 0 wn) (hcd : CD cs g50 cd) (hop : opn sk ≤ oo) (ho6 : oo ≤ 6) (hK : 1 ≤ kq) : CT l D y ⟨"NineBoardsModel", "goesOnTest", "()Z"⟩ prog_13_method_45_code 1 (some .boolean) ({ frames := 3, cells := 0, slots := 0, locals := 64 } : Room) [.ref mo] [MB mo ma (nI t1) (nI t2) (nI t3) i4 0 i6 i7 i8 i42 i49 (nI cd) (nI wn) (nI oo) i59 i61 i64 i66 (nI t67) i76 i78, (ma 0, .inl (y 0, 1600, .inl (tby tx))), (ma 33, .inl (y 3, 2, .inl (WD 24))), (ma 34, .inl (y 3, 3, .inl (WD 25))), (ma 50, .inl (y 0, 3200, .inl g50)), (ma 52, .inl (y 0, 1700, .inl g52))] (QI D [MB mo ma (nI t1) (nI t2) (nI t3) i4 0 i6 i7 i8 i42 i49 (nI cd) (nI wn) (nI oo) i59 i61 i64 i66 (nI t67) i76 i78, (ma 0, .inl (y 0, 1600, .inl (tby tx))), (ma 33, .inl (y 3, 2, .inl (WD 24))), (ma 34, .inl (y 3, 3, .inl (WD 25))), (ma 50, .inl (y 0, 3200, .inl g50)), (ma 52, .inl (y 0, 1700, .inl g52))] (fun (r : Int32) (u : Nat × Int32 × Int32 × Int32 × Nat × Nat × Nat × (Nat → Int32) × (Nat → Int32) × PS × List Nat × List Nat) => t2 ≤ u.1 ∧ u.1 ≤ t3 ∧ (u.2.2.1 = 0 → 0 = 0 ∧ t2 ≤ u.1) ∧ ITm u.2.2.2.2.2.2.2.2.1 u.2.2.2.2.2.1 ∧ RR tx t3 u.2.2.2.2.2.2.2.2.2.1 u.1 u.2.1 u.2.2.1 u.2.2.2.1 ∧ u.2.2.2.2.2.2.1 ≤ 6 ∧ ((r = 1 ∧ u.2.2.1 = 0 ∧ RS kq s0 f0 xx u.2.2.1 u.2.2.2.2.2.2.2.1 u.2.2.2.2.2.2.2.2.1 u.2.2.2.2.1 u.2.2.2.2.2.1 u.1 ∧ Rcb tx t3 (1, (gs, cs, sk, oo)) (0, (u.2.2.2.2.2.2.2.2.2.1, u.2.2.2.2.2.2.2.2.2.2.1, u.2.2.2.2.2.2.2.2.2.2.2, u.2.2.2.2.2.2.1)) ∧ CD u.2.2.2.2.2.2.2.2.2.2.1 u.2.2.2.2.2.2.2.1 u.2.2.2.2.1 ∧ WB u.2.2.2.2.2.2.2.2.2.2.2 u.2.2.2.2.2.2.2.2.1 0 u.2.2.2.2.2.1 ∧ opn u.2.2.2.2.2.2.2.2.2.2.2 ≤ u.2.2.2.2.2.2.1) ∨ (r = 0 ∧ RS kq s0 f0 (xx + 1) u.2.2.1 u.2.2.2.2.2.2.2.1 u.2.2.2.2.2.2.2.2.1 u.2.2.2.2.1 u.2.2.2.2.2.1 u.1 ∧ (u.2.2.1 = 0 → NSq u.2.2.2.2.2.2.2.2.1 u.2.2.2.2.2.1 ∧ Rcb tx t3 (1, (gs, cs, sk, oo)) (2, (u.2.2.2.2.2.2.2.2.2.1, u.2.2.2.2.2.2.2.2.2.2.1, u.2.2.2.2.2.2.2.2.2.2.2, u.2.2.2.2.2.2.1)) ∧ CD u.2.2.2.2.2.2.2.2.2.2.1 u.2.2.2.2.2.2.2.1 u.2.2.2.2.1 ∧ WB u.2.2.2.2.2.2.2.2.2.2.2 u.2.2.2.2.2.2.2.2.1 0 u.2.2.2.2.2.1 ∧ ¬ 25 ∈ u.2.2.2.2.2.2.2.2.2.2.2) ∧ (¬ u.2.2.1 = 0 → ∃ c3 s3 o3, Rcb tx t3 (1, (gs, cs, sk, oo)) (2, (u.2.2.2.2.2.2.2.2.2.1, c3, s3, o3)))))) (fun u => [MB mo ma (nI t1) (nI u.1) (nI t3) u.2.1 u.2.2.1 u.2.2.2.1 i7 i8 i42 i49 (nI u.2.2.2.2.1) (nI u.2.2.2.2.2.1) (nI u.2.2.2.2.2.2.1) i59 i61 i64 i66 (nI t67) i76 i78, (ma 0, .inl (y 0, 1600, .inl (tby tx))), (ma 33, .inl (y 3, 2, .inl (WD 24))), (ma 34, .inl (y 3, 3, .inl (WD 25))), (ma 50, .inl (y 0, 3200, .inl u.2.2.2.2.2.2.2.1)), (ma 52, .inl (y 0, 1700, .inl u.2.2.2.2.2.2.2.2.1))])) := by
  refine CT.of (by decide) (nb rfl) ?_
  intro p e s m args below meth c C hr
  refine j_lv (lv' := [(0, .ref mo)]) rfl ?_
  refine j_loop (α := Nat × Nat × Nat × (Nat → Int32) × Nat × PS × List Nat × List Nat) (fun a => t3 - a.1) (fun a => (a.1 ≤ t3) ∧ (t2 ≤ a.1) ∧ (a.2.2.1 ≤ wn) ∧ (RS kq s0 f0 (xx + 1) 0 a.2.2.2.1 g52 a.2.1 a.2.2.1 a.1) ∧ (RR tx t3 a.2.2.2.2.2.1 a.1 i4 0 i6) ∧ (Rcb tx t3 (1, (gs, cs, sk, oo)) (1, (a.2.2.2.2.2.1, a.2.2.2.2.2.2.1, a.2.2.2.2.2.2.2, a.2.2.2.2.1))) ∧ (WB a.2.2.2.2.2.2.2 g52 0 a.2.2.1) ∧ (CD a.2.2.2.2.2.2.1 a.2.2.2.1 a.2.1) ∧ (opn a.2.2.2.2.2.2.2 ≤ a.2.2.2.2.1) ∧ (a.2.2.2.2.1 ≤ 6)) (fun a => [MB mo ma (nI t1) (nI a.1) (nI t3) i4 0 i6 i7 i8 i42 i49 (nI a.2.1) (nI a.2.2.1) (nI a.2.2.2.2.1) i59 i61 i64 i66 (nI t67) i76 i78, (ma 0, .inl (y 0, 1600, .inl (tby tx))), (ma 33, .inl (y 3, 2, .inl (WD 24))), (ma 34, .inl (y 3, 3, .inl (WD 25))), (ma 50, .inl (y 0, 3200, .inl a.2.2.2.1)), (ma 52, .inl (y 0, 1700, .inl g52))]) (fun a => [(0, .ref mo)]) (t2, cd, wn, g50, oo, gs, cs, sk) rfl rfl ⟨ha, (show t2 ≤ t2 by omega), (show wn ≤ wn by omega), hR, hx, (Rcb.rf _), hww, hcd, hop, ho6⟩ ?_
  rintro ⟨az, zc, zn, zf, oz, gz, cz, sz⟩ hP438 ih439
  obtain ⟨hz__, hy__, hn__, hR__, hrr__, hrc__, hwz__, hcz__, hoz__, ho__⟩ := hP438
  have hz_ : az ≤ t3 := hz__
  have hy_ : t2 ≤ az := hy__
  have hn_ : zn ≤ wn := hn__
  have hR_ : RS kq s0 f0 (xx + 1) 0 zf g52 zc zn az := hR__
  have hrr_ : RR tx t3 gz az i4 0 i6 := hrr__
  have hrc_ : Rcb tx t3 (1, (gs, cs, sk, oo)) (1, (gz, cz, sz, oz)) := hrc__
  have hwz_ : WB sz g52 0 zn := hwz__
  have hcz_ : CD cz zf zc := hcz__
  have hoz_ : opn sz ≤ oz := hoz__
  have ho_ : oz ≤ 6 := ho__
  refine j_ws (ws' := [MB mo ma (nI t1) (nI az) (nI t3) i4 0 i6 i7 i8 i42 i49 (nI zc) (nI zn) (nI oz) i59 i61 i64 i66 (nI t67) i76 i78, (ma 0, .inl (y 0, 1600, .inl (tby tx))), (ma 33, .inl (y 3, 2, .inl (WD 24))), (ma 34, .inl (y 3, 3, .inl (WD 25))), (ma 50, .inl (y 0, 3200, .inl zf)), (ma 52, .inl (y 0, 1700, .inl g52))]) rfl ?_
  refine j_lv (lv' := [(0, .ref mo)]) rfl ?_
  have hac := rs_ac3 hR_
  refine j_aload_n (pc := 0) C d_Model_goesOnTest_0 rfl 0 rfl ?_
  refine j_get (pc := 1) C gf_Model_201 0 rfl rfl d_Model_goesOnTest_1 ?_
  refine j_if_neF (pc := 4) C (tgt := 76) d_Model_goesOnTest_4 (by decide) (by decide) ?_
  refine j_aload_n (pc := 7) C d_Model_goesOnTest_7 rfl 0 rfl ?_
  refine j_callVi (pc := 8) C (c_M_look l D y mo ma t1 az t3 i4 0 i6 i7 i8 i42 i49 (nI zc) (nI zn) (nI oz) i59 i61 i64 i66 t67 i76 i78 tx gz hz_ he hB hrr_ rfl) kw_Model_213 kv_Model_look 0 10 rfl rfl ⟨by decide, by decide⟩ ⟨by decide, by decide⟩ (wr := [(ma 33, .inl (y 3, 2, .inl (WD 24))), (ma 34, .inl (y 3, 3, .inl (WD 25))), (ma 50, .inl (y 0, 3200, .inl zf)), (ma 52, .inl (y 0, 1700, .inl g52))]) [0, 1] [2, 3, 4, 5] rfl rfl (by decide +kernel) (by decide +kernel) (by decide +kernel) (As := []) (rest := []) rfl (nb rfl) rfl d_Model_goesOnTest_8 (fun r440 u441 hr440 => ?_)
  refine j_ws (ws' := [(ma 33, .inl (y 3, 2, .inl (WD 24))), (ma 34, .inl (y 3, 3, .inl (WD 25))), (ma 50, .inl (y 0, 3200, .inl zf)), (ma 52, .inl (y 0, 1700, .inl g52)), MB mo ma (nI t1) (nI u441) (nI t3) i4 0 i6 i7 i8 i42 i49 (nI zc) (nI zn) (nI oz) i59 i61 i64 i66 (nI t67) i76 i78, (ma 0, .inl (y 0, 1600, .inl (tby tx)))]) rfl ?_
  obtain ⟨xh442, xh443, xh444, xh445, xh446⟩ := hr440
  rcases xh446 with ⟨rfl, xh447⟩ | ⟨rfl, xh448⟩
  · refine j_bipush (pc := 11) C (v := 93) d_Model_goesOnTest_11 (by decide) ?_
    refine j_icmp_neT (pc := 13) C (tgt := 76) d_Model_goesOnTest_13 (by decide) (by decide) ?_
    have xh449 : ¬ (issS tx t3 93 gz = true ∧ 25 ∈ sz) := (fun q => (sg_no1 ((rr_z xh445).mp rfl) xh444 xh447) q.1)
    have xh450 : gz.1 = 0 := ((rr_z xh445).mp rfl)
    refine j_aload_n (pc := 76) C d_Model_goesOnTest_76 rfl 0 rfl ?_
    refine j_aload_n (pc := 77) C d_Model_goesOnTest_77 rfl 0 rfl ?_
    refine j_get (pc := 78) C gf_Model_93 4 rfl rfl d_Model_goesOnTest_78 ?_
    refine j_callVi (pc := 81) C (c_M_takes_3 l D y mo (ma 34) ma t1 u441 t3 i4 0 i6 i7 i8 i42 i49 (nI zc) (nI zn) (nI oz) i59 i61 i64 i66 t67 i76 i78 tx 25 gz xh443 he hB xh445 (by omega) (by decide)) kw_Model_228 kv_Model_takes 0 10 rfl rfl ⟨by decide, by decide⟩ ⟨by decide, by decide⟩ (wr := [(ma 33, .inl (y 3, 2, .inl (WD 24))), (ma 50, .inl (y 0, 3200, .inl zf)), (ma 52, .inl (y 0, 1700, .inl g52))]) [4, 5, 1] [0, 2, 3] rfl rfl (by decide +kernel) (by decide +kernel) (by decide +kernel) (As := [.ref (ma 34)]) (rest := []) rfl (nb rfl) rfl d_Model_goesOnTest_81 (fun r451 u452 hr451 => ?_)
    refine j_ws (ws' := [(ma 33, .inl (y 3, 2, .inl (WD 24))), (ma 50, .inl (y 0, 3200, .inl zf)), (ma 52, .inl (y 0, 1700, .inl g52)), MB mo ma (nI t1) (nI u452.1) (nI t3) u452.2 0 i6 i7 i8 i42 i49 (nI zc) (nI zn) (nI oz) i59 i61 i64 i66 (nI t67) i76 i78, (ma 0, .inl (y 0, 1600, .inl (tby tx))), (ma 34, .inl (y 3, 3, .inl (WD 25)))]) rfl ?_
    obtain ⟨xh453, xh454, xh455⟩ := hr451
    rcases xh455 with ⟨rfl, xh456, xh457, xh458⟩ | ⟨rfl, xh459, xh460, xh461⟩
    · refine j_if_eqT (pc := 84) C (tgt := 126) d_Model_goesOnTest_84 (by decide) (by decide) ?_
      refine j_aload_n (pc := 126) C d_Model_goesOnTest_126 rfl 0 rfl ?_
      refine j_aload_n (pc := 127) C d_Model_goesOnTest_127 rfl 0 rfl ?_
      refine j_get (pc := 128) C gf_Model_90 3 rfl rfl d_Model_goesOnTest_128 ?_
      refine j_callVi (pc := 131) C (c_M_takes_2 l D y mo (ma 33) ma t1 u452.1 t3 u452.2 0 i6 i7 i8 i42 i49 (nI zc) (nI zn) (nI oz) i59 i61 i64 i66 t67 i76 i78 tx 24 gz xh454 he hB xh456 (by omega) (by decide)) kw_Model_228 kv_Model_takes 0 10 rfl rfl ⟨by decide, by decide⟩ ⟨by decide, by decide⟩ (wr := [(ma 50, .inl (y 0, 3200, .inl zf)), (ma 52, .inl (y 0, 1700, .inl g52)), (ma 34, .inl (y 3, 3, .inl (WD 25)))]) [3, 4, 0] [1, 2, 5] rfl rfl (by decide +kernel) (by decide +kernel) (by decide +kernel) (As := [.ref (ma 33)]) (rest := []) rfl (nb rfl) rfl d_Model_goesOnTest_131 (fun r462 u463 hr462 => ?_)
      refine j_ws (ws' := [(ma 50, .inl (y 0, 3200, .inl zf)), (ma 52, .inl (y 0, 1700, .inl g52)), (ma 34, .inl (y 3, 3, .inl (WD 25))), MB mo ma (nI t1) (nI u463.1) (nI t3) u463.2 0 i6 i7 i8 i42 i49 (nI zc) (nI zn) (nI oz) i59 i61 i64 i66 (nI t67) i76 i78, (ma 0, .inl (y 0, 1600, .inl (tby tx))), (ma 33, .inl (y 3, 2, .inl (WD 24)))]) rfl ?_
      obtain ⟨xh464, xh465, xh466⟩ := hr462
      rcases xh466 with ⟨rfl, xh467, xh468, xh469⟩ | ⟨rfl, xh470, xh471, xh472⟩
      · refine j_if_eqT (pc := 134) C (tgt := 185) d_Model_goesOnTest_134 (by decide) (by decide) ?_
        refine j_aload_n (pc := 185) C d_Model_goesOnTest_185 rfl 0 rfl ?_
        refine j_get (pc := 186) C gf_Model_201 3 rfl rfl d_Model_goesOnTest_186 ?_
        refine j_if_neF (pc := 189) C (tgt := 208) d_Model_goesOnTest_189 (by decide) (by decide) ?_
        refine j_aload_n (pc := 192) C d_Model_goesOnTest_192 rfl 0 rfl ?_
        refine j_callVi (pc := 193) C (c_M_hasSquare l D y mo ma t1 u463.1 t3 u463.2 0 i6 i7 i8 i42 i49 (nI zc) zn (nI oz) i59 i61 i64 i66 t67 i76 i78 g52 sz (by omega) hwz_) kw_Model_380 kv_Model_hasSquare 0 10 rfl rfl ⟨by decide, by decide⟩ ⟨by decide, by decide⟩ (wr := [(ma 50, .inl (y 0, 3200, .inl zf)), (ma 34, .inl (y 3, 3, .inl (WD 25))), (ma 0, .inl (y 0, 1600, .inl (tby tx))), (ma 33, .inl (y 3, 2, .inl (WD 24)))]) [3, 1] [0, 2, 4, 5] rfl rfl (by decide +kernel) (by decide +kernel) (by decide +kernel) (As := []) (rest := []) rfl (nb rfl) rfl d_Model_goesOnTest_193 (fun r473 _ hr473 => ?_)
        refine j_ws (ws' := [(ma 50, .inl (y 0, 3200, .inl zf)), (ma 34, .inl (y 3, 3, .inl (WD 25))), (ma 0, .inl (y 0, 1600, .inl (tby tx))), (ma 33, .inl (y 3, 2, .inl (WD 24))), MB mo ma (nI t1) (nI u463.1) (nI t3) u463.2 0 i6 i7 i8 i42 i49 (nI zc) (nI zn) (nI oz) i59 i61 i64 i66 (nI t67) i76 i78, (ma 52, .inl (y 0, 1700, .inl g52))]) rfl ?_
        rcases hr473 with ⟨rfl, xh475⟩ | ⟨rfl, xh476⟩
        · refine j_if_eqT (pc := 196) C (tgt := 208) d_Model_goesOnTest_196 (by decide) (by decide) ?_
          have xh477 : Rcb tx t3 (1, (gs, cs, sk, oo)) (2, (gz, cz, sz, oz)) := hrc_.tr (Rcb.st ((stG _ _ _ _).trans (sG_en2 xh450 xh457 xh468 xh475)) (Rcb.rf _))
          refine j_iconst (pc := 208) C (v := 0) d_Model_goesOnTest_208 (by decide) ?_
          exact j_iret (pc := 209) C hr (by decide) (u463.1, u463.2, 0, i6, zc, zn, oz, zf, g52, gz, cz, sz) ⟨(show t2 ≤ u463.1 by omega), (show u463.1 ≤ t3 by omega), (fun _ => ⟨rfl, show t2 ≤ u463.1 by omega⟩), (it_le hTT (by omega)), xh467, (show oz ≤ 6 by omega), (Or.inr ⟨rfl, (rs_at hR_ (show az ≤ u463.1 by omega)), (fun _ => ⟨sq_nsq hwz_ xh475, xh477, hcz_, hwz_, xh475⟩), (fun e => absurd rfl e)⟩)⟩ [4, 2, 3, 1, 0, 5] rfl (by decide) (by decide) (by decide) d_Model_goesOnTest_209
        · refine j_if_eqF (pc := 196) C (tgt := 208) d_Model_goesOnTest_196 (by decide) (by decide) ?_
          refine j_aload_n (pc := 199) C d_Model_goesOnTest_199 rfl 0 rfl ?_
          refine j_iconst (pc := 200) C (v := 1) d_Model_goesOnTest_200 (by decide) ?_
          refine j_aload_n (pc := 201) C d_Model_goesOnTest_201 rfl 0 rfl ?_
          refine j_get (pc := 202) C gf_Model_207 4 rfl rfl d_Model_goesOnTest_202 ?_
          refine j_callVv (pc := 205) C (c_M_fail_1 l D y mo ma t1 u463.1 t3 u463.2 0 i6 i7 i8 i42 i49 (nI zc) (nI zn) (nI oz) i59 i61 i64 i66 t67 i76 i78 u463.1 gz tx ((rr_z xh467).mp rfl) (by omega) rfl) kw_Model_230 kv_Model_fail 0 10 rfl rfl ⟨by decide, by decide⟩ ⟨by decide, by decide⟩ (wr := [(ma 50, .inl (y 0, 3200, .inl zf)), (ma 34, .inl (y 3, 3, .inl (WD 25))), (ma 0, .inl (y 0, 1600, .inl (tby tx))), (ma 33, .inl (y 3, 2, .inl (WD 24))), (ma 52, .inl (y 0, 1700, .inl g52))]) [4] [0, 1, 2, 3, 5] rfl rfl (by decide +kernel) (by decide +kernel) (by decide +kernel) (As := [.int 1, .int (nI u463.1)]) (rest := []) rfl (nb rfl) rfl d_Model_goesOnTest_205 (fun u478 hu479 => ?_)
          obtain ⟨xh480, xh481⟩ := hu479
          refine j_ws (ws' := [(ma 50, .inl (y 0, 3200, .inl zf)), (ma 34, .inl (y 3, 3, .inl (WD 25))), (ma 0, .inl (y 0, 1600, .inl (tby tx))), (ma 33, .inl (y 3, 2, .inl (WD 24))), (ma 52, .inl (y 0, 1700, .inl g52)), MB mo ma (nI t1) (nI u463.1) (nI t3) u463.2 u478.1 u478.2 i7 i8 i42 i49 (nI zc) (nI zn) (nI oz) i59 i61 i64 i66 (nI t67) i76 i78]) rfl ?_
          have xh482 : RR tx t3 (failS 1 (stS tx t3 gz) gz) u463.1 u463.2 u478.1 u478.2 := (rr_of xh481 (by rw [← xh469 rfl]))
          have xh483 : Rcb tx t3 (1, (gs, cs, sk, oo)) (2, ((failS 1 (stS tx t3 gz) gz), cz, sz, oz)) := hrc_.tr (Rcb.st ((stG _ _ _ _).trans (sG_no2 xh450 (fun q => xh449 ⟨q, xh476⟩) xh457 xh468 xh476)) (Rcb.rf _))
          refine j_iconst (pc := 208) C (v := 0) d_Model_goesOnTest_208 (by decide) ?_
          have xh484 : RS kq s0 f0 (xx + 1) u478.1 zf g52 zc zn az := rs_bad hR_ xh480
          exact j_iret (pc := 209) C hr (by decide) (u463.1, u463.2, u478.1, u478.2, zc, zn, oz, zf, g52, (failS 1 (stS tx t3 gz) gz), cz, sz) ⟨(show t2 ≤ u463.1 by omega), (show u463.1 ≤ t3 by omega), (fun _ => ⟨rfl, show t2 ≤ u463.1 by omega⟩), (it_le hTT (by omega)), xh482, (show oz ≤ 6 by omega), (Or.inr ⟨rfl, (rs_at xh484 (show az ≤ u463.1 by omega)), (fun e => absurd e xh480), (fun _ => ⟨_, _, _, xh483⟩)⟩)⟩ [5, 2, 3, 1, 0, 4] rfl (by decide) (by decide) (by decide) d_Model_goesOnTest_209
      · refine j_if_eqF (pc := 134) C (tgt := 185) d_Model_goesOnTest_134 (by decide) (by decide) ?_
        refine j_loop (α := Nat × Nat × (Nat → Int32) × List Nat × List Nat) (fun a => a.2.1) (fun a => (a.2.1 ≤ zn) ∧ (RS kq s0 f0 (xx + 1) 0 a.2.2.1 g52 a.1 a.2.1 az) ∧ (WB a.2.2.2.1 g52 0 a.2.1) ∧ (CD a.2.2.2.2 a.2.2.1 a.1) ∧ (drp isDO a.2.2.2.1 a.2.2.2.2 = drp isDO sz cz) ∧ (opn a.2.2.2.1 ≤ oz)) (fun a => [(ma 50, .inl (y 0, 3200, .inl a.2.2.1)), (ma 52, .inl (y 0, 1700, .inl g52)), (ma 34, .inl (y 3, 3, .inl (WD 25))), MB mo ma (nI t1) (nI u463.1) (nI t3) u463.2 0 i6 i7 i8 i42 i49 (nI a.1) (nI a.2.1) (nI oz) i59 i61 i64 i66 (nI t67) i76 i78, (ma 0, .inl (y 0, 1600, .inl (tby tx))), (ma 33, .inl (y 3, 2, .inl (WD 24)))]) (fun a => [(0, .ref mo)]) (zc, zn, zf, sz, cz) rfl rfl ⟨(show zn ≤ zn by omega), hR_, hwz_, hcz_, rfl, hoz_⟩ ?_
        rintro ⟨yc, yn, yf, sy, cy⟩ hP511 ih512
        obtain ⟨hny__, hRy__, hWy__, hCy__, hDy__, hOy__⟩ := hP511
        have hny_ : yn ≤ zn := hny__
        have hRy_ : RS kq s0 f0 (xx + 1) 0 yf g52 yc yn az := hRy__
        have hWy_ : WB sy g52 0 yn := hWy__
        have hCy_ : CD cy yf yc := hCy__
        have hDy_ : drp isDO sy cy = drp isDO sz cz := hDy__
        have hOy_ : opn sy ≤ oz := hOy__
        refine j_ws (ws' := [(ma 50, .inl (y 0, 3200, .inl yf)), (ma 52, .inl (y 0, 1700, .inl g52)), (ma 34, .inl (y 3, 3, .inl (WD 25))), MB mo ma (nI t1) (nI u463.1) (nI t3) u463.2 0 i6 i7 i8 i42 i49 (nI yc) (nI yn) (nI oz) i59 i61 i64 i66 (nI t67) i76 i78, (ma 0, .inl (y 0, 1600, .inl (tby tx))), (ma 33, .inl (y 3, 2, .inl (WD 24)))]) rfl ?_
        refine j_lv (lv' := [(0, .ref mo)]) rfl ?_
        have hacy := rs_ac3 hRy_
        refine j_aload_n (pc := 137) C d_Model_goesOnTest_137 rfl 0 rfl ?_
        refine j_bipush (pc := 138) C (v := 14) d_Model_goesOnTest_138 (by decide) ?_
        refine j_callVi (pc := 140) C (c_M_isOn l D y mo ma t1 u463.1 t3 u463.2 0 i6 i7 i8 i42 i49 (nI yc) yn (nI oz) i59 i61 i64 i66 t67 i76 i78 g52 14 (by omega)) kw_Model_362 kv_Model_isOn 0 10 rfl rfl ⟨by decide, by decide⟩ ⟨by decide, by decide⟩ (wr := [(ma 50, .inl (y 0, 3200, .inl yf)), (ma 34, .inl (y 3, 3, .inl (WD 25))), (ma 0, .inl (y 0, 1600, .inl (tby tx))), (ma 33, .inl (y 3, 2, .inl (WD 24)))]) [3, 1] [0, 2, 4, 5] rfl rfl (by decide +kernel) (by decide +kernel) (by decide +kernel) (As := [.int 14]) (rest := []) rfl (nb rfl) rfl d_Model_goesOnTest_140 (fun r513 _ hr513 => ?_)
        refine j_ws (ws' := [(ma 50, .inl (y 0, 3200, .inl yf)), (ma 34, .inl (y 3, 3, .inl (WD 25))), (ma 0, .inl (y 0, 1600, .inl (tby tx))), (ma 33, .inl (y 3, 2, .inl (WD 24))), MB mo ma (nI t1) (nI u463.1) (nI t3) u463.2 0 i6 i7 i8 i42 i49 (nI yc) (nI yn) (nI oz) i59 i61 i64 i66 (nI t67) i76 i78, (ma 52, .inl (y 0, 1700, .inl g52))]) rfl ?_
        rcases hr513 with ⟨rfl, xh515⟩ | ⟨rfl, xh516, e517⟩
        · refine j_if_neF (pc := 143) C (tgt := 155) d_Model_goesOnTest_143 (by decide) (by decide) ?_
          refine j_aload_n (pc := 146) C d_Model_goesOnTest_146 rfl 0 rfl ?_
          refine j_bipush (pc := 147) C (v := 15) d_Model_goesOnTest_147 (by decide) ?_
          refine j_callVi (pc := 149) C (c_M_isOn l D y mo ma t1 u463.1 t3 u463.2 0 i6 i7 i8 i42 i49 (nI yc) yn (nI oz) i59 i61 i64 i66 t67 i76 i78 g52 15 (by omega)) kw_Model_362 kv_Model_isOn 0 10 rfl rfl ⟨by decide, by decide⟩ ⟨by decide, by decide⟩ (wr := [(ma 50, .inl (y 0, 3200, .inl yf)), (ma 34, .inl (y 3, 3, .inl (WD 25))), (ma 0, .inl (y 0, 1600, .inl (tby tx))), (ma 33, .inl (y 3, 2, .inl (WD 24)))]) [4, 5] [0, 1, 2, 3] rfl rfl (by decide +kernel) (by decide +kernel) (by decide +kernel) (As := [.int 15]) (rest := []) rfl (nb rfl) rfl d_Model_goesOnTest_149 (fun r518 _ hr518 => ?_)
          refine j_ws (ws' := [(ma 50, .inl (y 0, 3200, .inl yf)), (ma 34, .inl (y 3, 3, .inl (WD 25))), (ma 0, .inl (y 0, 1600, .inl (tby tx))), (ma 33, .inl (y 3, 2, .inl (WD 24))), MB mo ma (nI t1) (nI u463.1) (nI t3) u463.2 0 i6 i7 i8 i42 i49 (nI yc) (nI yn) (nI oz) i59 i61 i64 i66 (nI t67) i76 i78, (ma 52, .inl (y 0, 1700, .inl g52))]) rfl ?_
          rcases hr518 with ⟨rfl, xh520⟩ | ⟨rfl, xh521, e522⟩
          · refine j_if_eqT (pc := 152) C (tgt := 162) d_Model_goesOnTest_152 (by decide) (by decide) ?_
            have xh523 : drp isDO sz cz = (sy, cy) := hDy_.symm.trans (drp_no (fun v hv => do_no (on_no (c := 14) hWy_ xh515 v hv) (on_no (c := 15) hWy_ xh520 v hv)))
            have xh524 : Rcb tx t3 (1, (gs, cs, sk, oo)) (0, ((advS tx t3 gz), cy, (15 :: sy), oz)) := hrc_.tr (Rcb.st ((stG _ _ _ _).trans ((sG_24 xh471).trans (by rw [xh523]))) (Rcb.rf _))
            refine j_aload_n (pc := 162) C d_Model_goesOnTest_162 rfl 0 rfl ?_
            refine j_get (pc := 163) C gf_Model_139 4 rfl rfl d_Model_goesOnTest_163 ?_
            refine j_aload_n (pc := 166) C d_Model_goesOnTest_166 rfl 0 rfl ?_
            refine j_get (pc := 167) C gf_Model_292 4 rfl rfl d_Model_goesOnTest_167 ?_
            refine j_bipush (pc := 170) C (v := 15) d_Model_goesOnTest_170 (by decide) ?_
            refine j_iast (pc := 172) C 5 rfl (ws' := [(ma 50, .inl (y 0, 3200, .inl yf)), (ma 34, .inl (y 3, 3, .inl (WD 25))), (ma 0, .inl (y 0, 1600, .inl (tby tx))), (ma 33, .inl (y 3, 2, .inl (WD 24))), MB mo ma (nI t1) (nI u463.1) (nI t3) u463.2 0 i6 i7 i8 i42 i49 (nI yc) (nI yn) (nI oz) i59 i61 i64 i66 (nI t67) i76 i78, (ma 52, .inl (y 0, 1700, .inl (upd g52 yn 15)))]) (vp_in_nI (by omega) (by decide)) (by rw [nI_clamp (by omega)]; rfl) d_Model_goesOnTest_172 ?_
            refine j_aload_n (pc := 173) C d_Model_goesOnTest_173 rfl 0 rfl ?_
            refine j_dup (pc := 174) C d_Model_goesOnTest_174 rfl ?_
            refine j_get (pc := 175) C gf_Model_292 4 rfl rfl d_Model_goesOnTest_175 ?_
            refine j_iconst (pc := 178) C (v := 1) d_Model_goesOnTest_178 (by decide) ?_
            refine j_iadd (pc := 179) C (v := nI (yn + 1)) d_Model_goesOnTest_179 (nI_add _ _) ?_
            refine j_put (pc := 180) C pf_Model_292 4 (ws' := [(ma 50, .inl (y 0, 3200, .inl yf)), (ma 34, .inl (y 3, 3, .inl (WD 25))), (ma 0, .inl (y 0, 1600, .inl (tby tx))), (ma 33, .inl (y 3, 2, .inl (WD 24))), MB mo ma (nI t1) (nI u463.1) (nI t3) u463.2 0 i6 i7 i8 i42 i49 (nI yc) (nI (yn + 1)) (nI oz) i59 i61 i64 i66 (nI t67) i76 i78, (ma 52, .inl (y 0, 1700, .inl (upd g52 yn 15)))]) rfl rfl rfl (nl rfl) rfl d_Model_goesOnTest_180 ?_
            refine j_iconst (pc := 183) C (v := 1) d_Model_goesOnTest_183 (by decide) ?_
            exact j_iret (pc := 184) C hr (by decide) (u463.1, u463.2, 0, i6, yc, (yn + 1), oz, yf, (upd g52 yn 15), (advS tx t3 gz), cy, (15 :: sy)) ⟨(show t2 ≤ u463.1 by omega), (show u463.1 ≤ t3 by omega), (fun _ => ⟨rfl, show t2 ≤ u463.1 by omega⟩), (it_push (it_le hTT (show yn ≤ wn by omega)) (by decide)), xh470, (show oz ≤ 6 by omega), (Or.inl ⟨rfl, rfl, rs_op hRy_ (by decide) (show az < u463.1 by omega), xh524, hCy_, wb_push hWy_ (by decide), opn_op hOy_ (by decide)⟩)⟩ [4, 2, 3, 1, 0, 5] rfl (by decide) (by decide) (by decide) d_Model_goesOnTest_184
          · refine j_if_eqF (pc := 152) C (tgt := 162) d_Model_goesOnTest_152 (by decide) (by decide) ?_
            obtain ⟨vq525, sq526, xh527, xh528, xh529, xh530⟩ := wb_top hWy_ (show 0 < yn by omega)
            have xh531 : vq525 = 15 := on_yes xh528 xh529 (by decide) e522
            refine j_aload_n (pc := 155) C d_Model_goesOnTest_155 rfl 0 rfl ?_
            refine j_callVv (pc := 156) C (c_M_drops l D y mo ma t1 u463.1 t3 u463.2 0 i6 i7 i8 i42 i49 yc yn (nI oz) i59 i61 i64 i66 t67 i76 i78 yf g52 (by omega) (by omega) (by omega)) kw_Model_350 kv_Model_drops 0 10 rfl rfl ⟨by decide, by decide⟩ ⟨by decide, by decide⟩ (wr := [(ma 34, .inl (y 3, 3, .inl (WD 25))), (ma 0, .inl (y 0, 1600, .inl (tby tx))), (ma 33, .inl (y 3, 2, .inl (WD 24)))]) [4, 0, 5] [1, 2, 3] rfl rfl (by decide +kernel) (by decide +kernel) (by decide +kernel) (As := []) (rest := []) rfl (nb rfl) rfl d_Model_goesOnTest_156 (fun _ _ => ?_)
            refine j_ws (ws' := [(ma 34, .inl (y 3, 3, .inl (WD 25))), (ma 0, .inl (y 0, 1600, .inl (tby tx))), (ma 33, .inl (y 3, 2, .inl (WD 24))), MB mo ma (nI t1) (nI u463.1) (nI t3) u463.2 0 i6 i7 i8 i42 i49 (nI (yc + 1)) (nI (yn - 1)) (nI oz) i59 i61 i64 i66 (nI t67) i76 i78, (ma 50, .inl (y 0, 3200, .inl (upd yf yc (g52 (yn - 1))))), (ma 52, .inl (y 0, 1700, .inl g52))]) rfl ?_
            refine j_goto (pc := 159) C (tgt := 137) d_Model_goesOnTest_159 (by decide) ?_
            refine j_sub (ws' := [(ma 50, .inl (y 0, 3200, .inl (upd yf yc (g52 (yn - 1))))), (ma 52, .inl (y 0, 1700, .inl g52)), (ma 34, .inl (y 3, 3, .inl (WD 25))), MB mo ma (nI t1) (nI u463.1) (nI t3) u463.2 0 i6 i7 i8 i42 i49 (nI (yc + 1)) (nI (yn - 1)) (nI oz) i59 i61 i64 i66 (nI t67) i76 i78, (ma 0, .inl (y 0, 1600, .inl (tby tx))), (ma 33, .inl (y 3, 2, .inl (WD 24)))]) [4, 5, 0, 3, 1, 2] rfl (by decide +kernel) ?_
            exact ih512 ((yc + 1), (yn - 1), (upd yf yc (g52 (yn - 1))), sq526, (putS vq525 cy)) ⟨(show (yn - 1) ≤ zn by omega), (show RS kq s0 f0 (xx + 1) 0 (upd yf yc (g52 (yn - 1))) g52 (yc + 1) (yn - 1) az from rs_drop hRy_ (by omega) (show yn = yn - 1 + 1 by omega) (Or.inr (by rw [e522]; decide))), xh530, (show CD (putS vq525 cy) (upd yf yc (g52 (yn - 1))) (yc + 1) from cd_put hCy_ (by omega) xh528 (by omega)), (show drp isDO sq526 (putS vq525 cy) = drp isDO sz cz by rw [← hDy_, xh527]; exact (drp_go (by rw [xh531]; decide)).symm), (opn_tl (by have hq := hOy_; rw [xh527] at hq; exact hq))⟩ (show (yn - 1) < yn by omega)
        · refine j_if_neT (pc := 143) C (tgt := 155) d_Model_goesOnTest_143 (by decide) (by decide) ?_
          obtain ⟨vq532, sq533, xh534, xh535, xh536, xh537⟩ := wb_top hWy_ (show 0 < yn by omega)
          have xh538 : vq532 = 14 := on_yes xh535 xh536 (by decide) e517
          refine j_aload_n (pc := 155) C d_Model_goesOnTest_155 rfl 0 rfl ?_
          refine j_callVv (pc := 156) C (c_M_drops l D y mo ma t1 u463.1 t3 u463.2 0 i6 i7 i8 i42 i49 yc yn (nI oz) i59 i61 i64 i66 t67 i76 i78 yf g52 (by omega) (by omega) (by omega)) kw_Model_350 kv_Model_drops 0 10 rfl rfl ⟨by decide, by decide⟩ ⟨by decide, by decide⟩ (wr := [(ma 34, .inl (y 3, 3, .inl (WD 25))), (ma 0, .inl (y 0, 1600, .inl (tby tx))), (ma 33, .inl (y 3, 2, .inl (WD 24)))]) [4, 0, 5] [1, 2, 3] rfl rfl (by decide +kernel) (by decide +kernel) (by decide +kernel) (As := []) (rest := []) rfl (nb rfl) rfl d_Model_goesOnTest_156 (fun _ _ => ?_)
          refine j_ws (ws' := [(ma 34, .inl (y 3, 3, .inl (WD 25))), (ma 0, .inl (y 0, 1600, .inl (tby tx))), (ma 33, .inl (y 3, 2, .inl (WD 24))), MB mo ma (nI t1) (nI u463.1) (nI t3) u463.2 0 i6 i7 i8 i42 i49 (nI (yc + 1)) (nI (yn - 1)) (nI oz) i59 i61 i64 i66 (nI t67) i76 i78, (ma 50, .inl (y 0, 3200, .inl (upd yf yc (g52 (yn - 1))))), (ma 52, .inl (y 0, 1700, .inl g52))]) rfl ?_
          refine j_goto (pc := 159) C (tgt := 137) d_Model_goesOnTest_159 (by decide) ?_
          refine j_sub (ws' := [(ma 50, .inl (y 0, 3200, .inl (upd yf yc (g52 (yn - 1))))), (ma 52, .inl (y 0, 1700, .inl g52)), (ma 34, .inl (y 3, 3, .inl (WD 25))), MB mo ma (nI t1) (nI u463.1) (nI t3) u463.2 0 i6 i7 i8 i42 i49 (nI (yc + 1)) (nI (yn - 1)) (nI oz) i59 i61 i64 i66 (nI t67) i76 i78, (ma 0, .inl (y 0, 1600, .inl (tby tx))), (ma 33, .inl (y 3, 2, .inl (WD 24)))]) [4, 5, 0, 3, 1, 2] rfl (by decide +kernel) ?_
          exact ih512 ((yc + 1), (yn - 1), (upd yf yc (g52 (yn - 1))), sq533, (putS vq532 cy)) ⟨(show (yn - 1) ≤ zn by omega), (show RS kq s0 f0 (xx + 1) 0 (upd yf yc (g52 (yn - 1))) g52 (yc + 1) (yn - 1) az from rs_drop hRy_ (by omega) (show yn = yn - 1 + 1 by omega) (Or.inr (by rw [e517]; decide))), xh537, (show CD (putS vq532 cy) (upd yf yc (g52 (yn - 1))) (yc + 1) from cd_put hCy_ (by omega) xh535 (by omega)), (show drp isDO sq533 (putS vq532 cy) = drp isDO sz cz by rw [← hDy_, xh534]; exact (drp_go (by rw [xh538]; decide)).symm), (opn_tl (by have hq := hOy_; rw [xh534] at hq; exact hq))⟩ (show (yn - 1) < yn by omega)
    · refine j_if_eqF (pc := 84) C (tgt := 126) d_Model_goesOnTest_84 (by decide) (by decide) ?_
      refine j_loop (α := Nat × Nat × (Nat → Int32) × List Nat × List Nat) (fun a => a.2.1) (fun a => (a.2.1 ≤ zn) ∧ (RS kq s0 f0 (xx + 1) 0 a.2.2.1 g52 a.1 a.2.1 az) ∧ (WB a.2.2.2.1 g52 0 a.2.1) ∧ (CD a.2.2.2.2 a.2.2.1 a.1) ∧ (drp isN a.2.2.2.1 a.2.2.2.2 = drp isN sz cz) ∧ (opn a.2.2.2.1 ≤ oz)) (fun a => [(ma 33, .inl (y 3, 2, .inl (WD 24))), (ma 50, .inl (y 0, 3200, .inl a.2.2.1)), (ma 52, .inl (y 0, 1700, .inl g52)), MB mo ma (nI t1) (nI u452.1) (nI t3) u452.2 0 i6 i7 i8 i42 i49 (nI a.1) (nI a.2.1) (nI oz) i59 i61 i64 i66 (nI t67) i76 i78, (ma 0, .inl (y 0, 1600, .inl (tby tx))), (ma 34, .inl (y 3, 3, .inl (WD 25)))]) (fun a => [(0, .ref mo)]) (zc, zn, zf, sz, cz) rfl rfl ⟨(show zn ≤ zn by omega), hR_, hwz_, hcz_, rfl, hoz_⟩ ?_
      rintro ⟨yc, yn, yf, sy, cy⟩ hP553 ih554
      obtain ⟨hny__, hRy__, hWy__, hCy__, hDy__, hOy__⟩ := hP553
      have hny_ : yn ≤ zn := hny__
      have hRy_ : RS kq s0 f0 (xx + 1) 0 yf g52 yc yn az := hRy__
      have hWy_ : WB sy g52 0 yn := hWy__
      have hCy_ : CD cy yf yc := hCy__
      have hDy_ : drp isN sy cy = drp isN sz cz := hDy__
      have hOy_ : opn sy ≤ oz := hOy__
      refine j_ws (ws' := [(ma 33, .inl (y 3, 2, .inl (WD 24))), (ma 50, .inl (y 0, 3200, .inl yf)), (ma 52, .inl (y 0, 1700, .inl g52)), MB mo ma (nI t1) (nI u452.1) (nI t3) u452.2 0 i6 i7 i8 i42 i49 (nI yc) (nI yn) (nI oz) i59 i61 i64 i66 (nI t67) i76 i78, (ma 0, .inl (y 0, 1600, .inl (tby tx))), (ma 34, .inl (y 3, 3, .inl (WD 25)))]) rfl ?_
      refine j_lv (lv' := [(0, .ref mo)]) rfl ?_
      have hacy := rs_ac3 hRy_
      refine j_aload_n (pc := 87) C d_Model_goesOnTest_87 rfl 0 rfl ?_
      refine j_bipush (pc := 88) C (v := 14) d_Model_goesOnTest_88 (by decide) ?_
      refine j_callVi (pc := 90) C (c_M_isOn l D y mo ma t1 u452.1 t3 u452.2 0 i6 i7 i8 i42 i49 (nI yc) yn (nI oz) i59 i61 i64 i66 t67 i76 i78 g52 14 (by omega)) kw_Model_362 kv_Model_isOn 0 10 rfl rfl ⟨by decide, by decide⟩ ⟨by decide, by decide⟩ (wr := [(ma 33, .inl (y 3, 2, .inl (WD 24))), (ma 50, .inl (y 0, 3200, .inl yf)), (ma 0, .inl (y 0, 1600, .inl (tby tx))), (ma 34, .inl (y 3, 3, .inl (WD 25)))]) [3, 2] [0, 1, 4, 5] rfl rfl (by decide +kernel) (by decide +kernel) (by decide +kernel) (As := [.int 14]) (rest := []) rfl (nb rfl) rfl d_Model_goesOnTest_90 (fun r555 _ hr555 => ?_)
      refine j_ws (ws' := [(ma 33, .inl (y 3, 2, .inl (WD 24))), (ma 50, .inl (y 0, 3200, .inl yf)), (ma 0, .inl (y 0, 1600, .inl (tby tx))), (ma 34, .inl (y 3, 3, .inl (WD 25))), MB mo ma (nI t1) (nI u452.1) (nI t3) u452.2 0 i6 i7 i8 i42 i49 (nI yc) (nI yn) (nI oz) i59 i61 i64 i66 (nI t67) i76 i78, (ma 52, .inl (y 0, 1700, .inl g52))]) rfl ?_
      rcases hr555 with ⟨rfl, xh557⟩ | ⟨rfl, xh558, e559⟩
      · refine j_if_eqT (pc := 93) C (tgt := 103) d_Model_goesOnTest_93 (by decide) (by decide) ?_
        have xh560 : drp isN sz cz = (sy, cy) := hDy_.symm.trans (drp_no (fun v hv => n_no (on_no (c := 14) hWy_ xh557 v hv)))
        have xh561 : Rcb tx t3 (1, (gs, cs, sk, oo)) (0, ((advS tx t3 gz), cy, (14 :: sy), oz)) := hrc_.tr (Rcb.st ((stG _ _ _ _).trans ((sG_25 xh460).trans (by rw [xh560]))) (Rcb.rf _))
        refine j_aload_n (pc := 103) C d_Model_goesOnTest_103 rfl 0 rfl ?_
        refine j_get (pc := 104) C gf_Model_139 4 rfl rfl d_Model_goesOnTest_104 ?_
        refine j_aload_n (pc := 107) C d_Model_goesOnTest_107 rfl 0 rfl ?_
        refine j_get (pc := 108) C gf_Model_292 4 rfl rfl d_Model_goesOnTest_108 ?_
        refine j_bipush (pc := 111) C (v := 14) d_Model_goesOnTest_111 (by decide) ?_
        refine j_iast (pc := 113) C 5 rfl (ws' := [(ma 33, .inl (y 3, 2, .inl (WD 24))), (ma 50, .inl (y 0, 3200, .inl yf)), (ma 0, .inl (y 0, 1600, .inl (tby tx))), (ma 34, .inl (y 3, 3, .inl (WD 25))), MB mo ma (nI t1) (nI u452.1) (nI t3) u452.2 0 i6 i7 i8 i42 i49 (nI yc) (nI yn) (nI oz) i59 i61 i64 i66 (nI t67) i76 i78, (ma 52, .inl (y 0, 1700, .inl (upd g52 yn 14)))]) (vp_in_nI (by omega) (by decide)) (by rw [nI_clamp (by omega)]; rfl) d_Model_goesOnTest_113 ?_
        refine j_aload_n (pc := 114) C d_Model_goesOnTest_114 rfl 0 rfl ?_
        refine j_dup (pc := 115) C d_Model_goesOnTest_115 rfl ?_
        refine j_get (pc := 116) C gf_Model_292 4 rfl rfl d_Model_goesOnTest_116 ?_
        refine j_iconst (pc := 119) C (v := 1) d_Model_goesOnTest_119 (by decide) ?_
        refine j_iadd (pc := 120) C (v := nI (yn + 1)) d_Model_goesOnTest_120 (nI_add _ _) ?_
        refine j_put (pc := 121) C pf_Model_292 4 (ws' := [(ma 33, .inl (y 3, 2, .inl (WD 24))), (ma 50, .inl (y 0, 3200, .inl yf)), (ma 0, .inl (y 0, 1600, .inl (tby tx))), (ma 34, .inl (y 3, 3, .inl (WD 25))), MB mo ma (nI t1) (nI u452.1) (nI t3) u452.2 0 i6 i7 i8 i42 i49 (nI yc) (nI (yn + 1)) (nI oz) i59 i61 i64 i66 (nI t67) i76 i78, (ma 52, .inl (y 0, 1700, .inl (upd g52 yn 14)))]) rfl rfl rfl (nl rfl) rfl d_Model_goesOnTest_121 ?_
        refine j_iconst (pc := 124) C (v := 1) d_Model_goesOnTest_124 (by decide) ?_
        exact j_iret (pc := 125) C hr (by decide) (u452.1, u452.2, 0, i6, yc, (yn + 1), oz, yf, (upd g52 yn 14), (advS tx t3 gz), cy, (14 :: sy)) ⟨(show t2 ≤ u452.1 by omega), (show u452.1 ≤ t3 by omega), (fun _ => ⟨rfl, show t2 ≤ u452.1 by omega⟩), (it_push (it_le hTT (show yn ≤ wn by omega)) (by decide)), xh459, (show oz ≤ 6 by omega), (Or.inl ⟨rfl, rfl, rs_op hRy_ (by decide) (show az < u452.1 by omega), xh561, hCy_, wb_push hWy_ (by decide), opn_op hOy_ (by decide)⟩)⟩ [4, 2, 0, 3, 1, 5] rfl (by decide) (by decide) (by decide) d_Model_goesOnTest_125
      · refine j_if_eqF (pc := 93) C (tgt := 103) d_Model_goesOnTest_93 (by decide) (by decide) ?_
        obtain ⟨vq562, sq563, xh564, xh565, xh566, xh567⟩ := wb_top hWy_ (show 0 < yn by omega)
        have xh568 : vq562 = 14 := on_yes xh565 xh566 (by decide) e559
        refine j_aload_n (pc := 96) C d_Model_goesOnTest_96 rfl 0 rfl ?_
        refine j_callVv (pc := 97) C (c_M_drops l D y mo ma t1 u452.1 t3 u452.2 0 i6 i7 i8 i42 i49 yc yn (nI oz) i59 i61 i64 i66 t67 i76 i78 yf g52 (by omega) (by omega) (by omega)) kw_Model_350 kv_Model_drops 0 10 rfl rfl ⟨by decide, by decide⟩ ⟨by decide, by decide⟩ (wr := [(ma 33, .inl (y 3, 2, .inl (WD 24))), (ma 0, .inl (y 0, 1600, .inl (tby tx))), (ma 34, .inl (y 3, 3, .inl (WD 25)))]) [4, 1, 5] [0, 2, 3] rfl rfl (by decide +kernel) (by decide +kernel) (by decide +kernel) (As := []) (rest := []) rfl (nb rfl) rfl d_Model_goesOnTest_97 (fun _ _ => ?_)
        refine j_ws (ws' := [(ma 33, .inl (y 3, 2, .inl (WD 24))), (ma 0, .inl (y 0, 1600, .inl (tby tx))), (ma 34, .inl (y 3, 3, .inl (WD 25))), MB mo ma (nI t1) (nI u452.1) (nI t3) u452.2 0 i6 i7 i8 i42 i49 (nI (yc + 1)) (nI (yn - 1)) (nI oz) i59 i61 i64 i66 (nI t67) i76 i78, (ma 50, .inl (y 0, 3200, .inl (upd yf yc (g52 (yn - 1))))), (ma 52, .inl (y 0, 1700, .inl g52))]) rfl ?_
        refine j_goto (pc := 100) C (tgt := 87) d_Model_goesOnTest_100 (by decide) ?_
        refine j_sub (ws' := [(ma 33, .inl (y 3, 2, .inl (WD 24))), (ma 50, .inl (y 0, 3200, .inl (upd yf yc (g52 (yn - 1))))), (ma 52, .inl (y 0, 1700, .inl g52)), MB mo ma (nI t1) (nI u452.1) (nI t3) u452.2 0 i6 i7 i8 i42 i49 (nI (yc + 1)) (nI (yn - 1)) (nI oz) i59 i61 i64 i66 (nI t67) i76 i78, (ma 0, .inl (y 0, 1600, .inl (tby tx))), (ma 34, .inl (y 3, 3, .inl (WD 25)))]) [0, 4, 5, 3, 1, 2] rfl (by decide +kernel) ?_
        exact ih554 ((yc + 1), (yn - 1), (upd yf yc (g52 (yn - 1))), sq563, (putS vq562 cy)) ⟨(show (yn - 1) ≤ zn by omega), (show RS kq s0 f0 (xx + 1) 0 (upd yf yc (g52 (yn - 1))) g52 (yc + 1) (yn - 1) az from rs_drop hRy_ (by omega) (show yn = yn - 1 + 1 by omega) (Or.inr (by rw [e559]; decide))), xh567, (show CD (putS vq562 cy) (upd yf yc (g52 (yn - 1))) (yc + 1) from cd_put hCy_ (by omega) xh565 (by omega)), (show drp isN sq563 (putS vq562 cy) = drp isN sz cz by rw [← hDy_, xh564]; exact (drp_go (by rw [xh568]; decide)).symm), (opn_tl (by have hq := hOy_; rw [xh564] at hq; exact hq))⟩ (show (yn - 1) < yn by omega)
  · have hb569 : tx u441 < 256 := hB u441
    refine j_bipush (pc := 11) C (v := 93) d_Model_goesOnTest_11 (by decide) ?_
    by_cases c570 : ¬ (tx u441) = 93
    · refine j_icmp_neT (pc := 13) C (tgt := 76) d_Model_goesOnTest_13 (by decide) (show ¬ nI (tx u441) = nI 93 from fun e => absurd ((nI_eq (by omega) (by omega)).mp e) (by omega)) ?_
      have xh571 : ¬ (issS tx t3 93 gz = true ∧ 25 ∈ sz) := (fun q => (sg_no2 xh444 (show ¬ tx u441 = 93 by omega)) q.1)
      have xh572 : gz.1 = 0 := ((rr_z xh445).mp rfl)
      refine j_aload_n (pc := 76) C d_Model_goesOnTest_76 rfl 0 rfl ?_
      refine j_aload_n (pc := 77) C d_Model_goesOnTest_77 rfl 0 rfl ?_
      refine j_get (pc := 78) C gf_Model_93 4 rfl rfl d_Model_goesOnTest_78 ?_
      refine j_callVi (pc := 81) C (c_M_takes_3 l D y mo (ma 34) ma t1 u441 t3 i4 0 i6 i7 i8 i42 i49 (nI zc) (nI zn) (nI oz) i59 i61 i64 i66 t67 i76 i78 tx 25 gz xh443 he hB xh445 (by omega) (by decide)) kw_Model_228 kv_Model_takes 0 10 rfl rfl ⟨by decide, by decide⟩ ⟨by decide, by decide⟩ (wr := [(ma 33, .inl (y 3, 2, .inl (WD 24))), (ma 50, .inl (y 0, 3200, .inl zf)), (ma 52, .inl (y 0, 1700, .inl g52))]) [4, 5, 1] [0, 2, 3] rfl rfl (by decide +kernel) (by decide +kernel) (by decide +kernel) (As := [.ref (ma 34)]) (rest := []) rfl (nb rfl) rfl d_Model_goesOnTest_81 (fun r573 u574 hr573 => ?_)
      refine j_ws (ws' := [(ma 33, .inl (y 3, 2, .inl (WD 24))), (ma 50, .inl (y 0, 3200, .inl zf)), (ma 52, .inl (y 0, 1700, .inl g52)), MB mo ma (nI t1) (nI u574.1) (nI t3) u574.2 0 i6 i7 i8 i42 i49 (nI zc) (nI zn) (nI oz) i59 i61 i64 i66 (nI t67) i76 i78, (ma 0, .inl (y 0, 1600, .inl (tby tx))), (ma 34, .inl (y 3, 3, .inl (WD 25)))]) rfl ?_
      obtain ⟨xh575, xh576, xh577⟩ := hr573
      rcases xh577 with ⟨rfl, xh578, xh579, xh580⟩ | ⟨rfl, xh581, xh582, xh583⟩
      · refine j_if_eqT (pc := 84) C (tgt := 126) d_Model_goesOnTest_84 (by decide) (by decide) ?_
        refine j_aload_n (pc := 126) C d_Model_goesOnTest_126 rfl 0 rfl ?_
        refine j_aload_n (pc := 127) C d_Model_goesOnTest_127 rfl 0 rfl ?_
        refine j_get (pc := 128) C gf_Model_90 3 rfl rfl d_Model_goesOnTest_128 ?_
        refine j_callVi (pc := 131) C (c_M_takes_2 l D y mo (ma 33) ma t1 u574.1 t3 u574.2 0 i6 i7 i8 i42 i49 (nI zc) (nI zn) (nI oz) i59 i61 i64 i66 t67 i76 i78 tx 24 gz xh576 he hB xh578 (by omega) (by decide)) kw_Model_228 kv_Model_takes 0 10 rfl rfl ⟨by decide, by decide⟩ ⟨by decide, by decide⟩ (wr := [(ma 50, .inl (y 0, 3200, .inl zf)), (ma 52, .inl (y 0, 1700, .inl g52)), (ma 34, .inl (y 3, 3, .inl (WD 25)))]) [3, 4, 0] [1, 2, 5] rfl rfl (by decide +kernel) (by decide +kernel) (by decide +kernel) (As := [.ref (ma 33)]) (rest := []) rfl (nb rfl) rfl d_Model_goesOnTest_131 (fun r584 u585 hr584 => ?_)
        refine j_ws (ws' := [(ma 50, .inl (y 0, 3200, .inl zf)), (ma 52, .inl (y 0, 1700, .inl g52)), (ma 34, .inl (y 3, 3, .inl (WD 25))), MB mo ma (nI t1) (nI u585.1) (nI t3) u585.2 0 i6 i7 i8 i42 i49 (nI zc) (nI zn) (nI oz) i59 i61 i64 i66 (nI t67) i76 i78, (ma 0, .inl (y 0, 1600, .inl (tby tx))), (ma 33, .inl (y 3, 2, .inl (WD 24)))]) rfl ?_
        obtain ⟨xh586, xh587, xh588⟩ := hr584
        rcases xh588 with ⟨rfl, xh589, xh590, xh591⟩ | ⟨rfl, xh592, xh593, xh594⟩
        · refine j_if_eqT (pc := 134) C (tgt := 185) d_Model_goesOnTest_134 (by decide) (by decide) ?_
          refine j_aload_n (pc := 185) C d_Model_goesOnTest_185 rfl 0 rfl ?_
          refine j_get (pc := 186) C gf_Model_201 3 rfl rfl d_Model_goesOnTest_186 ?_
          refine j_if_neF (pc := 189) C (tgt := 208) d_Model_goesOnTest_189 (by decide) (by decide) ?_
          refine j_aload_n (pc := 192) C d_Model_goesOnTest_192 rfl 0 rfl ?_
          refine j_callVi (pc := 193) C (c_M_hasSquare l D y mo ma t1 u585.1 t3 u585.2 0 i6 i7 i8 i42 i49 (nI zc) zn (nI oz) i59 i61 i64 i66 t67 i76 i78 g52 sz (by omega) hwz_) kw_Model_380 kv_Model_hasSquare 0 10 rfl rfl ⟨by decide, by decide⟩ ⟨by decide, by decide⟩ (wr := [(ma 50, .inl (y 0, 3200, .inl zf)), (ma 34, .inl (y 3, 3, .inl (WD 25))), (ma 0, .inl (y 0, 1600, .inl (tby tx))), (ma 33, .inl (y 3, 2, .inl (WD 24)))]) [3, 1] [0, 2, 4, 5] rfl rfl (by decide +kernel) (by decide +kernel) (by decide +kernel) (As := []) (rest := []) rfl (nb rfl) rfl d_Model_goesOnTest_193 (fun r595 _ hr595 => ?_)
          refine j_ws (ws' := [(ma 50, .inl (y 0, 3200, .inl zf)), (ma 34, .inl (y 3, 3, .inl (WD 25))), (ma 0, .inl (y 0, 1600, .inl (tby tx))), (ma 33, .inl (y 3, 2, .inl (WD 24))), MB mo ma (nI t1) (nI u585.1) (nI t3) u585.2 0 i6 i7 i8 i42 i49 (nI zc) (nI zn) (nI oz) i59 i61 i64 i66 (nI t67) i76 i78, (ma 52, .inl (y 0, 1700, .inl g52))]) rfl ?_
          rcases hr595 with ⟨rfl, xh597⟩ | ⟨rfl, xh598⟩
          · refine j_if_eqT (pc := 196) C (tgt := 208) d_Model_goesOnTest_196 (by decide) (by decide) ?_
            have xh599 : Rcb tx t3 (1, (gs, cs, sk, oo)) (2, (gz, cz, sz, oz)) := hrc_.tr (Rcb.st ((stG _ _ _ _).trans (sG_en2 xh572 xh579 xh590 xh597)) (Rcb.rf _))
            refine j_iconst (pc := 208) C (v := 0) d_Model_goesOnTest_208 (by decide) ?_
            exact j_iret (pc := 209) C hr (by decide) (u585.1, u585.2, 0, i6, zc, zn, oz, zf, g52, gz, cz, sz) ⟨(show t2 ≤ u585.1 by omega), (show u585.1 ≤ t3 by omega), (fun _ => ⟨rfl, show t2 ≤ u585.1 by omega⟩), (it_le hTT (by omega)), xh589, (show oz ≤ 6 by omega), (Or.inr ⟨rfl, (rs_at hR_ (show az ≤ u585.1 by omega)), (fun _ => ⟨sq_nsq hwz_ xh597, xh599, hcz_, hwz_, xh597⟩), (fun e => absurd rfl e)⟩)⟩ [4, 2, 3, 1, 0, 5] rfl (by decide) (by decide) (by decide) d_Model_goesOnTest_209
          · refine j_if_eqF (pc := 196) C (tgt := 208) d_Model_goesOnTest_196 (by decide) (by decide) ?_
            refine j_aload_n (pc := 199) C d_Model_goesOnTest_199 rfl 0 rfl ?_
            refine j_iconst (pc := 200) C (v := 1) d_Model_goesOnTest_200 (by decide) ?_
            refine j_aload_n (pc := 201) C d_Model_goesOnTest_201 rfl 0 rfl ?_
            refine j_get (pc := 202) C gf_Model_207 4 rfl rfl d_Model_goesOnTest_202 ?_
            refine j_callVv (pc := 205) C (c_M_fail_1 l D y mo ma t1 u585.1 t3 u585.2 0 i6 i7 i8 i42 i49 (nI zc) (nI zn) (nI oz) i59 i61 i64 i66 t67 i76 i78 u585.1 gz tx ((rr_z xh589).mp rfl) (by omega) rfl) kw_Model_230 kv_Model_fail 0 10 rfl rfl ⟨by decide, by decide⟩ ⟨by decide, by decide⟩ (wr := [(ma 50, .inl (y 0, 3200, .inl zf)), (ma 34, .inl (y 3, 3, .inl (WD 25))), (ma 0, .inl (y 0, 1600, .inl (tby tx))), (ma 33, .inl (y 3, 2, .inl (WD 24))), (ma 52, .inl (y 0, 1700, .inl g52))]) [4] [0, 1, 2, 3, 5] rfl rfl (by decide +kernel) (by decide +kernel) (by decide +kernel) (As := [.int 1, .int (nI u585.1)]) (rest := []) rfl (nb rfl) rfl d_Model_goesOnTest_205 (fun u600 hu601 => ?_)
            obtain ⟨xh602, xh603⟩ := hu601
            refine j_ws (ws' := [(ma 50, .inl (y 0, 3200, .inl zf)), (ma 34, .inl (y 3, 3, .inl (WD 25))), (ma 0, .inl (y 0, 1600, .inl (tby tx))), (ma 33, .inl (y 3, 2, .inl (WD 24))), (ma 52, .inl (y 0, 1700, .inl g52)), MB mo ma (nI t1) (nI u585.1) (nI t3) u585.2 u600.1 u600.2 i7 i8 i42 i49 (nI zc) (nI zn) (nI oz) i59 i61 i64 i66 (nI t67) i76 i78]) rfl ?_
            have xh604 : RR tx t3 (failS 1 (stS tx t3 gz) gz) u585.1 u585.2 u600.1 u600.2 := (rr_of xh603 (by rw [← xh591 rfl]))
            have xh605 : Rcb tx t3 (1, (gs, cs, sk, oo)) (2, ((failS 1 (stS tx t3 gz) gz), cz, sz, oz)) := hrc_.tr (Rcb.st ((stG _ _ _ _).trans (sG_no2 xh572 (fun q => xh571 ⟨q, xh598⟩) xh579 xh590 xh598)) (Rcb.rf _))
            refine j_iconst (pc := 208) C (v := 0) d_Model_goesOnTest_208 (by decide) ?_
            have xh606 : RS kq s0 f0 (xx + 1) u600.1 zf g52 zc zn az := rs_bad hR_ xh602
            exact j_iret (pc := 209) C hr (by decide) (u585.1, u585.2, u600.1, u600.2, zc, zn, oz, zf, g52, (failS 1 (stS tx t3 gz) gz), cz, sz) ⟨(show t2 ≤ u585.1 by omega), (show u585.1 ≤ t3 by omega), (fun _ => ⟨rfl, show t2 ≤ u585.1 by omega⟩), (it_le hTT (by omega)), xh604, (show oz ≤ 6 by omega), (Or.inr ⟨rfl, (rs_at xh606 (show az ≤ u585.1 by omega)), (fun e => absurd e xh602), (fun _ => ⟨_, _, _, xh605⟩)⟩)⟩ [5, 2, 3, 1, 0, 4] rfl (by decide) (by decide) (by decide) d_Model_goesOnTest_209
        · refine j_if_eqF (pc := 134) C (tgt := 185) d_Model_goesOnTest_134 (by decide) (by decide) ?_
          refine j_loop (α := Nat × Nat × (Nat → Int32) × List Nat × List Nat) (fun a => a.2.1) (fun a => (a.2.1 ≤ zn) ∧ (RS kq s0 f0 (xx + 1) 0 a.2.2.1 g52 a.1 a.2.1 az) ∧ (WB a.2.2.2.1 g52 0 a.2.1) ∧ (CD a.2.2.2.2 a.2.2.1 a.1) ∧ (drp isDO a.2.2.2.1 a.2.2.2.2 = drp isDO sz cz) ∧ (opn a.2.2.2.1 ≤ oz)) (fun a => [(ma 50, .inl (y 0, 3200, .inl a.2.2.1)), (ma 52, .inl (y 0, 1700, .inl g52)), (ma 34, .inl (y 3, 3, .inl (WD 25))), MB mo ma (nI t1) (nI u585.1) (nI t3) u585.2 0 i6 i7 i8 i42 i49 (nI a.1) (nI a.2.1) (nI oz) i59 i61 i64 i66 (nI t67) i76 i78, (ma 0, .inl (y 0, 1600, .inl (tby tx))), (ma 33, .inl (y 3, 2, .inl (WD 24)))]) (fun a => [(0, .ref mo)]) (zc, zn, zf, sz, cz) rfl rfl ⟨(show zn ≤ zn by omega), hR_, hwz_, hcz_, rfl, hoz_⟩ ?_
          rintro ⟨yc, yn, yf, sy, cy⟩ hP633 ih634
          obtain ⟨hny__, hRy__, hWy__, hCy__, hDy__, hOy__⟩ := hP633
          have hny_ : yn ≤ zn := hny__
          have hRy_ : RS kq s0 f0 (xx + 1) 0 yf g52 yc yn az := hRy__
          have hWy_ : WB sy g52 0 yn := hWy__
          have hCy_ : CD cy yf yc := hCy__
          have hDy_ : drp isDO sy cy = drp isDO sz cz := hDy__
          have hOy_ : opn sy ≤ oz := hOy__
          refine j_ws (ws' := [(ma 50, .inl (y 0, 3200, .inl yf)), (ma 52, .inl (y 0, 1700, .inl g52)), (ma 34, .inl (y 3, 3, .inl (WD 25))), MB mo ma (nI t1) (nI u585.1) (nI t3) u585.2 0 i6 i7 i8 i42 i49 (nI yc) (nI yn) (nI oz) i59 i61 i64 i66 (nI t67) i76 i78, (ma 0, .inl (y 0, 1600, .inl (tby tx))), (ma 33, .inl (y 3, 2, .inl (WD 24)))]) rfl ?_
          refine j_lv (lv' := [(0, .ref mo)]) rfl ?_
          have hacy := rs_ac3 hRy_
          refine j_aload_n (pc := 137) C d_Model_goesOnTest_137 rfl 0 rfl ?_
          refine j_bipush (pc := 138) C (v := 14) d_Model_goesOnTest_138 (by decide) ?_
          refine j_callVi (pc := 140) C (c_M_isOn l D y mo ma t1 u585.1 t3 u585.2 0 i6 i7 i8 i42 i49 (nI yc) yn (nI oz) i59 i61 i64 i66 t67 i76 i78 g52 14 (by omega)) kw_Model_362 kv_Model_isOn 0 10 rfl rfl ⟨by decide, by decide⟩ ⟨by decide, by decide⟩ (wr := [(ma 50, .inl (y 0, 3200, .inl yf)), (ma 34, .inl (y 3, 3, .inl (WD 25))), (ma 0, .inl (y 0, 1600, .inl (tby tx))), (ma 33, .inl (y 3, 2, .inl (WD 24)))]) [3, 1] [0, 2, 4, 5] rfl rfl (by decide +kernel) (by decide +kernel) (by decide +kernel) (As := [.int 14]) (rest := []) rfl (nb rfl) rfl d_Model_goesOnTest_140 (fun r635 _ hr635 => ?_)
          refine j_ws (ws' := [(ma 50, .inl (y 0, 3200, .inl yf)), (ma 34, .inl (y 3, 3, .inl (WD 25))), (ma 0, .inl (y 0, 1600, .inl (tby tx))), (ma 33, .inl (y 3, 2, .inl (WD 24))), MB mo ma (nI t1) (nI u585.1) (nI t3) u585.2 0 i6 i7 i8 i42 i49 (nI yc) (nI yn) (nI oz) i59 i61 i64 i66 (nI t67) i76 i78, (ma 52, .inl (y 0, 1700, .inl g52))]) rfl ?_
          rcases hr635 with ⟨rfl, xh637⟩ | ⟨rfl, xh638, e639⟩
          · refine j_if_neF (pc := 143) C (tgt := 155) d_Model_goesOnTest_143 (by decide) (by decide) ?_
            refine j_aload_n (pc := 146) C d_Model_goesOnTest_146 rfl 0 rfl ?_
            refine j_bipush (pc := 147) C (v := 15) d_Model_goesOnTest_147 (by decide) ?_
            refine j_callVi (pc := 149) C (c_M_isOn l D y mo ma t1 u585.1 t3 u585.2 0 i6 i7 i8 i42 i49 (nI yc) yn (nI oz) i59 i61 i64 i66 t67 i76 i78 g52 15 (by omega)) kw_Model_362 kv_Model_isOn 0 10 rfl rfl ⟨by decide, by decide⟩ ⟨by decide, by decide⟩ (wr := [(ma 50, .inl (y 0, 3200, .inl yf)), (ma 34, .inl (y 3, 3, .inl (WD 25))), (ma 0, .inl (y 0, 1600, .inl (tby tx))), (ma 33, .inl (y 3, 2, .inl (WD 24)))]) [4, 5] [0, 1, 2, 3] rfl rfl (by decide +kernel) (by decide +kernel) (by decide +kernel) (As := [.int 15]) (rest := []) rfl (nb rfl) rfl d_Model_goesOnTest_149 (fun r640 _ hr640 => ?_)
            refine j_ws (ws' := [(ma 50, .inl (y 0, 3200, .inl yf)), (ma 34, .inl (y 3, 3, .inl (WD 25))), (ma 0, .inl (y 0, 1600, .inl (tby tx))), (ma 33, .inl (y 3, 2, .inl (WD 24))), MB mo ma (nI t1) (nI u585.1) (nI t3) u585.2 0 i6 i7 i8 i42 i49 (nI yc) (nI yn) (nI oz) i59 i61 i64 i66 (nI t67) i76 i78, (ma 52, .inl (y 0, 1700, .inl g52))]) rfl ?_
            rcases hr640 with ⟨rfl, xh642⟩ | ⟨rfl, xh643, e644⟩
            · refine j_if_eqT (pc := 152) C (tgt := 162) d_Model_goesOnTest_152 (by decide) (by decide) ?_
              have xh645 : drp isDO sz cz = (sy, cy) := hDy_.symm.trans (drp_no (fun v hv => do_no (on_no (c := 14) hWy_ xh637 v hv) (on_no (c := 15) hWy_ xh642 v hv)))
              have xh646 : Rcb tx t3 (1, (gs, cs, sk, oo)) (0, ((advS tx t3 gz), cy, (15 :: sy), oz)) := hrc_.tr (Rcb.st ((stG _ _ _ _).trans ((sG_24 xh593).trans (by rw [xh645]))) (Rcb.rf _))
              refine j_aload_n (pc := 162) C d_Model_goesOnTest_162 rfl 0 rfl ?_
              refine j_get (pc := 163) C gf_Model_139 4 rfl rfl d_Model_goesOnTest_163 ?_
              refine j_aload_n (pc := 166) C d_Model_goesOnTest_166 rfl 0 rfl ?_
              refine j_get (pc := 167) C gf_Model_292 4 rfl rfl d_Model_goesOnTest_167 ?_
              refine j_bipush (pc := 170) C (v := 15) d_Model_goesOnTest_170 (by decide) ?_
              refine j_iast (pc := 172) C 5 rfl (ws' := [(ma 50, .inl (y 0, 3200, .inl yf)), (ma 34, .inl (y 3, 3, .inl (WD 25))), (ma 0, .inl (y 0, 1600, .inl (tby tx))), (ma 33, .inl (y 3, 2, .inl (WD 24))), MB mo ma (nI t1) (nI u585.1) (nI t3) u585.2 0 i6 i7 i8 i42 i49 (nI yc) (nI yn) (nI oz) i59 i61 i64 i66 (nI t67) i76 i78, (ma 52, .inl (y 0, 1700, .inl (upd g52 yn 15)))]) (vp_in_nI (by omega) (by decide)) (by rw [nI_clamp (by omega)]; rfl) d_Model_goesOnTest_172 ?_
              refine j_aload_n (pc := 173) C d_Model_goesOnTest_173 rfl 0 rfl ?_
              refine j_dup (pc := 174) C d_Model_goesOnTest_174 rfl ?_
              refine j_get (pc := 175) C gf_Model_292 4 rfl rfl d_Model_goesOnTest_175 ?_
              refine j_iconst (pc := 178) C (v := 1) d_Model_goesOnTest_178 (by decide) ?_
              refine j_iadd (pc := 179) C (v := nI (yn + 1)) d_Model_goesOnTest_179 (nI_add _ _) ?_
              refine j_put (pc := 180) C pf_Model_292 4 (ws' := [(ma 50, .inl (y 0, 3200, .inl yf)), (ma 34, .inl (y 3, 3, .inl (WD 25))), (ma 0, .inl (y 0, 1600, .inl (tby tx))), (ma 33, .inl (y 3, 2, .inl (WD 24))), MB mo ma (nI t1) (nI u585.1) (nI t3) u585.2 0 i6 i7 i8 i42 i49 (nI yc) (nI (yn + 1)) (nI oz) i59 i61 i64 i66 (nI t67) i76 i78, (ma 52, .inl (y 0, 1700, .inl (upd g52 yn 15)))]) rfl rfl rfl (nl rfl) rfl d_Model_goesOnTest_180 ?_
              refine j_iconst (pc := 183) C (v := 1) d_Model_goesOnTest_183 (by decide) ?_
              exact j_iret (pc := 184) C hr (by decide) (u585.1, u585.2, 0, i6, yc, (yn + 1), oz, yf, (upd g52 yn 15), (advS tx t3 gz), cy, (15 :: sy)) ⟨(show t2 ≤ u585.1 by omega), (show u585.1 ≤ t3 by omega), (fun _ => ⟨rfl, show t2 ≤ u585.1 by omega⟩), (it_push (it_le hTT (show yn ≤ wn by omega)) (by decide)), xh592, (show oz ≤ 6 by omega), (Or.inl ⟨rfl, rfl, rs_op hRy_ (by decide) (show az < u585.1 by omega), xh646, hCy_, wb_push hWy_ (by decide), opn_op hOy_ (by decide)⟩)⟩ [4, 2, 3, 1, 0, 5] rfl (by decide) (by decide) (by decide) d_Model_goesOnTest_184
            · refine j_if_eqF (pc := 152) C (tgt := 162) d_Model_goesOnTest_152 (by decide) (by decide) ?_
              obtain ⟨vq647, sq648, xh649, xh650, xh651, xh652⟩ := wb_top hWy_ (show 0 < yn by omega)
              have xh653 : vq647 = 15 := on_yes xh650 xh651 (by decide) e644
              refine j_aload_n (pc := 155) C d_Model_goesOnTest_155 rfl 0 rfl ?_
              refine j_callVv (pc := 156) C (c_M_drops l D y mo ma t1 u585.1 t3 u585.2 0 i6 i7 i8 i42 i49 yc yn (nI oz) i59 i61 i64 i66 t67 i76 i78 yf g52 (by omega) (by omega) (by omega)) kw_Model_350 kv_Model_drops 0 10 rfl rfl ⟨by decide, by decide⟩ ⟨by decide, by decide⟩ (wr := [(ma 34, .inl (y 3, 3, .inl (WD 25))), (ma 0, .inl (y 0, 1600, .inl (tby tx))), (ma 33, .inl (y 3, 2, .inl (WD 24)))]) [4, 0, 5] [1, 2, 3] rfl rfl (by decide +kernel) (by decide +kernel) (by decide +kernel) (As := []) (rest := []) rfl (nb rfl) rfl d_Model_goesOnTest_156 (fun _ _ => ?_)
              refine j_ws (ws' := [(ma 34, .inl (y 3, 3, .inl (WD 25))), (ma 0, .inl (y 0, 1600, .inl (tby tx))), (ma 33, .inl (y 3, 2, .inl (WD 24))), MB mo ma (nI t1) (nI u585.1) (nI t3) u585.2 0 i6 i7 i8 i42 i49 (nI (yc + 1)) (nI (yn - 1)) (nI oz) i59 i61 i64 i66 (nI t67) i76 i78, (ma 50, .inl (y 0, 3200, .inl (upd yf yc (g52 (yn - 1))))), (ma 52, .inl (y 0, 1700, .inl g52))]) rfl ?_
              refine j_goto (pc := 159) C (tgt := 137) d_Model_goesOnTest_159 (by decide) ?_
              refine j_sub (ws' := [(ma 50, .inl (y 0, 3200, .inl (upd yf yc (g52 (yn - 1))))), (ma 52, .inl (y 0, 1700, .inl g52)), (ma 34, .inl (y 3, 3, .inl (WD 25))), MB mo ma (nI t1) (nI u585.1) (nI t3) u585.2 0 i6 i7 i8 i42 i49 (nI (yc + 1)) (nI (yn - 1)) (nI oz) i59 i61 i64 i66 (nI t67) i76 i78, (ma 0, .inl (y 0, 1600, .inl (tby tx))), (ma 33, .inl (y 3, 2, .inl (WD 24)))]) [4, 5, 0, 3, 1, 2] rfl (by decide +kernel) ?_
              exact ih634 ((yc + 1), (yn - 1), (upd yf yc (g52 (yn - 1))), sq648, (putS vq647 cy)) ⟨(show (yn - 1) ≤ zn by omega), (show RS kq s0 f0 (xx + 1) 0 (upd yf yc (g52 (yn - 1))) g52 (yc + 1) (yn - 1) az from rs_drop hRy_ (by omega) (show yn = yn - 1 + 1 by omega) (Or.inr (by rw [e644]; decide))), xh652, (show CD (putS vq647 cy) (upd yf yc (g52 (yn - 1))) (yc + 1) from cd_put hCy_ (by omega) xh650 (by omega)), (show drp isDO sq648 (putS vq647 cy) = drp isDO sz cz by rw [← hDy_, xh649]; exact (drp_go (by rw [xh653]; decide)).symm), (opn_tl (by have hq := hOy_; rw [xh649] at hq; exact hq))⟩ (show (yn - 1) < yn by omega)
          · refine j_if_neT (pc := 143) C (tgt := 155) d_Model_goesOnTest_143 (by decide) (by decide) ?_
            obtain ⟨vq654, sq655, xh656, xh657, xh658, xh659⟩ := wb_top hWy_ (show 0 < yn by omega)
            have xh660 : vq654 = 14 := on_yes xh657 xh658 (by decide) e639
            refine j_aload_n (pc := 155) C d_Model_goesOnTest_155 rfl 0 rfl ?_
            refine j_callVv (pc := 156) C (c_M_drops l D y mo ma t1 u585.1 t3 u585.2 0 i6 i7 i8 i42 i49 yc yn (nI oz) i59 i61 i64 i66 t67 i76 i78 yf g52 (by omega) (by omega) (by omega)) kw_Model_350 kv_Model_drops 0 10 rfl rfl ⟨by decide, by decide⟩ ⟨by decide, by decide⟩ (wr := [(ma 34, .inl (y 3, 3, .inl (WD 25))), (ma 0, .inl (y 0, 1600, .inl (tby tx))), (ma 33, .inl (y 3, 2, .inl (WD 24)))]) [4, 0, 5] [1, 2, 3] rfl rfl (by decide +kernel) (by decide +kernel) (by decide +kernel) (As := []) (rest := []) rfl (nb rfl) rfl d_Model_goesOnTest_156 (fun _ _ => ?_)
            refine j_ws (ws' := [(ma 34, .inl (y 3, 3, .inl (WD 25))), (ma 0, .inl (y 0, 1600, .inl (tby tx))), (ma 33, .inl (y 3, 2, .inl (WD 24))), MB mo ma (nI t1) (nI u585.1) (nI t3) u585.2 0 i6 i7 i8 i42 i49 (nI (yc + 1)) (nI (yn - 1)) (nI oz) i59 i61 i64 i66 (nI t67) i76 i78, (ma 50, .inl (y 0, 3200, .inl (upd yf yc (g52 (yn - 1))))), (ma 52, .inl (y 0, 1700, .inl g52))]) rfl ?_
            refine j_goto (pc := 159) C (tgt := 137) d_Model_goesOnTest_159 (by decide) ?_
            refine j_sub (ws' := [(ma 50, .inl (y 0, 3200, .inl (upd yf yc (g52 (yn - 1))))), (ma 52, .inl (y 0, 1700, .inl g52)), (ma 34, .inl (y 3, 3, .inl (WD 25))), MB mo ma (nI t1) (nI u585.1) (nI t3) u585.2 0 i6 i7 i8 i42 i49 (nI (yc + 1)) (nI (yn - 1)) (nI oz) i59 i61 i64 i66 (nI t67) i76 i78, (ma 0, .inl (y 0, 1600, .inl (tby tx))), (ma 33, .inl (y 3, 2, .inl (WD 24)))]) [4, 5, 0, 3, 1, 2] rfl (by decide +kernel) ?_
            exact ih634 ((yc + 1), (yn - 1), (upd yf yc (g52 (yn - 1))), sq655, (putS vq654 cy)) ⟨(show (yn - 1) ≤ zn by omega), (show RS kq s0 f0 (xx + 1) 0 (upd yf yc (g52 (yn - 1))) g52 (yc + 1) (yn - 1) az from rs_drop hRy_ (by omega) (show yn = yn - 1 + 1 by omega) (Or.inr (by rw [e639]; decide))), xh659, (show CD (putS vq654 cy) (upd yf yc (g52 (yn - 1))) (yc + 1) from cd_put hCy_ (by omega) xh657 (by omega)), (show drp isDO sq655 (putS vq654 cy) = drp isDO sz cz by rw [← hDy_, xh656]; exact (drp_go (by rw [xh660]; decide)).symm), (opn_tl (by have hq := hOy_; rw [xh656] at hq; exact hq))⟩ (show (yn - 1) < yn by omega)
      · refine j_if_eqF (pc := 84) C (tgt := 126) d_Model_goesOnTest_84 (by decide) (by decide) ?_
        refine j_loop (α := Nat × Nat × (Nat → Int32) × List Nat × List Nat) (fun a => a.2.1) (fun a => (a.2.1 ≤ zn) ∧ (RS kq s0 f0 (xx + 1) 0 a.2.2.1 g52 a.1 a.2.1 az) ∧ (WB a.2.2.2.1 g52 0 a.2.1) ∧ (CD a.2.2.2.2 a.2.2.1 a.1) ∧ (drp isN a.2.2.2.1 a.2.2.2.2 = drp isN sz cz) ∧ (opn a.2.2.2.1 ≤ oz)) (fun a => [(ma 33, .inl (y 3, 2, .inl (WD 24))), (ma 50, .inl (y 0, 3200, .inl a.2.2.1)), (ma 52, .inl (y 0, 1700, .inl g52)), MB mo ma (nI t1) (nI u574.1) (nI t3) u574.2 0 i6 i7 i8 i42 i49 (nI a.1) (nI a.2.1) (nI oz) i59 i61 i64 i66 (nI t67) i76 i78, (ma 0, .inl (y 0, 1600, .inl (tby tx))), (ma 34, .inl (y 3, 3, .inl (WD 25)))]) (fun a => [(0, .ref mo)]) (zc, zn, zf, sz, cz) rfl rfl ⟨(show zn ≤ zn by omega), hR_, hwz_, hcz_, rfl, hoz_⟩ ?_
        rintro ⟨yc, yn, yf, sy, cy⟩ hP675 ih676
        obtain ⟨hny__, hRy__, hWy__, hCy__, hDy__, hOy__⟩ := hP675
        have hny_ : yn ≤ zn := hny__
        have hRy_ : RS kq s0 f0 (xx + 1) 0 yf g52 yc yn az := hRy__
        have hWy_ : WB sy g52 0 yn := hWy__
        have hCy_ : CD cy yf yc := hCy__
        have hDy_ : drp isN sy cy = drp isN sz cz := hDy__
        have hOy_ : opn sy ≤ oz := hOy__
        refine j_ws (ws' := [(ma 33, .inl (y 3, 2, .inl (WD 24))), (ma 50, .inl (y 0, 3200, .inl yf)), (ma 52, .inl (y 0, 1700, .inl g52)), MB mo ma (nI t1) (nI u574.1) (nI t3) u574.2 0 i6 i7 i8 i42 i49 (nI yc) (nI yn) (nI oz) i59 i61 i64 i66 (nI t67) i76 i78, (ma 0, .inl (y 0, 1600, .inl (tby tx))), (ma 34, .inl (y 3, 3, .inl (WD 25)))]) rfl ?_
        refine j_lv (lv' := [(0, .ref mo)]) rfl ?_
        have hacy := rs_ac3 hRy_
        refine j_aload_n (pc := 87) C d_Model_goesOnTest_87 rfl 0 rfl ?_
        refine j_bipush (pc := 88) C (v := 14) d_Model_goesOnTest_88 (by decide) ?_
        refine j_callVi (pc := 90) C (c_M_isOn l D y mo ma t1 u574.1 t3 u574.2 0 i6 i7 i8 i42 i49 (nI yc) yn (nI oz) i59 i61 i64 i66 t67 i76 i78 g52 14 (by omega)) kw_Model_362 kv_Model_isOn 0 10 rfl rfl ⟨by decide, by decide⟩ ⟨by decide, by decide⟩ (wr := [(ma 33, .inl (y 3, 2, .inl (WD 24))), (ma 50, .inl (y 0, 3200, .inl yf)), (ma 0, .inl (y 0, 1600, .inl (tby tx))), (ma 34, .inl (y 3, 3, .inl (WD 25)))]) [3, 2] [0, 1, 4, 5] rfl rfl (by decide +kernel) (by decide +kernel) (by decide +kernel) (As := [.int 14]) (rest := []) rfl (nb rfl) rfl d_Model_goesOnTest_90 (fun r677 _ hr677 => ?_)
        refine j_ws (ws' := [(ma 33, .inl (y 3, 2, .inl (WD 24))), (ma 50, .inl (y 0, 3200, .inl yf)), (ma 0, .inl (y 0, 1600, .inl (tby tx))), (ma 34, .inl (y 3, 3, .inl (WD 25))), MB mo ma (nI t1) (nI u574.1) (nI t3) u574.2 0 i6 i7 i8 i42 i49 (nI yc) (nI yn) (nI oz) i59 i61 i64 i66 (nI t67) i76 i78, (ma 52, .inl (y 0, 1700, .inl g52))]) rfl ?_
        rcases hr677 with ⟨rfl, xh679⟩ | ⟨rfl, xh680, e681⟩
        · refine j_if_eqT (pc := 93) C (tgt := 103) d_Model_goesOnTest_93 (by decide) (by decide) ?_
          have xh682 : drp isN sz cz = (sy, cy) := hDy_.symm.trans (drp_no (fun v hv => n_no (on_no (c := 14) hWy_ xh679 v hv)))
          have xh683 : Rcb tx t3 (1, (gs, cs, sk, oo)) (0, ((advS tx t3 gz), cy, (14 :: sy), oz)) := hrc_.tr (Rcb.st ((stG _ _ _ _).trans ((sG_25 xh582).trans (by rw [xh682]))) (Rcb.rf _))
          refine j_aload_n (pc := 103) C d_Model_goesOnTest_103 rfl 0 rfl ?_
          refine j_get (pc := 104) C gf_Model_139 4 rfl rfl d_Model_goesOnTest_104 ?_
          refine j_aload_n (pc := 107) C d_Model_goesOnTest_107 rfl 0 rfl ?_
          refine j_get (pc := 108) C gf_Model_292 4 rfl rfl d_Model_goesOnTest_108 ?_
          refine j_bipush (pc := 111) C (v := 14) d_Model_goesOnTest_111 (by decide) ?_
          refine j_iast (pc := 113) C 5 rfl (ws' := [(ma 33, .inl (y 3, 2, .inl (WD 24))), (ma 50, .inl (y 0, 3200, .inl yf)), (ma 0, .inl (y 0, 1600, .inl (tby tx))), (ma 34, .inl (y 3, 3, .inl (WD 25))), MB mo ma (nI t1) (nI u574.1) (nI t3) u574.2 0 i6 i7 i8 i42 i49 (nI yc) (nI yn) (nI oz) i59 i61 i64 i66 (nI t67) i76 i78, (ma 52, .inl (y 0, 1700, .inl (upd g52 yn 14)))]) (vp_in_nI (by omega) (by decide)) (by rw [nI_clamp (by omega)]; rfl) d_Model_goesOnTest_113 ?_
          refine j_aload_n (pc := 114) C d_Model_goesOnTest_114 rfl 0 rfl ?_
          refine j_dup (pc := 115) C d_Model_goesOnTest_115 rfl ?_
          refine j_get (pc := 116) C gf_Model_292 4 rfl rfl d_Model_goesOnTest_116 ?_
          refine j_iconst (pc := 119) C (v := 1) d_Model_goesOnTest_119 (by decide) ?_
          refine j_iadd (pc := 120) C (v := nI (yn + 1)) d_Model_goesOnTest_120 (nI_add _ _) ?_
          refine j_put (pc := 121) C pf_Model_292 4 (ws' := [(ma 33, .inl (y 3, 2, .inl (WD 24))), (ma 50, .inl (y 0, 3200, .inl yf)), (ma 0, .inl (y 0, 1600, .inl (tby tx))), (ma 34, .inl (y 3, 3, .inl (WD 25))), MB mo ma (nI t1) (nI u574.1) (nI t3) u574.2 0 i6 i7 i8 i42 i49 (nI yc) (nI (yn + 1)) (nI oz) i59 i61 i64 i66 (nI t67) i76 i78, (ma 52, .inl (y 0, 1700, .inl (upd g52 yn 14)))]) rfl rfl rfl (nl rfl) rfl d_Model_goesOnTest_121 ?_
          refine j_iconst (pc := 124) C (v := 1) d_Model_goesOnTest_124 (by decide) ?_
          exact j_iret (pc := 125) C hr (by decide) (u574.1, u574.2, 0, i6, yc, (yn + 1), oz, yf, (upd g52 yn 14), (advS tx t3 gz), cy, (14 :: sy)) ⟨(show t2 ≤ u574.1 by omega), (show u574.1 ≤ t3 by omega), (fun _ => ⟨rfl, show t2 ≤ u574.1 by omega⟩), (it_push (it_le hTT (show yn ≤ wn by omega)) (by decide)), xh581, (show oz ≤ 6 by omega), (Or.inl ⟨rfl, rfl, rs_op hRy_ (by decide) (show az < u574.1 by omega), xh683, hCy_, wb_push hWy_ (by decide), opn_op hOy_ (by decide)⟩)⟩ [4, 2, 0, 3, 1, 5] rfl (by decide) (by decide) (by decide) d_Model_goesOnTest_125
        · refine j_if_eqF (pc := 93) C (tgt := 103) d_Model_goesOnTest_93 (by decide) (by decide) ?_
          obtain ⟨vq684, sq685, xh686, xh687, xh688, xh689⟩ := wb_top hWy_ (show 0 < yn by omega)
          have xh690 : vq684 = 14 := on_yes xh687 xh688 (by decide) e681
          refine j_aload_n (pc := 96) C d_Model_goesOnTest_96 rfl 0 rfl ?_
          refine j_callVv (pc := 97) C (c_M_drops l D y mo ma t1 u574.1 t3 u574.2 0 i6 i7 i8 i42 i49 yc yn (nI oz) i59 i61 i64 i66 t67 i76 i78 yf g52 (by omega) (by omega) (by omega)) kw_Model_350 kv_Model_drops 0 10 rfl rfl ⟨by decide, by decide⟩ ⟨by decide, by decide⟩ (wr := [(ma 33, .inl (y 3, 2, .inl (WD 24))), (ma 0, .inl (y 0, 1600, .inl (tby tx))), (ma 34, .inl (y 3, 3, .inl (WD 25)))]) [4, 1, 5] [0, 2, 3] rfl rfl (by decide +kernel) (by decide +kernel) (by decide +kernel) (As := []) (rest := []) rfl (nb rfl) rfl d_Model_goesOnTest_97 (fun _ _ => ?_)
          refine j_ws (ws' := [(ma 33, .inl (y 3, 2, .inl (WD 24))), (ma 0, .inl (y 0, 1600, .inl (tby tx))), (ma 34, .inl (y 3, 3, .inl (WD 25))), MB mo ma (nI t1) (nI u574.1) (nI t3) u574.2 0 i6 i7 i8 i42 i49 (nI (yc + 1)) (nI (yn - 1)) (nI oz) i59 i61 i64 i66 (nI t67) i76 i78, (ma 50, .inl (y 0, 3200, .inl (upd yf yc (g52 (yn - 1))))), (ma 52, .inl (y 0, 1700, .inl g52))]) rfl ?_
          refine j_goto (pc := 100) C (tgt := 87) d_Model_goesOnTest_100 (by decide) ?_
          refine j_sub (ws' := [(ma 33, .inl (y 3, 2, .inl (WD 24))), (ma 50, .inl (y 0, 3200, .inl (upd yf yc (g52 (yn - 1))))), (ma 52, .inl (y 0, 1700, .inl g52)), MB mo ma (nI t1) (nI u574.1) (nI t3) u574.2 0 i6 i7 i8 i42 i49 (nI (yc + 1)) (nI (yn - 1)) (nI oz) i59 i61 i64 i66 (nI t67) i76 i78, (ma 0, .inl (y 0, 1600, .inl (tby tx))), (ma 34, .inl (y 3, 3, .inl (WD 25)))]) [0, 4, 5, 3, 1, 2] rfl (by decide +kernel) ?_
          exact ih676 ((yc + 1), (yn - 1), (upd yf yc (g52 (yn - 1))), sq685, (putS vq684 cy)) ⟨(show (yn - 1) ≤ zn by omega), (show RS kq s0 f0 (xx + 1) 0 (upd yf yc (g52 (yn - 1))) g52 (yc + 1) (yn - 1) az from rs_drop hRy_ (by omega) (show yn = yn - 1 + 1 by omega) (Or.inr (by rw [e681]; decide))), xh689, (show CD (putS vq684 cy) (upd yf yc (g52 (yn - 1))) (yc + 1) from cd_put hCy_ (by omega) xh687 (by omega)), (show drp isN sq685 (putS vq684 cy) = drp isN sz cz by rw [← hDy_, xh686]; exact (drp_go (by rw [xh690]; decide)).symm), (opn_tl (by have hq := hOy_; rw [xh686] at hq; exact hq))⟩ (show (yn - 1) < yn by omega)
    · refine j_icmp_neF (pc := 13) C (tgt := 76) d_Model_goesOnTest_13 (by decide) (show nI (tx u441) = nI 93 from (nI_eq (by omega) (by omega)).mpr (by omega)) ?_
      refine j_aload_n (pc := 16) C d_Model_goesOnTest_16 rfl 0 rfl ?_
      refine j_callVi (pc := 17) C (c_M_hasSquare l D y mo ma t1 u441 t3 i4 0 i6 i7 i8 i42 i49 (nI zc) zn (nI oz) i59 i61 i64 i66 t67 i76 i78 g52 sz (by omega) hwz_) kw_Model_380 kv_Model_hasSquare 0 10 rfl rfl ⟨by decide, by decide⟩ ⟨by decide, by decide⟩ (wr := [(ma 33, .inl (y 3, 2, .inl (WD 24))), (ma 34, .inl (y 3, 3, .inl (WD 25))), (ma 50, .inl (y 0, 3200, .inl zf)), (ma 0, .inl (y 0, 1600, .inl (tby tx)))]) [4, 3] [0, 1, 2, 5] rfl rfl (by decide +kernel) (by decide +kernel) (by decide +kernel) (As := []) (rest := []) rfl (nb rfl) rfl d_Model_goesOnTest_17 (fun r691 _ hr691 => ?_)
      refine j_ws (ws' := [(ma 33, .inl (y 3, 2, .inl (WD 24))), (ma 34, .inl (y 3, 3, .inl (WD 25))), (ma 50, .inl (y 0, 3200, .inl zf)), (ma 0, .inl (y 0, 1600, .inl (tby tx))), MB mo ma (nI t1) (nI u441) (nI t3) i4 0 i6 i7 i8 i42 i49 (nI zc) (nI zn) (nI oz) i59 i61 i64 i66 (nI t67) i76 i78, (ma 52, .inl (y 0, 1700, .inl g52))]) rfl ?_
      rcases hr691 with ⟨rfl, xh693⟩ | ⟨rfl, xh694⟩
      · refine j_if_eqT (pc := 20) C (tgt := 76) d_Model_goesOnTest_20 (by decide) (by decide) ?_
        have xh695 : ¬ (issS tx t3 93 gz = true ∧ 25 ∈ sz) := (fun q => xh693 q.2)
        have xh696 : gz.1 = 0 := ((rr_z xh445).mp rfl)
        refine j_aload_n (pc := 76) C d_Model_goesOnTest_76 rfl 0 rfl ?_
        refine j_aload_n (pc := 77) C d_Model_goesOnTest_77 rfl 0 rfl ?_
        refine j_get (pc := 78) C gf_Model_93 4 rfl rfl d_Model_goesOnTest_78 ?_
        refine j_callVi (pc := 81) C (c_M_takes_3 l D y mo (ma 34) ma t1 u441 t3 i4 0 i6 i7 i8 i42 i49 (nI zc) (nI zn) (nI oz) i59 i61 i64 i66 t67 i76 i78 tx 25 gz xh443 he hB xh445 (by omega) (by decide)) kw_Model_228 kv_Model_takes 0 10 rfl rfl ⟨by decide, by decide⟩ ⟨by decide, by decide⟩ (wr := [(ma 33, .inl (y 3, 2, .inl (WD 24))), (ma 50, .inl (y 0, 3200, .inl zf)), (ma 52, .inl (y 0, 1700, .inl g52))]) [4, 3, 1] [0, 2, 5] rfl rfl (by decide +kernel) (by decide +kernel) (by decide +kernel) (As := [.ref (ma 34)]) (rest := []) rfl (nb rfl) rfl d_Model_goesOnTest_81 (fun r697 u698 hr697 => ?_)
        refine j_ws (ws' := [(ma 33, .inl (y 3, 2, .inl (WD 24))), (ma 50, .inl (y 0, 3200, .inl zf)), (ma 52, .inl (y 0, 1700, .inl g52)), MB mo ma (nI t1) (nI u698.1) (nI t3) u698.2 0 i6 i7 i8 i42 i49 (nI zc) (nI zn) (nI oz) i59 i61 i64 i66 (nI t67) i76 i78, (ma 0, .inl (y 0, 1600, .inl (tby tx))), (ma 34, .inl (y 3, 3, .inl (WD 25)))]) rfl ?_
        obtain ⟨xh699, xh700, xh701⟩ := hr697
        rcases xh701 with ⟨rfl, xh702, xh703, xh704⟩ | ⟨rfl, xh705, xh706, xh707⟩
        · refine j_if_eqT (pc := 84) C (tgt := 126) d_Model_goesOnTest_84 (by decide) (by decide) ?_
          refine j_aload_n (pc := 126) C d_Model_goesOnTest_126 rfl 0 rfl ?_
          refine j_aload_n (pc := 127) C d_Model_goesOnTest_127 rfl 0 rfl ?_
          refine j_get (pc := 128) C gf_Model_90 3 rfl rfl d_Model_goesOnTest_128 ?_
          refine j_callVi (pc := 131) C (c_M_takes_2 l D y mo (ma 33) ma t1 u698.1 t3 u698.2 0 i6 i7 i8 i42 i49 (nI zc) (nI zn) (nI oz) i59 i61 i64 i66 t67 i76 i78 tx 24 gz xh700 he hB xh702 (by omega) (by decide)) kw_Model_228 kv_Model_takes 0 10 rfl rfl ⟨by decide, by decide⟩ ⟨by decide, by decide⟩ (wr := [(ma 50, .inl (y 0, 3200, .inl zf)), (ma 52, .inl (y 0, 1700, .inl g52)), (ma 34, .inl (y 3, 3, .inl (WD 25)))]) [3, 4, 0] [1, 2, 5] rfl rfl (by decide +kernel) (by decide +kernel) (by decide +kernel) (As := [.ref (ma 33)]) (rest := []) rfl (nb rfl) rfl d_Model_goesOnTest_131 (fun r708 u709 hr708 => ?_)
          refine j_ws (ws' := [(ma 50, .inl (y 0, 3200, .inl zf)), (ma 52, .inl (y 0, 1700, .inl g52)), (ma 34, .inl (y 3, 3, .inl (WD 25))), MB mo ma (nI t1) (nI u709.1) (nI t3) u709.2 0 i6 i7 i8 i42 i49 (nI zc) (nI zn) (nI oz) i59 i61 i64 i66 (nI t67) i76 i78, (ma 0, .inl (y 0, 1600, .inl (tby tx))), (ma 33, .inl (y 3, 2, .inl (WD 24)))]) rfl ?_
          obtain ⟨xh710, xh711, xh712⟩ := hr708
          rcases xh712 with ⟨rfl, xh713, xh714, xh715⟩ | ⟨rfl, xh716, xh717, xh718⟩
          · refine j_if_eqT (pc := 134) C (tgt := 185) d_Model_goesOnTest_134 (by decide) (by decide) ?_
            refine j_aload_n (pc := 185) C d_Model_goesOnTest_185 rfl 0 rfl ?_
            refine j_get (pc := 186) C gf_Model_201 3 rfl rfl d_Model_goesOnTest_186 ?_
            refine j_if_neF (pc := 189) C (tgt := 208) d_Model_goesOnTest_189 (by decide) (by decide) ?_
            refine j_aload_n (pc := 192) C d_Model_goesOnTest_192 rfl 0 rfl ?_
            refine j_callVi (pc := 193) C (c_M_hasSquare l D y mo ma t1 u709.1 t3 u709.2 0 i6 i7 i8 i42 i49 (nI zc) zn (nI oz) i59 i61 i64 i66 t67 i76 i78 g52 sz (by omega) hwz_) kw_Model_380 kv_Model_hasSquare 0 10 rfl rfl ⟨by decide, by decide⟩ ⟨by decide, by decide⟩ (wr := [(ma 50, .inl (y 0, 3200, .inl zf)), (ma 34, .inl (y 3, 3, .inl (WD 25))), (ma 0, .inl (y 0, 1600, .inl (tby tx))), (ma 33, .inl (y 3, 2, .inl (WD 24)))]) [3, 1] [0, 2, 4, 5] rfl rfl (by decide +kernel) (by decide +kernel) (by decide +kernel) (As := []) (rest := []) rfl (nb rfl) rfl d_Model_goesOnTest_193 (fun r719 _ hr719 => ?_)
            refine j_ws (ws' := [(ma 50, .inl (y 0, 3200, .inl zf)), (ma 34, .inl (y 3, 3, .inl (WD 25))), (ma 0, .inl (y 0, 1600, .inl (tby tx))), (ma 33, .inl (y 3, 2, .inl (WD 24))), MB mo ma (nI t1) (nI u709.1) (nI t3) u709.2 0 i6 i7 i8 i42 i49 (nI zc) (nI zn) (nI oz) i59 i61 i64 i66 (nI t67) i76 i78, (ma 52, .inl (y 0, 1700, .inl g52))]) rfl ?_
            rcases hr719 with ⟨rfl, xh721⟩ | ⟨rfl, xh722⟩
            · refine j_if_eqT (pc := 196) C (tgt := 208) d_Model_goesOnTest_196 (by decide) (by decide) ?_
              have xh723 : Rcb tx t3 (1, (gs, cs, sk, oo)) (2, (gz, cz, sz, oz)) := hrc_.tr (Rcb.st ((stG _ _ _ _).trans (sG_en2 xh696 xh703 xh714 xh721)) (Rcb.rf _))
              refine j_iconst (pc := 208) C (v := 0) d_Model_goesOnTest_208 (by decide) ?_
              exact j_iret (pc := 209) C hr (by decide) (u709.1, u709.2, 0, i6, zc, zn, oz, zf, g52, gz, cz, sz) ⟨(show t2 ≤ u709.1 by omega), (show u709.1 ≤ t3 by omega), (fun _ => ⟨rfl, show t2 ≤ u709.1 by omega⟩), (it_le hTT (by omega)), xh713, (show oz ≤ 6 by omega), (Or.inr ⟨rfl, (rs_at hR_ (show az ≤ u709.1 by omega)), (fun _ => ⟨sq_nsq hwz_ xh721, xh723, hcz_, hwz_, xh721⟩), (fun e => absurd rfl e)⟩)⟩ [4, 2, 3, 1, 0, 5] rfl (by decide) (by decide) (by decide) d_Model_goesOnTest_209
            · exact absurd xh722 xh693
          · refine j_if_eqF (pc := 134) C (tgt := 185) d_Model_goesOnTest_134 (by decide) (by decide) ?_
            refine j_loop (α := Nat × Nat × (Nat → Int32) × List Nat × List Nat) (fun a => a.2.1) (fun a => (a.2.1 ≤ zn) ∧ (RS kq s0 f0 (xx + 1) 0 a.2.2.1 g52 a.1 a.2.1 az) ∧ (WB a.2.2.2.1 g52 0 a.2.1) ∧ (CD a.2.2.2.2 a.2.2.1 a.1) ∧ (drp isDO a.2.2.2.1 a.2.2.2.2 = drp isDO sz cz) ∧ (opn a.2.2.2.1 ≤ oz)) (fun a => [(ma 50, .inl (y 0, 3200, .inl a.2.2.1)), (ma 52, .inl (y 0, 1700, .inl g52)), (ma 34, .inl (y 3, 3, .inl (WD 25))), MB mo ma (nI t1) (nI u709.1) (nI t3) u709.2 0 i6 i7 i8 i42 i49 (nI a.1) (nI a.2.1) (nI oz) i59 i61 i64 i66 (nI t67) i76 i78, (ma 0, .inl (y 0, 1600, .inl (tby tx))), (ma 33, .inl (y 3, 2, .inl (WD 24)))]) (fun a => [(0, .ref mo)]) (zc, zn, zf, sz, cz) rfl rfl ⟨(show zn ≤ zn by omega), hR_, hwz_, hcz_, rfl, hoz_⟩ ?_
            rintro ⟨yc, yn, yf, sy, cy⟩ hP750 ih751
            obtain ⟨hny__, hRy__, hWy__, hCy__, hDy__, hOy__⟩ := hP750
            have hny_ : yn ≤ zn := hny__
            have hRy_ : RS kq s0 f0 (xx + 1) 0 yf g52 yc yn az := hRy__
            have hWy_ : WB sy g52 0 yn := hWy__
            have hCy_ : CD cy yf yc := hCy__
            have hDy_ : drp isDO sy cy = drp isDO sz cz := hDy__
            have hOy_ : opn sy ≤ oz := hOy__
            refine j_ws (ws' := [(ma 50, .inl (y 0, 3200, .inl yf)), (ma 52, .inl (y 0, 1700, .inl g52)), (ma 34, .inl (y 3, 3, .inl (WD 25))), MB mo ma (nI t1) (nI u709.1) (nI t3) u709.2 0 i6 i7 i8 i42 i49 (nI yc) (nI yn) (nI oz) i59 i61 i64 i66 (nI t67) i76 i78, (ma 0, .inl (y 0, 1600, .inl (tby tx))), (ma 33, .inl (y 3, 2, .inl (WD 24)))]) rfl ?_
            refine j_lv (lv' := [(0, .ref mo)]) rfl ?_
            have hacy := rs_ac3 hRy_
            refine j_aload_n (pc := 137) C d_Model_goesOnTest_137 rfl 0 rfl ?_
            refine j_bipush (pc := 138) C (v := 14) d_Model_goesOnTest_138 (by decide) ?_
            refine j_callVi (pc := 140) C (c_M_isOn l D y mo ma t1 u709.1 t3 u709.2 0 i6 i7 i8 i42 i49 (nI yc) yn (nI oz) i59 i61 i64 i66 t67 i76 i78 g52 14 (by omega)) kw_Model_362 kv_Model_isOn 0 10 rfl rfl ⟨by decide, by decide⟩ ⟨by decide, by decide⟩ (wr := [(ma 50, .inl (y 0, 3200, .inl yf)), (ma 34, .inl (y 3, 3, .inl (WD 25))), (ma 0, .inl (y 0, 1600, .inl (tby tx))), (ma 33, .inl (y 3, 2, .inl (WD 24)))]) [3, 1] [0, 2, 4, 5] rfl rfl (by decide +kernel) (by decide +kernel) (by decide +kernel) (As := [.int 14]) (rest := []) rfl (nb rfl) rfl d_Model_goesOnTest_140 (fun r752 _ hr752 => ?_)
            refine j_ws (ws' := [(ma 50, .inl (y 0, 3200, .inl yf)), (ma 34, .inl (y 3, 3, .inl (WD 25))), (ma 0, .inl (y 0, 1600, .inl (tby tx))), (ma 33, .inl (y 3, 2, .inl (WD 24))), MB mo ma (nI t1) (nI u709.1) (nI t3) u709.2 0 i6 i7 i8 i42 i49 (nI yc) (nI yn) (nI oz) i59 i61 i64 i66 (nI t67) i76 i78, (ma 52, .inl (y 0, 1700, .inl g52))]) rfl ?_
            rcases hr752 with ⟨rfl, xh754⟩ | ⟨rfl, xh755, e756⟩
            · refine j_if_neF (pc := 143) C (tgt := 155) d_Model_goesOnTest_143 (by decide) (by decide) ?_
              refine j_aload_n (pc := 146) C d_Model_goesOnTest_146 rfl 0 rfl ?_
              refine j_bipush (pc := 147) C (v := 15) d_Model_goesOnTest_147 (by decide) ?_
              refine j_callVi (pc := 149) C (c_M_isOn l D y mo ma t1 u709.1 t3 u709.2 0 i6 i7 i8 i42 i49 (nI yc) yn (nI oz) i59 i61 i64 i66 t67 i76 i78 g52 15 (by omega)) kw_Model_362 kv_Model_isOn 0 10 rfl rfl ⟨by decide, by decide⟩ ⟨by decide, by decide⟩ (wr := [(ma 50, .inl (y 0, 3200, .inl yf)), (ma 34, .inl (y 3, 3, .inl (WD 25))), (ma 0, .inl (y 0, 1600, .inl (tby tx))), (ma 33, .inl (y 3, 2, .inl (WD 24)))]) [4, 5] [0, 1, 2, 3] rfl rfl (by decide +kernel) (by decide +kernel) (by decide +kernel) (As := [.int 15]) (rest := []) rfl (nb rfl) rfl d_Model_goesOnTest_149 (fun r757 _ hr757 => ?_)
              refine j_ws (ws' := [(ma 50, .inl (y 0, 3200, .inl yf)), (ma 34, .inl (y 3, 3, .inl (WD 25))), (ma 0, .inl (y 0, 1600, .inl (tby tx))), (ma 33, .inl (y 3, 2, .inl (WD 24))), MB mo ma (nI t1) (nI u709.1) (nI t3) u709.2 0 i6 i7 i8 i42 i49 (nI yc) (nI yn) (nI oz) i59 i61 i64 i66 (nI t67) i76 i78, (ma 52, .inl (y 0, 1700, .inl g52))]) rfl ?_
              rcases hr757 with ⟨rfl, xh759⟩ | ⟨rfl, xh760, e761⟩
              · refine j_if_eqT (pc := 152) C (tgt := 162) d_Model_goesOnTest_152 (by decide) (by decide) ?_
                have xh762 : drp isDO sz cz = (sy, cy) := hDy_.symm.trans (drp_no (fun v hv => do_no (on_no (c := 14) hWy_ xh754 v hv) (on_no (c := 15) hWy_ xh759 v hv)))
                have xh763 : Rcb tx t3 (1, (gs, cs, sk, oo)) (0, ((advS tx t3 gz), cy, (15 :: sy), oz)) := hrc_.tr (Rcb.st ((stG _ _ _ _).trans ((sG_24 xh717).trans (by rw [xh762]))) (Rcb.rf _))
                refine j_aload_n (pc := 162) C d_Model_goesOnTest_162 rfl 0 rfl ?_
                refine j_get (pc := 163) C gf_Model_139 4 rfl rfl d_Model_goesOnTest_163 ?_
                refine j_aload_n (pc := 166) C d_Model_goesOnTest_166 rfl 0 rfl ?_
                refine j_get (pc := 167) C gf_Model_292 4 rfl rfl d_Model_goesOnTest_167 ?_
                refine j_bipush (pc := 170) C (v := 15) d_Model_goesOnTest_170 (by decide) ?_
                refine j_iast (pc := 172) C 5 rfl (ws' := [(ma 50, .inl (y 0, 3200, .inl yf)), (ma 34, .inl (y 3, 3, .inl (WD 25))), (ma 0, .inl (y 0, 1600, .inl (tby tx))), (ma 33, .inl (y 3, 2, .inl (WD 24))), MB mo ma (nI t1) (nI u709.1) (nI t3) u709.2 0 i6 i7 i8 i42 i49 (nI yc) (nI yn) (nI oz) i59 i61 i64 i66 (nI t67) i76 i78, (ma 52, .inl (y 0, 1700, .inl (upd g52 yn 15)))]) (vp_in_nI (by omega) (by decide)) (by rw [nI_clamp (by omega)]; rfl) d_Model_goesOnTest_172 ?_
                refine j_aload_n (pc := 173) C d_Model_goesOnTest_173 rfl 0 rfl ?_
                refine j_dup (pc := 174) C d_Model_goesOnTest_174 rfl ?_
                refine j_get (pc := 175) C gf_Model_292 4 rfl rfl d_Model_goesOnTest_175 ?_
                refine j_iconst (pc := 178) C (v := 1) d_Model_goesOnTest_178 (by decide) ?_
                refine j_iadd (pc := 179) C (v := nI (yn + 1)) d_Model_goesOnTest_179 (nI_add _ _) ?_
                refine j_put (pc := 180) C pf_Model_292 4 (ws' := [(ma 50, .inl (y 0, 3200, .inl yf)), (ma 34, .inl (y 3, 3, .inl (WD 25))), (ma 0, .inl (y 0, 1600, .inl (tby tx))), (ma 33, .inl (y 3, 2, .inl (WD 24))), MB mo ma (nI t1) (nI u709.1) (nI t3) u709.2 0 i6 i7 i8 i42 i49 (nI yc) (nI (yn + 1)) (nI oz) i59 i61 i64 i66 (nI t67) i76 i78, (ma 52, .inl (y 0, 1700, .inl (upd g52 yn 15)))]) rfl rfl rfl (nl rfl) rfl d_Model_goesOnTest_180 ?_
                refine j_iconst (pc := 183) C (v := 1) d_Model_goesOnTest_183 (by decide) ?_
                exact j_iret (pc := 184) C hr (by decide) (u709.1, u709.2, 0, i6, yc, (yn + 1), oz, yf, (upd g52 yn 15), (advS tx t3 gz), cy, (15 :: sy)) ⟨(show t2 ≤ u709.1 by omega), (show u709.1 ≤ t3 by omega), (fun _ => ⟨rfl, show t2 ≤ u709.1 by omega⟩), (it_push (it_le hTT (show yn ≤ wn by omega)) (by decide)), xh716, (show oz ≤ 6 by omega), (Or.inl ⟨rfl, rfl, rs_op hRy_ (by decide) (show az < u709.1 by omega), xh763, hCy_, wb_push hWy_ (by decide), opn_op hOy_ (by decide)⟩)⟩ [4, 2, 3, 1, 0, 5] rfl (by decide) (by decide) (by decide) d_Model_goesOnTest_184
              · refine j_if_eqF (pc := 152) C (tgt := 162) d_Model_goesOnTest_152 (by decide) (by decide) ?_
                obtain ⟨vq764, sq765, xh766, xh767, xh768, xh769⟩ := wb_top hWy_ (show 0 < yn by omega)
                have xh770 : vq764 = 15 := on_yes xh767 xh768 (by decide) e761
                refine j_aload_n (pc := 155) C d_Model_goesOnTest_155 rfl 0 rfl ?_
                refine j_callVv (pc := 156) C (c_M_drops l D y mo ma t1 u709.1 t3 u709.2 0 i6 i7 i8 i42 i49 yc yn (nI oz) i59 i61 i64 i66 t67 i76 i78 yf g52 (by omega) (by omega) (by omega)) kw_Model_350 kv_Model_drops 0 10 rfl rfl ⟨by decide, by decide⟩ ⟨by decide, by decide⟩ (wr := [(ma 34, .inl (y 3, 3, .inl (WD 25))), (ma 0, .inl (y 0, 1600, .inl (tby tx))), (ma 33, .inl (y 3, 2, .inl (WD 24)))]) [4, 0, 5] [1, 2, 3] rfl rfl (by decide +kernel) (by decide +kernel) (by decide +kernel) (As := []) (rest := []) rfl (nb rfl) rfl d_Model_goesOnTest_156 (fun _ _ => ?_)
                refine j_ws (ws' := [(ma 34, .inl (y 3, 3, .inl (WD 25))), (ma 0, .inl (y 0, 1600, .inl (tby tx))), (ma 33, .inl (y 3, 2, .inl (WD 24))), MB mo ma (nI t1) (nI u709.1) (nI t3) u709.2 0 i6 i7 i8 i42 i49 (nI (yc + 1)) (nI (yn - 1)) (nI oz) i59 i61 i64 i66 (nI t67) i76 i78, (ma 50, .inl (y 0, 3200, .inl (upd yf yc (g52 (yn - 1))))), (ma 52, .inl (y 0, 1700, .inl g52))]) rfl ?_
                refine j_goto (pc := 159) C (tgt := 137) d_Model_goesOnTest_159 (by decide) ?_
                refine j_sub (ws' := [(ma 50, .inl (y 0, 3200, .inl (upd yf yc (g52 (yn - 1))))), (ma 52, .inl (y 0, 1700, .inl g52)), (ma 34, .inl (y 3, 3, .inl (WD 25))), MB mo ma (nI t1) (nI u709.1) (nI t3) u709.2 0 i6 i7 i8 i42 i49 (nI (yc + 1)) (nI (yn - 1)) (nI oz) i59 i61 i64 i66 (nI t67) i76 i78, (ma 0, .inl (y 0, 1600, .inl (tby tx))), (ma 33, .inl (y 3, 2, .inl (WD 24)))]) [4, 5, 0, 3, 1, 2] rfl (by decide +kernel) ?_
                exact ih751 ((yc + 1), (yn - 1), (upd yf yc (g52 (yn - 1))), sq765, (putS vq764 cy)) ⟨(show (yn - 1) ≤ zn by omega), (show RS kq s0 f0 (xx + 1) 0 (upd yf yc (g52 (yn - 1))) g52 (yc + 1) (yn - 1) az from rs_drop hRy_ (by omega) (show yn = yn - 1 + 1 by omega) (Or.inr (by rw [e761]; decide))), xh769, (show CD (putS vq764 cy) (upd yf yc (g52 (yn - 1))) (yc + 1) from cd_put hCy_ (by omega) xh767 (by omega)), (show drp isDO sq765 (putS vq764 cy) = drp isDO sz cz by rw [← hDy_, xh766]; exact (drp_go (by rw [xh770]; decide)).symm), (opn_tl (by have hq := hOy_; rw [xh766] at hq; exact hq))⟩ (show (yn - 1) < yn by omega)
            · refine j_if_neT (pc := 143) C (tgt := 155) d_Model_goesOnTest_143 (by decide) (by decide) ?_
              obtain ⟨vq771, sq772, xh773, xh774, xh775, xh776⟩ := wb_top hWy_ (show 0 < yn by omega)
              have xh777 : vq771 = 14 := on_yes xh774 xh775 (by decide) e756
              refine j_aload_n (pc := 155) C d_Model_goesOnTest_155 rfl 0 rfl ?_
              refine j_callVv (pc := 156) C (c_M_drops l D y mo ma t1 u709.1 t3 u709.2 0 i6 i7 i8 i42 i49 yc yn (nI oz) i59 i61 i64 i66 t67 i76 i78 yf g52 (by omega) (by omega) (by omega)) kw_Model_350 kv_Model_drops 0 10 rfl rfl ⟨by decide, by decide⟩ ⟨by decide, by decide⟩ (wr := [(ma 34, .inl (y 3, 3, .inl (WD 25))), (ma 0, .inl (y 0, 1600, .inl (tby tx))), (ma 33, .inl (y 3, 2, .inl (WD 24)))]) [4, 0, 5] [1, 2, 3] rfl rfl (by decide +kernel) (by decide +kernel) (by decide +kernel) (As := []) (rest := []) rfl (nb rfl) rfl d_Model_goesOnTest_156 (fun _ _ => ?_)
              refine j_ws (ws' := [(ma 34, .inl (y 3, 3, .inl (WD 25))), (ma 0, .inl (y 0, 1600, .inl (tby tx))), (ma 33, .inl (y 3, 2, .inl (WD 24))), MB mo ma (nI t1) (nI u709.1) (nI t3) u709.2 0 i6 i7 i8 i42 i49 (nI (yc + 1)) (nI (yn - 1)) (nI oz) i59 i61 i64 i66 (nI t67) i76 i78, (ma 50, .inl (y 0, 3200, .inl (upd yf yc (g52 (yn - 1))))), (ma 52, .inl (y 0, 1700, .inl g52))]) rfl ?_
              refine j_goto (pc := 159) C (tgt := 137) d_Model_goesOnTest_159 (by decide) ?_
              refine j_sub (ws' := [(ma 50, .inl (y 0, 3200, .inl (upd yf yc (g52 (yn - 1))))), (ma 52, .inl (y 0, 1700, .inl g52)), (ma 34, .inl (y 3, 3, .inl (WD 25))), MB mo ma (nI t1) (nI u709.1) (nI t3) u709.2 0 i6 i7 i8 i42 i49 (nI (yc + 1)) (nI (yn - 1)) (nI oz) i59 i61 i64 i66 (nI t67) i76 i78, (ma 0, .inl (y 0, 1600, .inl (tby tx))), (ma 33, .inl (y 3, 2, .inl (WD 24)))]) [4, 5, 0, 3, 1, 2] rfl (by decide +kernel) ?_
              exact ih751 ((yc + 1), (yn - 1), (upd yf yc (g52 (yn - 1))), sq772, (putS vq771 cy)) ⟨(show (yn - 1) ≤ zn by omega), (show RS kq s0 f0 (xx + 1) 0 (upd yf yc (g52 (yn - 1))) g52 (yc + 1) (yn - 1) az from rs_drop hRy_ (by omega) (show yn = yn - 1 + 1 by omega) (Or.inr (by rw [e756]; decide))), xh776, (show CD (putS vq771 cy) (upd yf yc (g52 (yn - 1))) (yc + 1) from cd_put hCy_ (by omega) xh774 (by omega)), (show drp isDO sq772 (putS vq771 cy) = drp isDO sz cz by rw [← hDy_, xh773]; exact (drp_go (by rw [xh777]; decide)).symm), (opn_tl (by have hq := hOy_; rw [xh773] at hq; exact hq))⟩ (show (yn - 1) < yn by omega)
        · refine j_if_eqF (pc := 84) C (tgt := 126) d_Model_goesOnTest_84 (by decide) (by decide) ?_
          refine j_loop (α := Nat × Nat × (Nat → Int32) × List Nat × List Nat) (fun a => a.2.1) (fun a => (a.2.1 ≤ zn) ∧ (RS kq s0 f0 (xx + 1) 0 a.2.2.1 g52 a.1 a.2.1 az) ∧ (WB a.2.2.2.1 g52 0 a.2.1) ∧ (CD a.2.2.2.2 a.2.2.1 a.1) ∧ (drp isN a.2.2.2.1 a.2.2.2.2 = drp isN sz cz) ∧ (opn a.2.2.2.1 ≤ oz)) (fun a => [(ma 33, .inl (y 3, 2, .inl (WD 24))), (ma 50, .inl (y 0, 3200, .inl a.2.2.1)), (ma 52, .inl (y 0, 1700, .inl g52)), MB mo ma (nI t1) (nI u698.1) (nI t3) u698.2 0 i6 i7 i8 i42 i49 (nI a.1) (nI a.2.1) (nI oz) i59 i61 i64 i66 (nI t67) i76 i78, (ma 0, .inl (y 0, 1600, .inl (tby tx))), (ma 34, .inl (y 3, 3, .inl (WD 25)))]) (fun a => [(0, .ref mo)]) (zc, zn, zf, sz, cz) rfl rfl ⟨(show zn ≤ zn by omega), hR_, hwz_, hcz_, rfl, hoz_⟩ ?_
          rintro ⟨yc, yn, yf, sy, cy⟩ hP792 ih793
          obtain ⟨hny__, hRy__, hWy__, hCy__, hDy__, hOy__⟩ := hP792
          have hny_ : yn ≤ zn := hny__
          have hRy_ : RS kq s0 f0 (xx + 1) 0 yf g52 yc yn az := hRy__
          have hWy_ : WB sy g52 0 yn := hWy__
          have hCy_ : CD cy yf yc := hCy__
          have hDy_ : drp isN sy cy = drp isN sz cz := hDy__
          have hOy_ : opn sy ≤ oz := hOy__
          refine j_ws (ws' := [(ma 33, .inl (y 3, 2, .inl (WD 24))), (ma 50, .inl (y 0, 3200, .inl yf)), (ma 52, .inl (y 0, 1700, .inl g52)), MB mo ma (nI t1) (nI u698.1) (nI t3) u698.2 0 i6 i7 i8 i42 i49 (nI yc) (nI yn) (nI oz) i59 i61 i64 i66 (nI t67) i76 i78, (ma 0, .inl (y 0, 1600, .inl (tby tx))), (ma 34, .inl (y 3, 3, .inl (WD 25)))]) rfl ?_
          refine j_lv (lv' := [(0, .ref mo)]) rfl ?_
          have hacy := rs_ac3 hRy_
          refine j_aload_n (pc := 87) C d_Model_goesOnTest_87 rfl 0 rfl ?_
          refine j_bipush (pc := 88) C (v := 14) d_Model_goesOnTest_88 (by decide) ?_
          refine j_callVi (pc := 90) C (c_M_isOn l D y mo ma t1 u698.1 t3 u698.2 0 i6 i7 i8 i42 i49 (nI yc) yn (nI oz) i59 i61 i64 i66 t67 i76 i78 g52 14 (by omega)) kw_Model_362 kv_Model_isOn 0 10 rfl rfl ⟨by decide, by decide⟩ ⟨by decide, by decide⟩ (wr := [(ma 33, .inl (y 3, 2, .inl (WD 24))), (ma 50, .inl (y 0, 3200, .inl yf)), (ma 0, .inl (y 0, 1600, .inl (tby tx))), (ma 34, .inl (y 3, 3, .inl (WD 25)))]) [3, 2] [0, 1, 4, 5] rfl rfl (by decide +kernel) (by decide +kernel) (by decide +kernel) (As := [.int 14]) (rest := []) rfl (nb rfl) rfl d_Model_goesOnTest_90 (fun r794 _ hr794 => ?_)
          refine j_ws (ws' := [(ma 33, .inl (y 3, 2, .inl (WD 24))), (ma 50, .inl (y 0, 3200, .inl yf)), (ma 0, .inl (y 0, 1600, .inl (tby tx))), (ma 34, .inl (y 3, 3, .inl (WD 25))), MB mo ma (nI t1) (nI u698.1) (nI t3) u698.2 0 i6 i7 i8 i42 i49 (nI yc) (nI yn) (nI oz) i59 i61 i64 i66 (nI t67) i76 i78, (ma 52, .inl (y 0, 1700, .inl g52))]) rfl ?_
          rcases hr794 with ⟨rfl, xh796⟩ | ⟨rfl, xh797, e798⟩
          · refine j_if_eqT (pc := 93) C (tgt := 103) d_Model_goesOnTest_93 (by decide) (by decide) ?_
            have xh799 : drp isN sz cz = (sy, cy) := hDy_.symm.trans (drp_no (fun v hv => n_no (on_no (c := 14) hWy_ xh796 v hv)))
            have xh800 : Rcb tx t3 (1, (gs, cs, sk, oo)) (0, ((advS tx t3 gz), cy, (14 :: sy), oz)) := hrc_.tr (Rcb.st ((stG _ _ _ _).trans ((sG_25 xh706).trans (by rw [xh799]))) (Rcb.rf _))
            refine j_aload_n (pc := 103) C d_Model_goesOnTest_103 rfl 0 rfl ?_
            refine j_get (pc := 104) C gf_Model_139 4 rfl rfl d_Model_goesOnTest_104 ?_
            refine j_aload_n (pc := 107) C d_Model_goesOnTest_107 rfl 0 rfl ?_
            refine j_get (pc := 108) C gf_Model_292 4 rfl rfl d_Model_goesOnTest_108 ?_
            refine j_bipush (pc := 111) C (v := 14) d_Model_goesOnTest_111 (by decide) ?_
            refine j_iast (pc := 113) C 5 rfl (ws' := [(ma 33, .inl (y 3, 2, .inl (WD 24))), (ma 50, .inl (y 0, 3200, .inl yf)), (ma 0, .inl (y 0, 1600, .inl (tby tx))), (ma 34, .inl (y 3, 3, .inl (WD 25))), MB mo ma (nI t1) (nI u698.1) (nI t3) u698.2 0 i6 i7 i8 i42 i49 (nI yc) (nI yn) (nI oz) i59 i61 i64 i66 (nI t67) i76 i78, (ma 52, .inl (y 0, 1700, .inl (upd g52 yn 14)))]) (vp_in_nI (by omega) (by decide)) (by rw [nI_clamp (by omega)]; rfl) d_Model_goesOnTest_113 ?_
            refine j_aload_n (pc := 114) C d_Model_goesOnTest_114 rfl 0 rfl ?_
            refine j_dup (pc := 115) C d_Model_goesOnTest_115 rfl ?_
            refine j_get (pc := 116) C gf_Model_292 4 rfl rfl d_Model_goesOnTest_116 ?_
            refine j_iconst (pc := 119) C (v := 1) d_Model_goesOnTest_119 (by decide) ?_
            refine j_iadd (pc := 120) C (v := nI (yn + 1)) d_Model_goesOnTest_120 (nI_add _ _) ?_
            refine j_put (pc := 121) C pf_Model_292 4 (ws' := [(ma 33, .inl (y 3, 2, .inl (WD 24))), (ma 50, .inl (y 0, 3200, .inl yf)), (ma 0, .inl (y 0, 1600, .inl (tby tx))), (ma 34, .inl (y 3, 3, .inl (WD 25))), MB mo ma (nI t1) (nI u698.1) (nI t3) u698.2 0 i6 i7 i8 i42 i49 (nI yc) (nI (yn + 1)) (nI oz) i59 i61 i64 i66 (nI t67) i76 i78, (ma 52, .inl (y 0, 1700, .inl (upd g52 yn 14)))]) rfl rfl rfl (nl rfl) rfl d_Model_goesOnTest_121 ?_
            refine j_iconst (pc := 124) C (v := 1) d_Model_goesOnTest_124 (by decide) ?_
            exact j_iret (pc := 125) C hr (by decide) (u698.1, u698.2, 0, i6, yc, (yn + 1), oz, yf, (upd g52 yn 14), (advS tx t3 gz), cy, (14 :: sy)) ⟨(show t2 ≤ u698.1 by omega), (show u698.1 ≤ t3 by omega), (fun _ => ⟨rfl, show t2 ≤ u698.1 by omega⟩), (it_push (it_le hTT (show yn ≤ wn by omega)) (by decide)), xh705, (show oz ≤ 6 by omega), (Or.inl ⟨rfl, rfl, rs_op hRy_ (by decide) (show az < u698.1 by omega), xh800, hCy_, wb_push hWy_ (by decide), opn_op hOy_ (by decide)⟩)⟩ [4, 2, 0, 3, 1, 5] rfl (by decide) (by decide) (by decide) d_Model_goesOnTest_125
          · refine j_if_eqF (pc := 93) C (tgt := 103) d_Model_goesOnTest_93 (by decide) (by decide) ?_
            obtain ⟨vq801, sq802, xh803, xh804, xh805, xh806⟩ := wb_top hWy_ (show 0 < yn by omega)
            have xh807 : vq801 = 14 := on_yes xh804 xh805 (by decide) e798
            refine j_aload_n (pc := 96) C d_Model_goesOnTest_96 rfl 0 rfl ?_
            refine j_callVv (pc := 97) C (c_M_drops l D y mo ma t1 u698.1 t3 u698.2 0 i6 i7 i8 i42 i49 yc yn (nI oz) i59 i61 i64 i66 t67 i76 i78 yf g52 (by omega) (by omega) (by omega)) kw_Model_350 kv_Model_drops 0 10 rfl rfl ⟨by decide, by decide⟩ ⟨by decide, by decide⟩ (wr := [(ma 33, .inl (y 3, 2, .inl (WD 24))), (ma 0, .inl (y 0, 1600, .inl (tby tx))), (ma 34, .inl (y 3, 3, .inl (WD 25)))]) [4, 1, 5] [0, 2, 3] rfl rfl (by decide +kernel) (by decide +kernel) (by decide +kernel) (As := []) (rest := []) rfl (nb rfl) rfl d_Model_goesOnTest_97 (fun _ _ => ?_)
            refine j_ws (ws' := [(ma 33, .inl (y 3, 2, .inl (WD 24))), (ma 0, .inl (y 0, 1600, .inl (tby tx))), (ma 34, .inl (y 3, 3, .inl (WD 25))), MB mo ma (nI t1) (nI u698.1) (nI t3) u698.2 0 i6 i7 i8 i42 i49 (nI (yc + 1)) (nI (yn - 1)) (nI oz) i59 i61 i64 i66 (nI t67) i76 i78, (ma 50, .inl (y 0, 3200, .inl (upd yf yc (g52 (yn - 1))))), (ma 52, .inl (y 0, 1700, .inl g52))]) rfl ?_
            refine j_goto (pc := 100) C (tgt := 87) d_Model_goesOnTest_100 (by decide) ?_
            refine j_sub (ws' := [(ma 33, .inl (y 3, 2, .inl (WD 24))), (ma 50, .inl (y 0, 3200, .inl (upd yf yc (g52 (yn - 1))))), (ma 52, .inl (y 0, 1700, .inl g52)), MB mo ma (nI t1) (nI u698.1) (nI t3) u698.2 0 i6 i7 i8 i42 i49 (nI (yc + 1)) (nI (yn - 1)) (nI oz) i59 i61 i64 i66 (nI t67) i76 i78, (ma 0, .inl (y 0, 1600, .inl (tby tx))), (ma 34, .inl (y 3, 3, .inl (WD 25)))]) [0, 4, 5, 3, 1, 2] rfl (by decide +kernel) ?_
            exact ih793 ((yc + 1), (yn - 1), (upd yf yc (g52 (yn - 1))), sq802, (putS vq801 cy)) ⟨(show (yn - 1) ≤ zn by omega), (show RS kq s0 f0 (xx + 1) 0 (upd yf yc (g52 (yn - 1))) g52 (yc + 1) (yn - 1) az from rs_drop hRy_ (by omega) (show yn = yn - 1 + 1 by omega) (Or.inr (by rw [e798]; decide))), xh806, (show CD (putS vq801 cy) (upd yf yc (g52 (yn - 1))) (yc + 1) from cd_put hCy_ (by omega) xh804 (by omega)), (show drp isN sq802 (putS vq801 cy) = drp isN sz cz by rw [← hDy_, xh803]; exact (drp_go (by rw [xh807]; decide)).symm), (opn_tl (by have hq := hOy_; rw [xh803] at hq; exact hq))⟩ (show (yn - 1) < yn by omega)
      · refine j_if_eqF (pc := 20) C (tgt := 76) d_Model_goesOnTest_20 (by decide) (by decide) ?_
        have hat := xh448
        have xh808 : issS tx t3 93 gz = true := (sg_yes ((rr_z xh445).mp rfl) xh444 xh448 (show tx u441 = 93 by omega) (by decide)).1
        refine j_aload_n (pc := 23) C d_Model_goesOnTest_23 rfl 0 rfl ?_
        refine j_dup (pc := 24) C d_Model_goesOnTest_24 rfl ?_
        refine j_get (pc := 25) C gf_Model_207 4 rfl rfl d_Model_goesOnTest_25 ?_
        refine j_iconst (pc := 28) C (v := 1) d_Model_goesOnTest_28 (by decide) ?_
        refine j_iadd (pc := 29) C (v := nI (u441 + 1)) d_Model_goesOnTest_29 (nI_add _ _) ?_
        refine j_put (pc := 30) C pf_Model_207 4 (ws' := [(ma 33, .inl (y 3, 2, .inl (WD 24))), (ma 34, .inl (y 3, 3, .inl (WD 25))), (ma 50, .inl (y 0, 3200, .inl zf)), (ma 0, .inl (y 0, 1600, .inl (tby tx))), MB mo ma (nI t1) (nI (u441 + 1)) (nI t3) i4 0 i6 i7 i8 i42 i49 (nI zc) (nI zn) (nI oz) i59 i61 i64 i66 (nI t67) i76 i78, (ma 52, .inl (y 0, 1700, .inl g52))]) rfl rfl rfl (nl rfl) rfl d_Model_goesOnTest_30 ?_
        refine j_loop (α := Nat × Nat × (Nat → Int32) × List Nat × List Nat) (fun a => a.2.1) (fun a => (a.2.1 ≤ zn) ∧ (RS kq s0 f0 (xx + 1) 0 a.2.2.1 g52 a.1 a.2.1 az) ∧ (WB a.2.2.2.1 g52 0 a.2.1) ∧ (CD a.2.2.2.2 a.2.2.1 a.1) ∧ (drp nSq a.2.2.2.1 a.2.2.2.2 = drp nSq sz cz) ∧ (opn a.2.2.2.1 ≤ oz) ∧ (25 ∈ a.2.2.2.1)) (fun a => [(ma 33, .inl (y 3, 2, .inl (WD 24))), (ma 34, .inl (y 3, 3, .inl (WD 25))), (ma 50, .inl (y 0, 3200, .inl a.2.2.1)), (ma 0, .inl (y 0, 1600, .inl (tby tx))), MB mo ma (nI t1) (nI (u441 + 1)) (nI t3) i4 0 i6 i7 i8 i42 i49 (nI a.1) (nI a.2.1) (nI oz) i59 i61 i64 i66 (nI t67) i76 i78, (ma 52, .inl (y 0, 1700, .inl g52))]) (fun a => [(0, .ref mo)]) (zc, zn, zf, sz, cz) rfl rfl ⟨(show zn ≤ zn by omega), hR_, hwz_, hcz_, rfl, hoz_, xh694⟩ ?_
        rintro ⟨yc, yn, yf, sy, cy⟩ hP843 ih844
        obtain ⟨hny__, hRy__, hWy__, hCy__, hDy__, hOy__, hM__⟩ := hP843
        have hny_ : yn ≤ zn := hny__
        have hRy_ : RS kq s0 f0 (xx + 1) 0 yf g52 yc yn az := hRy__
        have hWy_ : WB sy g52 0 yn := hWy__
        have hCy_ : CD cy yf yc := hCy__
        have hDy_ : drp nSq sy cy = drp nSq sz cz := hDy__
        have hOy_ : opn sy ≤ oz := hOy__
        have hM_ : 25 ∈ sy := hM__
        refine j_ws (ws' := [(ma 33, .inl (y 3, 2, .inl (WD 24))), (ma 34, .inl (y 3, 3, .inl (WD 25))), (ma 50, .inl (y 0, 3200, .inl yf)), (ma 0, .inl (y 0, 1600, .inl (tby tx))), MB mo ma (nI t1) (nI (u441 + 1)) (nI t3) i4 0 i6 i7 i8 i42 i49 (nI yc) (nI yn) (nI oz) i59 i61 i64 i66 (nI t67) i76 i78, (ma 52, .inl (y 0, 1700, .inl g52))]) rfl ?_
        refine j_lv (lv' := [(0, .ref mo)]) rfl ?_
        have hacy := rs_ac3 hRy_
        refine j_aload_n (pc := 33) C d_Model_goesOnTest_33 rfl 0 rfl ?_
        refine j_bipush (pc := 34) C (v := 25) d_Model_goesOnTest_34 (by decide) ?_
        refine j_callVi (pc := 36) C (c_M_isOn l D y mo ma t1 (u441 + 1) t3 i4 0 i6 i7 i8 i42 i49 (nI yc) yn (nI oz) i59 i61 i64 i66 t67 i76 i78 g52 25 (by omega)) kw_Model_362 kv_Model_isOn 0 10 rfl rfl ⟨by decide, by decide⟩ ⟨by decide, by decide⟩ (wr := [(ma 33, .inl (y 3, 2, .inl (WD 24))), (ma 34, .inl (y 3, 3, .inl (WD 25))), (ma 50, .inl (y 0, 3200, .inl yf)), (ma 0, .inl (y 0, 1600, .inl (tby tx)))]) [4, 5] [0, 1, 2, 3] rfl rfl (by decide +kernel) (by decide +kernel) (by decide +kernel) (As := [.int 25]) (rest := []) rfl (nb rfl) rfl d_Model_goesOnTest_36 (fun r845 _ hr845 => ?_)
        refine j_ws (ws' := [(ma 33, .inl (y 3, 2, .inl (WD 24))), (ma 34, .inl (y 3, 3, .inl (WD 25))), (ma 50, .inl (y 0, 3200, .inl yf)), (ma 0, .inl (y 0, 1600, .inl (tby tx))), MB mo ma (nI t1) (nI (u441 + 1)) (nI t3) i4 0 i6 i7 i8 i42 i49 (nI yc) (nI yn) (nI oz) i59 i61 i64 i66 (nI t67) i76 i78, (ma 52, .inl (y 0, 1700, .inl g52))]) rfl ?_
        rcases hr845 with ⟨rfl, xh847⟩ | ⟨rfl, xh848, e849⟩
        · refine j_if_neF (pc := 39) C (tgt := 49) d_Model_goesOnTest_39 (by decide) (by decide) ?_
          have hyp1 : 0 < yn := Nat.pos_of_ne_zero (fun q => by have hq := hM_; rw [wb_nil hWy_ q] at hq; cases hq)
          obtain ⟨vq850, sq851, xh852, xh853, xh854, xh855⟩ := wb_top hWy_ hyp1
          have xh857 : ¬ g52 (yn - 1) = 25 := xh847.resolve_left (by omega)
          have xh856 : ¬ vq850 = 25 := fun q => xh857 (by rw [xh853, q]; rfl)
          refine j_aload_n (pc := 42) C d_Model_goesOnTest_42 rfl 0 rfl ?_
          refine j_callVv (pc := 43) C (c_M_drops l D y mo ma t1 (u441 + 1) t3 i4 0 i6 i7 i8 i42 i49 yc yn (nI oz) i59 i61 i64 i66 t67 i76 i78 yf g52 (by omega) (by omega) (by omega)) kw_Model_350 kv_Model_drops 0 10 rfl rfl ⟨by decide, by decide⟩ ⟨by decide, by decide⟩ (wr := [(ma 33, .inl (y 3, 2, .inl (WD 24))), (ma 34, .inl (y 3, 3, .inl (WD 25))), (ma 0, .inl (y 0, 1600, .inl (tby tx)))]) [4, 2, 5] [0, 1, 3] rfl rfl (by decide +kernel) (by decide +kernel) (by decide +kernel) (As := []) (rest := []) rfl (nb rfl) rfl d_Model_goesOnTest_43 (fun _ _ => ?_)
          refine j_ws (ws' := [(ma 33, .inl (y 3, 2, .inl (WD 24))), (ma 34, .inl (y 3, 3, .inl (WD 25))), (ma 0, .inl (y 0, 1600, .inl (tby tx))), MB mo ma (nI t1) (nI (u441 + 1)) (nI t3) i4 0 i6 i7 i8 i42 i49 (nI (yc + 1)) (nI (yn - 1)) (nI oz) i59 i61 i64 i66 (nI t67) i76 i78, (ma 50, .inl (y 0, 3200, .inl (upd yf yc (g52 (yn - 1))))), (ma 52, .inl (y 0, 1700, .inl g52))]) rfl ?_
          refine j_goto (pc := 46) C (tgt := 33) d_Model_goesOnTest_46 (by decide) ?_
          refine j_sub (ws' := [(ma 33, .inl (y 3, 2, .inl (WD 24))), (ma 34, .inl (y 3, 3, .inl (WD 25))), (ma 50, .inl (y 0, 3200, .inl (upd yf yc (g52 (yn - 1))))), (ma 0, .inl (y 0, 1600, .inl (tby tx))), MB mo ma (nI t1) (nI (u441 + 1)) (nI t3) i4 0 i6 i7 i8 i42 i49 (nI (yc + 1)) (nI (yn - 1)) (nI oz) i59 i61 i64 i66 (nI t67) i76 i78, (ma 52, .inl (y 0, 1700, .inl g52))]) [0, 1, 4, 2, 3, 5] rfl (by decide +kernel) ?_
          exact ih844 ((yc + 1), (yn - 1), (upd yf yc (g52 (yn - 1))), sq851, (putS vq850 cy)) ⟨(show (yn - 1) ≤ zn by omega), (show RS kq s0 f0 (xx + 1) 0 (upd yf yc (g52 (yn - 1))) g52 (yc + 1) (yn - 1) az from rs_drop hRy_ (by omega) (show yn = yn - 1 + 1 by omega) (Or.inr (ti_nq (hTT (yn - 1) (by omega)) xh857))), xh855, (show CD (putS vq850 cy) (upd yf yc (g52 (yn - 1))) (yc + 1) from cd_put hCy_ (by omega) xh853 (by omega)), (show drp nSq sq851 (putS vq850 cy) = drp nSq sz cz by rw [← hDy_, xh852]; exact (drp_go (decide_eq_true xh856)).symm), (opn_tl (by have hq := hOy_; rw [xh852] at hq; exact hq)), (by have hq := hM_; rw [xh852] at hq; exact (List.mem_cons.mp hq).resolve_left (fun q => xh856 q.symm))⟩ (show (yn - 1) < yn by omega)
        · refine j_if_neT (pc := 39) C (tgt := 49) d_Model_goesOnTest_39 (by decide) (by decide) ?_
          obtain ⟨vq858, sq859, xh860, xh861, xh862, xh863⟩ := wb_top hWy_ (show 0 < yn by omega)
          have xh864 : vq858 = 25 := on_yes xh861 xh862 (by decide) e849
          have xh865 : drp nSq sz cz = (25 :: sq859, cy) := by rw [← hDy_, xh860, xh864]; exact drp_hd (sq_no rfl)
          obtain ⟨xh866, xh867⟩ := opn_hd (show opn (25 :: sq859) ≤ oz by have hq := hOy_; rw [xh860, xh864] at hq; exact hq) (by decide)
          refine j_aload_n (pc := 49) C d_Model_goesOnTest_49 rfl 0 rfl ?_
          refine j_dup (pc := 50) C d_Model_goesOnTest_50 rfl ?_
          refine j_get (pc := 51) C gf_Model_292 4 rfl rfl d_Model_goesOnTest_51 ?_
          refine j_iconst (pc := 54) C (v := 1) d_Model_goesOnTest_54 (by decide) ?_
          refine j_isub (pc := 55) C (v := nI (yn - 1)) d_Model_goesOnTest_55 (pk_sub (a := yn) (b := 1) (by omega)) ?_
          refine j_put (pc := 56) C pf_Model_292 4 (ws' := [(ma 33, .inl (y 3, 2, .inl (WD 24))), (ma 34, .inl (y 3, 3, .inl (WD 25))), (ma 50, .inl (y 0, 3200, .inl yf)), (ma 0, .inl (y 0, 1600, .inl (tby tx))), MB mo ma (nI t1) (nI (u441 + 1)) (nI t3) i4 0 i6 i7 i8 i42 i49 (nI yc) (nI (yn - 1)) (nI oz) i59 i61 i64 i66 (nI t67) i76 i78, (ma 52, .inl (y 0, 1700, .inl g52))]) rfl rfl rfl (nl rfl) rfl d_Model_goesOnTest_56 ?_
          refine j_aload_n (pc := 59) C d_Model_goesOnTest_59 rfl 0 rfl ?_
          refine j_dup (pc := 60) C d_Model_goesOnTest_60 rfl ?_
          refine j_get (pc := 61) C gf_Model_295 4 rfl rfl d_Model_goesOnTest_61 ?_
          refine j_iconst (pc := 64) C (v := 1) d_Model_goesOnTest_64 (by decide) ?_
          refine j_isub (pc := 65) C (v := nI (oz - 1)) d_Model_goesOnTest_65 (pk_sub (a := oz) (b := 1) (by omega)) ?_
          refine j_put (pc := 66) C pf_Model_295 4 (ws' := [(ma 33, .inl (y 3, 2, .inl (WD 24))), (ma 34, .inl (y 3, 3, .inl (WD 25))), (ma 50, .inl (y 0, 3200, .inl yf)), (ma 0, .inl (y 0, 1600, .inl (tby tx))), MB mo ma (nI t1) (nI (u441 + 1)) (nI t3) i4 0 i6 i7 i8 i42 i49 (nI yc) (nI (yn - 1)) (nI (oz - 1)) i59 i61 i64 i66 (nI t67) i76 i78, (ma 52, .inl (y 0, 1700, .inl g52))]) rfl rfl rfl (nl rfl) rfl d_Model_goesOnTest_66 ?_
          have xh868 : RS kq s0 f0 (xx + 1) 0 yf g52 yc (yn - 1) az := rs_pop hRy_ (show yn = yn - 1 + 1 by omega) (by rw [e849]; decide)
          refine j_aload_n (pc := 69) C d_Model_goesOnTest_69 rfl 0 rfl ?_
          refine j_callVv (pc := 70) C (c_M_dropsNots_A l D y mo ma t1 (u441 + 1) t3 i4 i6 i7 i8 i42 i49 yc (yn - 1) (oz - 1) i59 i61 i64 i66 t67 i76 i78 yf g52 s0 xx sq859 cy kq f0 (by omega) he (rs_at xh868 (by omega)) xh863 hCy_ xh867 (by omega) hK) kw_Model_374 kv_Model_dropsNots 0 10 rfl rfl ⟨by decide, by decide⟩ ⟨by decide, by decide⟩ (wr := [(ma 33, .inl (y 3, 2, .inl (WD 24))), (ma 34, .inl (y 3, 3, .inl (WD 25))), (ma 0, .inl (y 0, 1600, .inl (tby tx)))]) [4, 2, 5] [0, 1, 3] rfl rfl (by decide +kernel) (by decide +kernel) (by decide +kernel) (As := []) (rest := []) rfl (nb rfl) rfl d_Model_goesOnTest_70 (fun u869 hu870 => ?_)
          obtain ⟨xh871, xh872, xh873, xh874, xh875, xh876, xh877⟩ := hu870
          refine j_ws (ws' := [(ma 33, .inl (y 3, 2, .inl (WD 24))), (ma 34, .inl (y 3, 3, .inl (WD 25))), (ma 0, .inl (y 0, 1600, .inl (tby tx))), MB mo ma (nI t1) (nI (u441 + 1)) (nI t3) i4 0 i6 i7 i8 i42 i49 (nI u869.1) (nI u869.2.1) (nI u869.2.2.1) i59 i61 i64 i66 (nI t67) i76 i78, (ma 50, .inl (y 0, 3200, .inl u869.2.2.2.1)), (ma 52, .inl (y 0, 1700, .inl g52))]) rfl ?_
          refine j_goto (pc := 73) C (tgt := 0) d_Model_goesOnTest_73 (by decide) ?_
          refine j_sub (ws' := [MB mo ma (nI t1) (nI (u441 + 1)) (nI t3) i4 0 i6 i7 i8 i42 i49 (nI u869.1) (nI u869.2.1) (nI u869.2.2.1) i59 i61 i64 i66 (nI t67) i76 i78, (ma 0, .inl (y 0, 1600, .inl (tby tx))), (ma 33, .inl (y 3, 2, .inl (WD 24))), (ma 34, .inl (y 3, 3, .inl (WD 25))), (ma 50, .inl (y 0, 3200, .inl u869.2.2.2.1)), (ma 52, .inl (y 0, 1700, .inl g52))]) [3, 2, 0, 1, 4, 5] rfl (by decide +kernel) ?_
          have xh878 : Rcb tx t3 (1, (gs, cs, sk, oo)) (1, ((advS tx t3 gz), u869.2.2.2.2.1, u869.2.2.2.2.2, u869.2.2.1)) := hrc_.tr (Rcb.st ((stG _ _ _ _).trans ((sG_93 (iss_al xh808) xh808 xh694).trans (by rw [xh865]; show (1, (advS tx t3 gz, (dnN sq859 cy (oz - 1)).2.1, (dnN sq859 cy (oz - 1)).1, (dnN sq859 cy (oz - 1)).2.2)) = _; rw [xh877]))) (Rcb.rf _))
          exact ih439 ((u441 + 1), u869.1, u869.2.1, u869.2.2.2.1, u869.2.2.1, (advS tx t3 gz), u869.2.2.2.2.1, u869.2.2.2.2.2) ⟨(show (u441 + 1) ≤ t3 by omega), (show t2 ≤ (u441 + 1) by omega), (show u869.2.1 ≤ wn by omega), (show RS kq s0 f0 (xx + 1) 0 u869.2.2.2.1 g52 u869.1 u869.2.1 (u441 + 1) from (rs_at xh872 (show u441 + 1 ≤ (u441 + 1) by omega))), (show RR tx t3 (advS tx t3 gz) (u441 + 1) i4 0 i6 from (rr_adv xh445 he (sg_yes ((rr_z xh445).mp rfl) xh444 xh448 (show tx u441 = 93 by omega) (by decide)).2.2 (by decide) (show (u441 + 1) = enS tx t3 gz by have := (sg_yes ((rr_z xh445).mp rfl) xh444 xh448 (show tx u441 = 93 by omega) (by decide)).2.1; omega) (Or.inl ⟨rfl, rfl⟩))), (show Rcb tx t3 (1, (gs, cs, sk, oo)) (1, ((advS tx t3 gz), u869.2.2.2.2.1, u869.2.2.2.2.2, u869.2.2.1)) from xh878), (show WB u869.2.2.2.2.2 g52 0 u869.2.1 from xh873), (show CD u869.2.2.2.2.1 u869.2.2.2.1 u869.1 from xh874), (show opn u869.2.2.2.2.2 ≤ u869.2.2.1 from xh875), xh876⟩ (show t3 - (u441 + 1) < t3 - az by omega)
theorem d_Model_test_0 : decode prog_13_method_44_code 0 = .ok (.iconst 1, 1) := by decide +kernel
theorem d_Model_test_1 : decode prog_13_method_44_code 1 = .ok (.istore_n 1, 1) := by decide +kernel
theorem d_Model_test_2 : decode prog_13_method_44_code 2 = .ok (.iload_n 1, 1) := by decide +kernel
theorem d_Model_test_3 : decode prog_13_method_44_code 3 = .ok (.ifCond .eq 107, 3) := by decide +kernel
theorem d_Model_test_110 : decode prog_13_method_44_code 110 = .ok (.aload_n 0, 1) := by decide +kernel
theorem d_Model_test_111 : decode prog_13_method_44_code 111 = .ok (.getfield 201, 3) := by decide +kernel
theorem d_Model_test_114 : decode prog_13_method_44_code 114 = .ok (.ifCond .ne 17, 3) := by decide +kernel
theorem d_Model_test_131 : decode prog_13_method_44_code 131 = .ok (.return_, 1) := by decide +kernel
theorem d_Model_test_117 : decode prog_13_method_44_code 117 = .ok (.aload_n 0, 1) := by decide +kernel
theorem d_Model_test_118 : decode prog_13_method_44_code 118 = .ok (.getfield 292, 3) := by decide +kernel
theorem d_Model_test_121 : decode prog_13_method_44_code 121 = .ok (.ifCond .le 10, 3) := by decide +kernel
theorem d_Model_test_124 : decode prog_13_method_44_code 124 = .ok (.aload_n 0, 1) := by decide +kernel
theorem d_Model_test_125 : decode prog_13_method_44_code 125 = .ok (.invokevirtual 350, 3) := by decide +kernel
theorem d_Model_test_128 : decode prog_13_method_44_code 128 = .ok (.goto (-18), 3) := by decide +kernel
theorem d_Model_test_6 : decode prog_13_method_44_code 6 = .ok (.aload_n 0, 1) := by decide +kernel
theorem d_Model_test_7 : decode prog_13_method_44_code 7 = .ok (.getfield 201, 3) := by decide +kernel
theorem d_Model_test_10 : decode prog_13_method_44_code 10 = .ok (.ifCond .ne 100, 3) := by decide +kernel
theorem d_Model_test_13 : decode prog_13_method_44_code 13 = .ok (.aload_n 0, 1) := by decide +kernel
theorem d_Model_test_14 : decode prog_13_method_44_code 14 = .ok (.invokevirtual 213, 3) := by decide +kernel
theorem d_Model_test_17 : decode prog_13_method_44_code 17 = .ok (.istore_n 2, 1) := by decide +kernel
theorem d_Model_test_18 : decode prog_13_method_44_code 18 = .ok (.iload_n 2, 1) := by decide +kernel
theorem d_Model_test_19 : decode prog_13_method_44_code 19 = .ok (.bipush 91, 2) := by decide +kernel
theorem d_Model_test_21 : decode prog_13_method_44_code 21 = .ok (.if_icmp .ne 26, 3) := by decide +kernel
theorem d_Model_test_47 : decode prog_13_method_44_code 47 = .ok (.aload_n 0, 1) := by decide +kernel
theorem d_Model_test_48 : decode prog_13_method_44_code 48 = .ok (.aload_n 0, 1) := by decide +kernel
theorem d_Model_test_49 : decode prog_13_method_44_code 49 = .ok (.getfield 96, 3) := by decide +kernel
theorem d_Model_test_52 : decode prog_13_method_44_code 52 = .ok (.invokevirtual 224, 3) := by decide +kernel
theorem d_Model_test_55 : decode prog_13_method_44_code 55 = .ok (.ifCond .eq 24, 3) := by decide +kernel
theorem d_Model_test_79 : decode prog_13_method_44_code 79 = .ok (.aload_n 0, 1) := by decide +kernel
theorem d_Model_test_80 : decode prog_13_method_44_code 80 = .ok (.invokevirtual 371, 3) := by decide +kernel
theorem kw_Model_371 : KW "NineBoardsModel" 371 ⟨"NineBoardsModel", "fact", "()V"⟩ prog_13_method_41_code 2 none 0 := ⟨(mt_7 (List.mem_of_getElem? (i := 3) rfl) rfl), (mt_1 (List.mem_of_getElem? (i := 16) rfl) rfl), (mt_7 (List.mem_of_getElem? (i := 6) rfl) rfl), by decide +kernel⟩
theorem kv_Model_fact : Cond.instanceMethod ⟨"NineBoardsModel", "fact", "()V"⟩ ∈ TB ∧ Cond.selects "NineBoardsModel" ⟨"NineBoardsModel", "fact", "()V"⟩ ⟨"NineBoardsModel", "fact", "()V"⟩ ∈ TB := ⟨(mt_7 (List.mem_of_getElem? (i := 5) rfl) rfl), (ms_0 (List.mem_map.mpr ⟨(⟨"NineBoardsModel", "fact", "()V"⟩, 79), List.mem_of_getElem? (i := 82) (by decide +kernel), rfl⟩) rfl)⟩
theorem d_Model_test_83 : decode prog_13_method_44_code 83 = .ok (.aload_n 0, 1) := by decide +kernel
theorem d_Model_test_84 : decode prog_13_method_44_code 84 = .ok (.invokevirtual 374, 3) := by decide +kernel
theorem d_Model_test_87 : decode prog_13_method_44_code 87 = .ok (.aload_n 0, 1) := by decide +kernel
theorem d_Model_test_88 : decode prog_13_method_44_code 88 = .ok (.getfield 201, 3) := by decide +kernel
theorem d_Model_test_91 : decode prog_13_method_44_code 91 = .ok (.ifCond .ne 14, 3) := by decide +kernel
theorem d_Model_test_94 : decode prog_13_method_44_code 94 = .ok (.aload_n 0, 1) := by decide +kernel
theorem d_Model_test_95 : decode prog_13_method_44_code 95 = .ok (.invokevirtual 377, 3) := by decide +kernel
theorem kw_Model_377 : KW "NineBoardsModel" 377 ⟨"NineBoardsModel", "goesOnTest", "()Z"⟩ prog_13_method_45_code 1 (some .boolean) 0 := ⟨(mt_7 (List.mem_of_getElem? (i := 11) rfl) rfl), (mt_1 (List.mem_of_getElem? (i := 16) rfl) rfl), (mt_7 (List.mem_of_getElem? (i := 14) rfl) rfl), by decide +kernel⟩
theorem kv_Model_goesOnTest : Cond.instanceMethod ⟨"NineBoardsModel", "goesOnTest", "()Z"⟩ ∈ TB ∧ Cond.selects "NineBoardsModel" ⟨"NineBoardsModel", "goesOnTest", "()Z"⟩ ⟨"NineBoardsModel", "goesOnTest", "()Z"⟩ ∈ TB := ⟨(mt_7 (List.mem_of_getElem? (i := 13) rfl) rfl), (ms_0 (List.mem_map.mpr ⟨(⟨"NineBoardsModel", "goesOnTest", "()Z"⟩, 79), List.mem_of_getElem? (i := 84) (by decide +kernel), rfl⟩) rfl)⟩
theorem d_Model_test_98 : decode prog_13_method_44_code 98 = .ok (.ifCond .eq 7, 3) := by decide +kernel
theorem d_Model_test_101 : decode prog_13_method_44_code 101 = .ok (.iconst 1, 1) := by decide +kernel
theorem d_Model_test_102 : decode prog_13_method_44_code 102 = .ok (.goto 4, 3) := by decide +kernel
theorem d_Model_test_106 : decode prog_13_method_44_code 106 = .ok (.istore_n 1, 1) := by decide +kernel
theorem d_Model_test_107 : decode prog_13_method_44_code 107 = .ok (.goto (-105), 3) := by decide +kernel
theorem d_Model_test_105 : decode prog_13_method_44_code 105 = .ok (.iconst 0, 1) := by decide +kernel
theorem d_Model_test_58 : decode prog_13_method_44_code 58 = .ok (.aload_n 0, 1) := by decide +kernel
theorem d_Model_test_59 : decode prog_13_method_44_code 59 = .ok (.bipush 16, 2) := by decide +kernel
theorem d_Model_test_61 : decode prog_13_method_44_code 61 = .ok (.aload_n 0, 1) := by decide +kernel
theorem d_Model_test_62 : decode prog_13_method_44_code 62 = .ok (.getfield 207, 3) := by decide +kernel
theorem d_Model_test_65 : decode prog_13_method_44_code 65 = .ok (.invokevirtual 353, 3) := by decide +kernel
theorem d_Model_test_68 : decode prog_13_method_44_code 68 = .ok (.aload_n 0, 1) := by decide +kernel
theorem d_Model_test_69 : decode prog_13_method_44_code 69 = .ok (.aload_n 0, 1) := by decide +kernel
theorem d_Model_test_70 : decode prog_13_method_44_code 70 = .ok (.getfield 96, 3) := by decide +kernel
theorem d_Model_test_73 : decode prog_13_method_44_code 73 = .ok (.invokevirtual 263, 3) := by decide +kernel
theorem d_Model_test_76 : decode prog_13_method_44_code 76 = .ok (.goto (-74), 3) := by decide +kernel
theorem d_Model_test_24 : decode prog_13_method_44_code 24 = .ok (.aload_n 0, 1) := by decide +kernel
theorem d_Model_test_25 : decode prog_13_method_44_code 25 = .ok (.bipush 25, 2) := by decide +kernel
theorem d_Model_test_27 : decode prog_13_method_44_code 27 = .ok (.aload_n 0, 1) := by decide +kernel
theorem d_Model_test_28 : decode prog_13_method_44_code 28 = .ok (.getfield 207, 3) := by decide +kernel
theorem d_Model_test_31 : decode prog_13_method_44_code 31 = .ok (.invokevirtual 353, 3) := by decide +kernel
theorem d_Model_test_34 : decode prog_13_method_44_code 34 = .ok (.aload_n 0, 1) := by decide +kernel
theorem d_Model_test_35 : decode prog_13_method_44_code 35 = .ok (.dup, 1) := by decide +kernel
theorem d_Model_test_36 : decode prog_13_method_44_code 36 = .ok (.getfield 207, 3) := by decide +kernel
theorem d_Model_test_39 : decode prog_13_method_44_code 39 = .ok (.iconst 1, 1) := by decide +kernel
theorem d_Model_test_40 : decode prog_13_method_44_code 40 = .ok (.iadd, 1) := by decide +kernel
theorem d_Model_test_41 : decode prog_13_method_44_code 41 = .ok (.putfield 207, 3) := by decide +kernel
theorem d_Model_test_44 : decode prog_13_method_44_code 44 = .ok (.goto (-42), 3) := by decide +kernel
set_option maxHeartbeats 4000000 in
set_option maxRecDepth 100000 in
theorem c_M_test (l : Launch) (D : va_G) (y : Nat → ClassId) (mo : Nat) (ma : Nat → Nat) (t1 : Nat) (t2 : Nat) (t3 : Nat) (i4 : Int32) (i6 : Int32) (i7 : Int32) (i8 : Int32) (i42 : Int32) (i49 : Int32) (cd : Nat) (wn : Nat) (oo : Nat) (i59 : Int32) (i61 : Int32) (i64 : Int32) (i66 : Int32) (t67 : Nat) (i76 : Int64) (i78 : Int32) (tx : Nat → Nat) (g50 : Nat → Int32) (g52 : Nat → Int32) (gs : PS) (s0 : Nat) (xx : Nat) (cs : List Nat) (kq : Nat) (f0 : Nat → Int32) (en : Nat) (ha : t2 ≤ t3) (he : t3 ≤ 1600) (hB : ∀ j, tx j < 256) (hx : RR tx t3 gs t2 i4 0 i6) (hR : RS kq s0 f0 xx 0 g50 g52 cd wn t2) (hTT : ITm g52 wn) (hcd : CD cs g50 cd) (hw0 : wn = 0) (he6 : oo + en = 6) (hK : 1 ≤ kq) : CT l D y ⟨"NineBoardsModel", "test", "()V"⟩ prog_13_method_44_code 3 none ({ frames := 7, cells := 0, slots := 0, locals := 152 } : Room) [.ref mo] [MB mo ma (nI t1) (nI t2) (nI t3) i4 0 i6 i7 i8 i42 i49 (nI cd) (nI wn) (nI oo) i59 i61 i64 i66 (nI t67) i76 i78, (ma 0, .inl (y 0, 1600, .inl (tby tx))), (ma 33, .inl (y 3, 2, .inl (WD 24))), (ma 34, .inl (y 3, 3, .inl (WD 25))), (ma 35, .inl (y 3, 3, .inl (WD 26))), (ma 36, .inl (y 3, 3, .inl (WD 27))), (ma 37, .inl (y 3, 3, .inl (WD 28))), (ma 38, .inl (y 3, 5, .inl (WD 29))), (ma 39, .inl (y 3, 5, .inl (WD 30))), (ma 40, .inl (y 3, 3, .inl (WD 31))), (ma 41, .inl (y 3, 3, .inl (WD 32))), (ma 50, .inl (y 0, 3200, .inl g50)), (ma 52, .inl (y 0, 1700, .inl g52))] (QV D [MB mo ma (nI t1) (nI t2) (nI t3) i4 0 i6 i7 i8 i42 i49 (nI cd) (nI wn) (nI oo) i59 i61 i64 i66 (nI t67) i76 i78, (ma 0, .inl (y 0, 1600, .inl (tby tx))), (ma 33, .inl (y 3, 2, .inl (WD 24))), (ma 34, .inl (y 3, 3, .inl (WD 25))), (ma 35, .inl (y 3, 3, .inl (WD 26))), (ma 36, .inl (y 3, 3, .inl (WD 27))), (ma 37, .inl (y 3, 3, .inl (WD 28))), (ma 38, .inl (y 3, 5, .inl (WD 29))), (ma 39, .inl (y 3, 5, .inl (WD 30))), (ma 40, .inl (y 3, 3, .inl (WD 31))), (ma 41, .inl (y 3, 3, .inl (WD 32))), (ma 50, .inl (y 0, 3200, .inl g50)), (ma 52, .inl (y 0, 1700, .inl g52))] (fun (u : Nat × Int32 × Int32 × Int32 × Nat × Nat × Nat × (Nat → Int32) × (Nat → Int32)) => t2 ≤ u.1 ∧ u.1 ≤ t3 ∧ (u.2.2.1 = 0 → 0 = 0 ∧ u.2.2.2.2.2.1 = 0) ∧ RS kq s0 f0 (xx + 1) u.2.2.1 u.2.2.2.2.2.2.2.1 u.2.2.2.2.2.2.2.2 u.2.2.2.2.1 u.2.2.2.2.2.1 u.1 ∧ RR tx t3 ((testF tx t3 (factE tx t3 en) (gs, cs)).1) u.1 u.2.1 u.2.2.1 u.2.2.2.1 ∧ (u.2.2.1 = 0 → CD (testF tx t3 (factE tx t3 en) (gs, cs)).2 u.2.2.2.2.2.2.2.1 u.2.2.2.2.1)) (fun u => [MB mo ma (nI t1) (nI u.1) (nI t3) u.2.1 u.2.2.1 u.2.2.2.1 i7 i8 i42 i49 (nI u.2.2.2.2.1) (nI u.2.2.2.2.2.1) (nI u.2.2.2.2.2.2.1) i59 i61 i64 i66 (nI t67) i76 i78, (ma 0, .inl (y 0, 1600, .inl (tby tx))), (ma 33, .inl (y 3, 2, .inl (WD 24))), (ma 34, .inl (y 3, 3, .inl (WD 25))), (ma 35, .inl (y 3, 3, .inl (WD 26))), (ma 36, .inl (y 3, 3, .inl (WD 27))), (ma 37, .inl (y 3, 3, .inl (WD 28))), (ma 38, .inl (y 3, 5, .inl (WD 29))), (ma 39, .inl (y 3, 5, .inl (WD 30))), (ma 40, .inl (y 3, 3, .inl (WD 31))), (ma 41, .inl (y 3, 3, .inl (WD 32))), (ma 50, .inl (y 0, 3200, .inl u.2.2.2.2.2.2.2.1)), (ma 52, .inl (y 0, 1700, .inl u.2.2.2.2.2.2.2.2))])) := by
  refine CT.of (by decide) (nb rfl) ?_
  intro p e s m args below meth c C hr
  refine j_lv (lv' := [(0, .ref mo)]) rfl ?_
  refine j_iconst (pc := 0) C (v := 1) d_Model_test_0 (by decide) ?_
  refine j_istore_n (pc := 1) C (lv' := [(1, .int 1), (0, .ref mo)]) d_Model_test_1 rfl (by decide) rfl ?_
  refine j_loop (α := Nat × Nat × Int32 × Nat × Nat × (Nat → Int32) × (Nat → Int32) × Int32 × Int32 × Nat × PS × List Nat × List Nat) (fun a => 2 * (t3 - a.2.1) + bz1 a.2.2.1 + a.1) (fun a => (a.2.1 ≤ t3) ∧ (t2 ≤ a.2.1) ∧ (a.1 ≤ 1) ∧ ((a.2.2.1 = 0 → ITm a.2.2.2.2.2.2.1 a.2.2.2.1)) ∧ (RS kq s0 f0 (xx + (1 - a.1)) a.2.2.1 a.2.2.2.2.2.1 a.2.2.2.2.2.2.1 a.2.2.2.2.1 a.2.2.2.1 a.2.1) ∧ ((a.1 = 0 → a.2.2.1 = 0 → NSq a.2.2.2.2.2.2.1 a.2.2.2.1)) ∧ (RR tx t3 a.2.2.2.2.2.2.2.2.2.2.1 a.2.1 a.2.2.2.2.2.2.2.1 a.2.2.1 a.2.2.2.2.2.2.2.2.1) ∧ (a.2.2.2.2.2.2.2.2.2.1 ≤ 6) ∧ ((a.1 = 1 → a.2.2.1 = 0 → Rcb tx t3 (0, (gs, cs, [], oo)) (0, (a.2.2.2.2.2.2.2.2.2.2.1, a.2.2.2.2.2.2.2.2.2.2.2.1, a.2.2.2.2.2.2.2.2.2.2.2.2, a.2.2.2.2.2.2.2.2.2.1)) ∧ CD a.2.2.2.2.2.2.2.2.2.2.2.1 a.2.2.2.2.2.1 a.2.2.2.2.1 ∧ WB a.2.2.2.2.2.2.2.2.2.2.2.2 a.2.2.2.2.2.2.1 0 a.2.2.2.1 ∧ opn a.2.2.2.2.2.2.2.2.2.2.2.2 ≤ a.2.2.2.2.2.2.2.2.2.1)) ∧ ((a.1 = 0 → a.2.2.1 = 0 → Rcb tx t3 (0, (gs, cs, [], oo)) (2, (a.2.2.2.2.2.2.2.2.2.2.1, a.2.2.2.2.2.2.2.2.2.2.2.1, a.2.2.2.2.2.2.2.2.2.2.2.2, a.2.2.2.2.2.2.2.2.2.1)) ∧ CD a.2.2.2.2.2.2.2.2.2.2.2.1 a.2.2.2.2.2.1 a.2.2.2.2.1 ∧ WB a.2.2.2.2.2.2.2.2.2.2.2.2 a.2.2.2.2.2.2.1 0 a.2.2.2.1 ∧ ¬ 25 ∈ a.2.2.2.2.2.2.2.2.2.2.2.2)) ∧ ((¬ a.2.2.1 = 0 → ∃ c3 s3 o3, Rcb tx t3 (0, (gs, cs, [], oo)) (2, (a.2.2.2.2.2.2.2.2.2.2.1, c3, s3, o3))))) (fun a => [MB mo ma (nI t1) (nI a.2.1) (nI t3) a.2.2.2.2.2.2.2.1 a.2.2.1 a.2.2.2.2.2.2.2.2.1 i7 i8 i42 i49 (nI a.2.2.2.2.1) (nI a.2.2.2.1) (nI a.2.2.2.2.2.2.2.2.2.1) i59 i61 i64 i66 (nI t67) i76 i78, (ma 0, .inl (y 0, 1600, .inl (tby tx))), (ma 33, .inl (y 3, 2, .inl (WD 24))), (ma 34, .inl (y 3, 3, .inl (WD 25))), (ma 35, .inl (y 3, 3, .inl (WD 26))), (ma 36, .inl (y 3, 3, .inl (WD 27))), (ma 37, .inl (y 3, 3, .inl (WD 28))), (ma 38, .inl (y 3, 5, .inl (WD 29))), (ma 39, .inl (y 3, 5, .inl (WD 30))), (ma 40, .inl (y 3, 3, .inl (WD 31))), (ma 41, .inl (y 3, 3, .inl (WD 32))), (ma 50, .inl (y 0, 3200, .inl a.2.2.2.2.2.1)), (ma 52, .inl (y 0, 1700, .inl a.2.2.2.2.2.2.1))]) (fun a => [(1, .int (nI a.1)), (0, .ref mo)]) (1, t2, 0, wn, cd, g50, g52, i4, i6, oo, gs, cs, []) rfl rfl ⟨ha, (show t2 ≤ t2 by omega), (show 1 ≤ 1 by omega), (fun _ => hTT), (show RS kq s0 f0 (xx + (1 - 1)) 0 g50 g52 cd wn t2 from hR), (fun e => absurd e (by omega)), (show RR tx t3 gs t2 i4 0 i6 from hx), (show oo ≤ 6 by omega), (fun _ _ => ⟨Rcb.rf _, hcd, hw0, Nat.zero_le _⟩), (fun e => absurd (show (1 : Nat) = 0 from e) (by decide)), (fun e => absurd rfl e)⟩ ?_
  rintro ⟨mz, az, bz, zn, zc, zf, zw, ez, pz, oz, gz, cz, sz⟩ hP248 ih249
  obtain ⟨hz__, hy__, hmz__, hT__, hR__, hN__, hrr__, ho__, hal__, hal2__, hde__⟩ := hP248
  have hz_ : az ≤ t3 := hz__
  have hy_ : t2 ≤ az := hy__
  have hmz_ : mz ≤ 1 := hmz__
  have hT_ : (bz = 0 → ITm zw zn) := hT__
  have hR_ : RS kq s0 f0 (xx + (1 - mz)) bz zf zw zc zn az := hR__
  have hN_ : (mz = 0 → bz = 0 → NSq zw zn) := hN__
  have hrr_ : RR tx t3 gz az ez bz pz := hrr__
  have ho_ : oz ≤ 6 := ho__
  have hal_ : (mz = 1 → bz = 0 → Rcb tx t3 (0, (gs, cs, [], oo)) (0, (gz, cz, sz, oz)) ∧ CD cz zf zc ∧ WB sz zw 0 zn ∧ opn sz ≤ oz) := hal__
  have hal2_ : (mz = 0 → bz = 0 → Rcb tx t3 (0, (gs, cs, [], oo)) (2, (gz, cz, sz, oz)) ∧ CD cz zf zc ∧ WB sz zw 0 zn ∧ ¬ 25 ∈ sz) := hal2__
  have hde_ : (¬ bz = 0 → ∃ c3 s3 o3, Rcb tx t3 (0, (gs, cs, [], oo)) (2, (gz, c3, s3, o3))) := hde__
  refine j_ws (ws' := [MB mo ma (nI t1) (nI az) (nI t3) ez bz pz i7 i8 i42 i49 (nI zc) (nI zn) (nI oz) i59 i61 i64 i66 (nI t67) i76 i78, (ma 0, .inl (y 0, 1600, .inl (tby tx))), (ma 33, .inl (y 3, 2, .inl (WD 24))), (ma 34, .inl (y 3, 3, .inl (WD 25))), (ma 35, .inl (y 3, 3, .inl (WD 26))), (ma 36, .inl (y 3, 3, .inl (WD 27))), (ma 37, .inl (y 3, 3, .inl (WD 28))), (ma 38, .inl (y 3, 5, .inl (WD 29))), (ma 39, .inl (y 3, 5, .inl (WD 30))), (ma 40, .inl (y 3, 3, .inl (WD 31))), (ma 41, .inl (y 3, 3, .inl (WD 32))), (ma 50, .inl (y 0, 3200, .inl zf)), (ma 52, .inl (y 0, 1700, .inl zw))]) rfl ?_
  refine j_lv (lv' := [(1, .int (nI mz)), (0, .ref mo)]) rfl ?_
  have hac := rs_acc hR_
  refine j_iload_n (pc := 2) C d_Model_test_2 rfl 0 rfl ?_
  by_cases c250 : mz = 0
  · refine j_if_eqT (pc := 3) C (tgt := 110) d_Model_test_3 (by decide) (show nI mz = nI 0 from (nI_eq (by omega) (by omega)).mpr (by omega)) ?_
    have xh251 : RS kq s0 f0 (xx + 1) bz zf zw zc zn az := (by have hq := hR_; rw [c250] at hq; exact hq)
    refine j_aload_n (pc := 110) C d_Model_test_110 rfl 1 rfl ?_
    refine j_get (pc := 111) C gf_Model_201 0 rfl rfl d_Model_test_111 ?_
    refine j_if_ne (pc := 114) C (tgt := 131) d_Model_test_114 (by decide) (fun c252 => ?_) (fun c252 => ?_)
    · exact j_vret (pc := 131) C hr (az, ez, bz, pz, zc, zn, oz, zf, zw) ⟨(show t2 ≤ az by omega), (show az ≤ t3 by omega), (fun e => absurd e c252), (rs_at xh251 (show az ≤ az by omega)), (rr_of hrr_ (ts_dead he he6 ((rr_z hx).mp rfl) (rr_le hx ((rr_z hx).mp rfl)) (hde_ c252) (fun q => c252 ((rr_z hrr_).mpr q)))), (fun e => absurd e c252)⟩ [0, 1, 2, 3, 4, 5, 6, 7, 8, 9, 10, 11, 12] rfl (by decide) (by decide) (by decide) d_Model_test_131
    · refine j_ws (ws' := [MB mo ma (nI t1) (nI az) (nI t3) ez 0 pz i7 i8 i42 i49 (nI zc) (nI zn) (nI oz) i59 i61 i64 i66 (nI t67) i76 i78, (ma 0, .inl (y 0, 1600, .inl (tby tx))), (ma 33, .inl (y 3, 2, .inl (WD 24))), (ma 34, .inl (y 3, 3, .inl (WD 25))), (ma 35, .inl (y 3, 3, .inl (WD 26))), (ma 36, .inl (y 3, 3, .inl (WD 27))), (ma 37, .inl (y 3, 3, .inl (WD 28))), (ma 38, .inl (y 3, 5, .inl (WD 29))), (ma 39, .inl (y 3, 5, .inl (WD 30))), (ma 40, .inl (y 3, 3, .inl (WD 31))), (ma 41, .inl (y 3, 3, .inl (WD 32))), (ma 50, .inl (y 0, 3200, .inl zf)), (ma 52, .inl (y 0, 1700, .inl zw))]) (by rw [c252]) ?_
      have xh253 : RS kq s0 f0 (xx + 1) 0 zf zw zc zn az := rs_z xh251 c252
      have xh254 : RR tx t3 gz az ez 0 pz := by have hq := hrr_; rw [c252] at hq; exact hq
      have hNM := hN_ c250 c252
      have hTM := hT_ c252
      obtain ⟨xh255, xh256, xh257, xh258⟩ := hal2_ c250 c252
      refine j_loop (α := Nat × Nat × (Nat → Int32) × List Nat × List Nat) (fun a => a.2.1) (fun a => (a.2.1 ≤ zn) ∧ (RS kq s0 f0 (xx + 1) 0 a.2.2.1 zw a.1 a.2.1 az) ∧ (WB a.2.2.2.1 zw 0 a.2.1) ∧ (CD a.2.2.2.2 a.2.2.1 a.1) ∧ (emt a.2.2.2.1 a.2.2.2.2 = emt sz cz)) (fun a => [MB mo ma (nI t1) (nI az) (nI t3) ez 0 pz i7 i8 i42 i49 (nI a.1) (nI a.2.1) (nI oz) i59 i61 i64 i66 (nI t67) i76 i78, (ma 0, .inl (y 0, 1600, .inl (tby tx))), (ma 33, .inl (y 3, 2, .inl (WD 24))), (ma 34, .inl (y 3, 3, .inl (WD 25))), (ma 35, .inl (y 3, 3, .inl (WD 26))), (ma 36, .inl (y 3, 3, .inl (WD 27))), (ma 37, .inl (y 3, 3, .inl (WD 28))), (ma 38, .inl (y 3, 5, .inl (WD 29))), (ma 39, .inl (y 3, 5, .inl (WD 30))), (ma 40, .inl (y 3, 3, .inl (WD 31))), (ma 41, .inl (y 3, 3, .inl (WD 32))), (ma 50, .inl (y 0, 3200, .inl a.2.2.1)), (ma 52, .inl (y 0, 1700, .inl zw))]) (fun a => [(1, .int (nI mz)), (0, .ref mo)]) (zc, zn, zf, sz, cz) rfl rfl ⟨(show zn ≤ zn by omega), xh253, xh257, xh256, rfl⟩ ?_
      rintro ⟨yc, yn, yf, sy, cy⟩ hP267 ih268
      obtain ⟨hny__, hRy__, hWy__, hCy__, hEy__⟩ := hP267
      have hny_ : yn ≤ zn := hny__
      have hRy_ : RS kq s0 f0 (xx + 1) 0 yf zw yc yn az := hRy__
      have hWy_ : WB sy zw 0 yn := hWy__
      have hCy_ : CD cy yf yc := hCy__
      have hEy_ : emt sy cy = emt sz cz := hEy__
      refine j_ws (ws' := [MB mo ma (nI t1) (nI az) (nI t3) ez 0 pz i7 i8 i42 i49 (nI yc) (nI yn) (nI oz) i59 i61 i64 i66 (nI t67) i76 i78, (ma 0, .inl (y 0, 1600, .inl (tby tx))), (ma 33, .inl (y 3, 2, .inl (WD 24))), (ma 34, .inl (y 3, 3, .inl (WD 25))), (ma 35, .inl (y 3, 3, .inl (WD 26))), (ma 36, .inl (y 3, 3, .inl (WD 27))), (ma 37, .inl (y 3, 3, .inl (WD 28))), (ma 38, .inl (y 3, 5, .inl (WD 29))), (ma 39, .inl (y 3, 5, .inl (WD 30))), (ma 40, .inl (y 3, 3, .inl (WD 31))), (ma 41, .inl (y 3, 3, .inl (WD 32))), (ma 50, .inl (y 0, 3200, .inl yf)), (ma 52, .inl (y 0, 1700, .inl zw))]) rfl ?_
      refine j_lv (lv' := [(1, .int (nI mz)), (0, .ref mo)]) rfl ?_
      have hacy := rs_ac3 hRy_
      refine j_aload_n (pc := 117) C d_Model_test_117 rfl 1 rfl ?_
      refine j_get (pc := 118) C gf_Model_292 0 rfl rfl d_Model_test_118 ?_
      by_cases c269 : yn ≤ 0
      · refine j_if_leT (pc := 121) C (tgt := 131) d_Model_test_121 (by decide) (show nI yn ≤ nI 0 from nI_le (by omega) (by omega)) ?_
        have xh270 := ts_alive he he6 ((rr_z hx).mp rfl) (rr_le hx ((rr_z hx).mp rfl)) xh255 ((rr_z xh254).mp rfl)
        exact j_vret (pc := 131) C hr (az, ez, 0, pz, yc, yn, oz, yf, zw) ⟨(show t2 ≤ az by omega), (show az ≤ t3 by omega), (fun _ => ⟨rfl, show yn = 0 by omega⟩), (rs_at hRy_ (show az ≤ az by omega)), (rr_of xh254 xh270.1), (fun _ => by rw [xh270.2, ← hEy_, wb_nil hWy_ (by omega)]; exact hCy_)⟩ [0, 1, 2, 3, 4, 5, 6, 7, 8, 9, 10, 11, 12] rfl (by decide) (by decide) (by decide) d_Model_test_131
      · refine j_if_leF (pc := 121) C (tgt := 131) d_Model_test_121 (by decide) (show ¬ nI yn ≤ nI 0 from nI_ge (by omega) (by omega)) ?_
        obtain ⟨vq271, sq272, xh273, xh274, xh275, xh276⟩ := wb_top hWy_ (show 0 < yn by omega)
        refine j_aload_n (pc := 124) C d_Model_test_124 rfl 1 rfl ?_
        refine j_callVv (pc := 125) C (c_M_drops l D y mo ma t1 az t3 ez 0 pz i7 i8 i42 i49 yc yn (nI oz) i59 i61 i64 i66 t67 i76 i78 yf zw (by omega) (by omega) (by omega)) kw_Model_350 kv_Model_drops 0 10 rfl rfl ⟨by decide, by decide⟩ ⟨by decide, by decide⟩ (wr := [(ma 0, .inl (y 0, 1600, .inl (tby tx))), (ma 33, .inl (y 3, 2, .inl (WD 24))), (ma 34, .inl (y 3, 3, .inl (WD 25))), (ma 35, .inl (y 3, 3, .inl (WD 26))), (ma 36, .inl (y 3, 3, .inl (WD 27))), (ma 37, .inl (y 3, 3, .inl (WD 28))), (ma 38, .inl (y 3, 5, .inl (WD 29))), (ma 39, .inl (y 3, 5, .inl (WD 30))), (ma 40, .inl (y 3, 3, .inl (WD 31))), (ma 41, .inl (y 3, 3, .inl (WD 32)))]) [0, 11, 12] [1, 2, 3, 4, 5, 6, 7, 8, 9, 10] rfl rfl (by decide +kernel) (by decide +kernel) (by decide +kernel) (As := []) (rest := []) rfl (nb rfl) rfl d_Model_test_125 (fun _ _ => ?_)
        refine j_ws (ws' := [(ma 0, .inl (y 0, 1600, .inl (tby tx))), (ma 33, .inl (y 3, 2, .inl (WD 24))), (ma 34, .inl (y 3, 3, .inl (WD 25))), (ma 35, .inl (y 3, 3, .inl (WD 26))), (ma 36, .inl (y 3, 3, .inl (WD 27))), (ma 37, .inl (y 3, 3, .inl (WD 28))), (ma 38, .inl (y 3, 5, .inl (WD 29))), (ma 39, .inl (y 3, 5, .inl (WD 30))), (ma 40, .inl (y 3, 3, .inl (WD 31))), (ma 41, .inl (y 3, 3, .inl (WD 32))), MB mo ma (nI t1) (nI az) (nI t3) ez 0 pz i7 i8 i42 i49 (nI (yc + 1)) (nI (yn - 1)) (nI oz) i59 i61 i64 i66 (nI t67) i76 i78, (ma 50, .inl (y 0, 3200, .inl (upd yf yc (zw (yn - 1))))), (ma 52, .inl (y 0, 1700, .inl zw))]) rfl ?_
        refine j_goto (pc := 128) C (tgt := 110) d_Model_test_128 (by decide) ?_
        refine j_aload_n (pc := 110) C d_Model_test_110 rfl 1 rfl ?_
        refine j_get (pc := 111) C gf_Model_201 10 rfl rfl d_Model_test_111 ?_
        refine j_if_neF (pc := 114) C (tgt := 131) d_Model_test_114 (by decide) (by decide) ?_
        refine j_sub (ws' := [MB mo ma (nI t1) (nI az) (nI t3) ez 0 pz i7 i8 i42 i49 (nI (yc + 1)) (nI (yn - 1)) (nI oz) i59 i61 i64 i66 (nI t67) i76 i78, (ma 0, .inl (y 0, 1600, .inl (tby tx))), (ma 33, .inl (y 3, 2, .inl (WD 24))), (ma 34, .inl (y 3, 3, .inl (WD 25))), (ma 35, .inl (y 3, 3, .inl (WD 26))), (ma 36, .inl (y 3, 3, .inl (WD 27))), (ma 37, .inl (y 3, 3, .inl (WD 28))), (ma 38, .inl (y 3, 5, .inl (WD 29))), (ma 39, .inl (y 3, 5, .inl (WD 30))), (ma 40, .inl (y 3, 3, .inl (WD 31))), (ma 41, .inl (y 3, 3, .inl (WD 32))), (ma 50, .inl (y 0, 3200, .inl (upd yf yc (zw (yn - 1))))), (ma 52, .inl (y 0, 1700, .inl zw))]) [10, 0, 1, 2, 3, 4, 5, 6, 7, 8, 9, 11, 12] rfl (by decide +kernel) ?_
        exact ih268 ((yc + 1), (yn - 1), (upd yf yc (zw (yn - 1))), sq272, (putS vq271 cy)) ⟨(show (yn - 1) ≤ zn by omega), (show RS kq s0 f0 (xx + 1) 0 (upd yf yc (zw (yn - 1))) zw (yc + 1) (yn - 1) az from rs_drop hRy_ (by omega) (show yn = yn - 1 + 1 by omega) (Or.inr (ti_nq (hTM (yn - 1) (by omega)) (hNM (yn - 1) (by omega))))), xh276, (show CD (putS vq271 cy) (upd yf yc (zw (yn - 1))) (yc + 1) from cd_put hCy_ (by omega) xh274 (by omega)), (show emt sq272 (putS vq271 cy) = emt sz cz by rw [← hEy_, xh273]; rfl)⟩ (show (yn - 1) < yn by omega)
  · refine j_if_eqF (pc := 3) C (tgt := 110) d_Model_test_3 (by decide) (show ¬ nI mz = nI 0 from fun e => absurd ((nI_eq (by omega) (by omega)).mp e) (by omega)) ?_
    refine j_aload_n (pc := 6) C d_Model_test_6 rfl 1 rfl ?_
    refine j_get (pc := 7) C gf_Model_201 0 rfl rfl d_Model_test_7 ?_
    refine j_if_ne (pc := 10) C (tgt := 110) d_Model_test_10 (by decide) (fun c277 => ?_) (fun c277 => ?_)
    · have xh278 : RS kq s0 f0 (xx + 1) bz zf zw zc zn az := rs_bad hR_ c277
      refine j_aload_n (pc := 110) C d_Model_test_110 rfl 1 rfl ?_
      refine j_get (pc := 111) C gf_Model_201 0 rfl rfl d_Model_test_111 ?_
      refine j_if_neT (pc := 114) C (tgt := 131) d_Model_test_114 (by decide) c277 ?_
      exact j_vret (pc := 131) C hr (az, ez, bz, pz, zc, zn, oz, zf, zw) ⟨(show t2 ≤ az by omega), (show az ≤ t3 by omega), (fun e => absurd e c277), (rs_at xh278 (show az ≤ az by omega)), (rr_of hrr_ (ts_dead he he6 ((rr_z hx).mp rfl) (rr_le hx ((rr_z hx).mp rfl)) (hde_ c277) (fun q => c277 ((rr_z hrr_).mpr q)))), (fun e => absurd e c277)⟩ [0, 1, 2, 3, 4, 5, 6, 7, 8, 9, 10, 11, 12] rfl (by decide) (by decide) (by decide) d_Model_test_131
    · have hm1 : mz = 1 := by omega
      have xh279 : RS kq s0 f0 xx bz zf zw zc zn az := (by have hq := hR_; rw [hm1] at hq; exact hq)
      have hT0 : ITm zw zn := hT_ c277
      refine j_ws (ws' := [MB mo ma (nI t1) (nI az) (nI t3) ez 0 pz i7 i8 i42 i49 (nI zc) (nI zn) (nI oz) i59 i61 i64 i66 (nI t67) i76 i78, (ma 0, .inl (y 0, 1600, .inl (tby tx))), (ma 33, .inl (y 3, 2, .inl (WD 24))), (ma 34, .inl (y 3, 3, .inl (WD 25))), (ma 35, .inl (y 3, 3, .inl (WD 26))), (ma 36, .inl (y 3, 3, .inl (WD 27))), (ma 37, .inl (y 3, 3, .inl (WD 28))), (ma 38, .inl (y 3, 5, .inl (WD 29))), (ma 39, .inl (y 3, 5, .inl (WD 30))), (ma 40, .inl (y 3, 3, .inl (WD 31))), (ma 41, .inl (y 3, 3, .inl (WD 32))), (ma 50, .inl (y 0, 3200, .inl zf)), (ma 52, .inl (y 0, 1700, .inl zw))]) (by rw [c277]) ?_
      have xh280 : RS kq s0 f0 xx 0 zf zw zc zn az := rs_z xh279 c277
      have xh281 : RR tx t3 gz az ez 0 pz := by have hq := hrr_; rw [c277] at hq; exact hq
      obtain ⟨xh282, xh283, xh284, xh285⟩ := hal_ hm1 c277
      refine j_aload_n (pc := 13) C d_Model_test_13 rfl 1 rfl ?_
      refine j_callVi (pc := 14) C (c_M_look l D y mo ma t1 az t3 ez 0 pz i7 i8 i42 i49 (nI zc) (nI zn) (nI oz) i59 i61 i64 i66 t67 i76 i78 tx gz hz_ he hB xh281 rfl) kw_Model_213 kv_Model_look 0 10 rfl rfl ⟨by decide, by decide⟩ ⟨by decide, by decide⟩ (wr := [(ma 33, .inl (y 3, 2, .inl (WD 24))), (ma 34, .inl (y 3, 3, .inl (WD 25))), (ma 35, .inl (y 3, 3, .inl (WD 26))), (ma 36, .inl (y 3, 3, .inl (WD 27))), (ma 37, .inl (y 3, 3, .inl (WD 28))), (ma 38, .inl (y 3, 5, .inl (WD 29))), (ma 39, .inl (y 3, 5, .inl (WD 30))), (ma 40, .inl (y 3, 3, .inl (WD 31))), (ma 41, .inl (y 3, 3, .inl (WD 32))), (ma 50, .inl (y 0, 3200, .inl zf)), (ma 52, .inl (y 0, 1700, .inl zw))]) [0, 1] [2, 3, 4, 5, 6, 7, 8, 9, 10, 11, 12] rfl rfl (by decide +kernel) (by decide +kernel) (by decide +kernel) (As := []) (rest := []) rfl (nb rfl) rfl d_Model_test_14 (fun r286 u287 hr286 => ?_)
      refine j_ws (ws' := [(ma 33, .inl (y 3, 2, .inl (WD 24))), (ma 34, .inl (y 3, 3, .inl (WD 25))), (ma 35, .inl (y 3, 3, .inl (WD 26))), (ma 36, .inl (y 3, 3, .inl (WD 27))), (ma 37, .inl (y 3, 3, .inl (WD 28))), (ma 38, .inl (y 3, 5, .inl (WD 29))), (ma 39, .inl (y 3, 5, .inl (WD 30))), (ma 40, .inl (y 3, 3, .inl (WD 31))), (ma 41, .inl (y 3, 3, .inl (WD 32))), (ma 50, .inl (y 0, 3200, .inl zf)), (ma 52, .inl (y 0, 1700, .inl zw)), MB mo ma (nI t1) (nI u287) (nI t3) ez 0 pz i7 i8 i42 i49 (nI zc) (nI zn) (nI oz) i59 i61 i64 i66 (nI t67) i76 i78, (ma 0, .inl (y 0, 1600, .inl (tby tx)))]) rfl ?_
      obtain ⟨xh288, xh289, xh290, xh291, xh292⟩ := hr286
      rcases xh292 with ⟨rfl, xh293⟩ | ⟨rfl, xh294⟩
      · refine j_istore_n (pc := 17) C (lv' := [(2, .int (-1)), (1, .int (nI mz)), (0, .ref mo)]) d_Model_test_17 rfl (by decide) rfl ?_
        refine j_iload_n (pc := 18) C d_Model_test_18 rfl 0 rfl ?_
        refine j_bipush (pc := 19) C (v := 91) d_Model_test_19 (by decide) ?_
        refine j_icmp_neT (pc := 21) C (tgt := 47) d_Model_test_21 (by decide) (by decide) ?_
        refine j_aload_n (pc := 47) C d_Model_test_47 rfl 2 rfl ?_
        refine j_aload_n (pc := 48) C d_Model_test_48 rfl 2 rfl ?_
        refine j_get (pc := 49) C gf_Model_96 11 rfl rfl d_Model_test_49 ?_
        refine j_callVi (pc := 52) C (c_M_isHere_3 l D y mo (ma 35) ma t1 u287 t3 ez 0 pz i7 i8 i42 i49 (nI zc) (nI zn) (nI oz) i59 i61 i64 i66 t67 i76 i78 tx 26 gz xh289 he hB xh291 (by omega) (by decide)) kw_Model_224 kv_Model_isHere 0 10 rfl rfl ⟨by decide, by decide⟩ ⟨by decide, by decide⟩ (wr := [(ma 33, .inl (y 3, 2, .inl (WD 24))), (ma 34, .inl (y 3, 3, .inl (WD 25))), (ma 36, .inl (y 3, 3, .inl (WD 27))), (ma 37, .inl (y 3, 3, .inl (WD 28))), (ma 38, .inl (y 3, 5, .inl (WD 29))), (ma 39, .inl (y 3, 5, .inl (WD 30))), (ma 40, .inl (y 3, 3, .inl (WD 31))), (ma 41, .inl (y 3, 3, .inl (WD 32))), (ma 50, .inl (y 0, 3200, .inl zf)), (ma 52, .inl (y 0, 1700, .inl zw))]) [11, 12, 2] [0, 1, 3, 4, 5, 6, 7, 8, 9, 10] rfl rfl (by decide +kernel) (by decide +kernel) (by decide +kernel) (As := [.ref (ma 35)]) (rest := []) rfl (nb rfl) rfl d_Model_test_52 (fun r295 u296 hr295 => ?_)
        refine j_ws (ws' := [(ma 33, .inl (y 3, 2, .inl (WD 24))), (ma 34, .inl (y 3, 3, .inl (WD 25))), (ma 36, .inl (y 3, 3, .inl (WD 27))), (ma 37, .inl (y 3, 3, .inl (WD 28))), (ma 38, .inl (y 3, 5, .inl (WD 29))), (ma 39, .inl (y 3, 5, .inl (WD 30))), (ma 40, .inl (y 3, 3, .inl (WD 31))), (ma 41, .inl (y 3, 3, .inl (WD 32))), (ma 50, .inl (y 0, 3200, .inl zf)), (ma 52, .inl (y 0, 1700, .inl zw)), MB mo ma (nI t1) (nI u296) (nI t3) ez 0 pz i7 i8 i42 i49 (nI zc) (nI zn) (nI oz) i59 i61 i64 i66 (nI t67) i76 i78, (ma 0, .inl (y 0, 1600, .inl (tby tx))), (ma 35, .inl (y 3, 3, .inl (WD 26)))]) rfl ?_
        obtain ⟨xh297, xh298, xh299, xh300, xh301⟩ := hr295
        rcases xh301 with ⟨rfl, xh302⟩ | ⟨rfl, xh303, xh304⟩
        · refine j_if_eqT (pc := 55) C (tgt := 79) d_Model_test_55 (by decide) (by decide) ?_
          have xh305 : gz.1 = 0 := ((rr_z xh300).mp rfl)
          refine j_aload_n (pc := 79) C d_Model_test_79 rfl 2 rfl ?_
          refine j_callVv (pc := 80) C (c_M_fact l D y mo ma t1 u296 t3 ez pz i7 i8 i42 i49 zc zn oz i59 i61 i64 i66 t67 i76 i78 tx zf zw gz s0 xx cz kq f0 (6 - oz) xh298 he hB xh300 (rs_at xh280 (by omega)) hT0 xh283 (by omega) hK) kw_Model_371 kv_Model_fact 0 10 rfl rfl ⟨by decide, by decide⟩ ⟨by decide, by decide⟩ (wr := [(ma 33, .inl (y 3, 2, .inl (WD 24))), (ma 34, .inl (y 3, 3, .inl (WD 25))), (ma 35, .inl (y 3, 3, .inl (WD 26)))]) [10, 11, 2, 3, 4, 5, 6, 7, 8, 9] [0, 1, 12] rfl rfl (by decide +kernel) (by decide +kernel) (by decide +kernel) (As := []) (rest := []) rfl (nb rfl) rfl d_Model_test_80 (fun u306 hu307 => ?_)
          obtain ⟨xh308, xh309, xh310, xh311, xh312, xh313, xh314, xh315, xh316, xh317⟩ := hu307
          refine j_ws (ws' := [(ma 33, .inl (y 3, 2, .inl (WD 24))), (ma 34, .inl (y 3, 3, .inl (WD 25))), (ma 35, .inl (y 3, 3, .inl (WD 26))), MB mo ma (nI t1) (nI u306.1) (nI t3) u306.2.1 u306.2.2.1 u306.2.2.2.1 i7 i8 i42 i49 (nI u306.2.2.2.2.1) (nI u306.2.2.2.2.2.1) (nI u306.2.2.2.2.2.2.1) i59 i61 i64 i66 (nI t67) i76 i78, (ma 0, .inl (y 0, 1600, .inl (tby tx))), (ma 36, .inl (y 3, 3, .inl (WD 27))), (ma 37, .inl (y 3, 3, .inl (WD 28))), (ma 38, .inl (y 3, 5, .inl (WD 29))), (ma 39, .inl (y 3, 5, .inl (WD 30))), (ma 40, .inl (y 3, 3, .inl (WD 31))), (ma 41, .inl (y 3, 3, .inl (WD 32))), (ma 50, .inl (y 0, 3200, .inl u306.2.2.2.2.2.2.2.1)), (ma 52, .inl (y 0, 1700, .inl u306.2.2.2.2.2.2.2.2))]) rfl ?_
          by_cases c318 : u306.2.2.1 = 0
          · have hpg := (xh310 c318).2
            obtain ⟨xh319, xh320⟩ := xh316 c318
            have xh321 : (fact0 tx t3 (6 - oz) (gz, cz)).1.1 = 0 := (rr_z xh314).mp c318
            refine j_ws (ws' := [(ma 33, .inl (y 3, 2, .inl (WD 24))), (ma 34, .inl (y 3, 3, .inl (WD 25))), (ma 35, .inl (y 3, 3, .inl (WD 26))), MB mo ma (nI t1) (nI u306.1) (nI t3) u306.2.1 0 u306.2.2.2.1 i7 i8 i42 i49 (nI u306.2.2.2.2.1) (nI u306.2.2.2.2.2.1) (nI u306.2.2.2.2.2.2.1) i59 i61 i64 i66 (nI t67) i76 i78, (ma 0, .inl (y 0, 1600, .inl (tby tx))), (ma 36, .inl (y 3, 3, .inl (WD 27))), (ma 37, .inl (y 3, 3, .inl (WD 28))), (ma 38, .inl (y 3, 5, .inl (WD 29))), (ma 39, .inl (y 3, 5, .inl (WD 30))), (ma 40, .inl (y 3, 3, .inl (WD 31))), (ma 41, .inl (y 3, 3, .inl (WD 32))), (ma 50, .inl (y 0, 3200, .inl u306.2.2.2.2.2.2.2.1)), (ma 52, .inl (y 0, 1700, .inl u306.2.2.2.2.2.2.2.2))]) (by rw [c318]) ?_
            have xh322 : RS kq s0 f0 (xx + 1) 0 u306.2.2.2.2.2.2.2.1 u306.2.2.2.2.2.2.2.2 u306.2.2.2.2.1 u306.2.2.2.2.2.1 u306.1 := rs_z xh311 c318
            have xh323 : RR tx t3 ((fact0 tx t3 (6 - oz) (gz, cz)).1) u306.1 u306.2.1 0 u306.2.2.2.1 := by have hq := xh314; rw [c318] at hq; exact hq
            have xh324 : WB sz u306.2.2.2.2.2.2.2.2 0 u306.2.2.2.2.2.1 := by rw [hpg.2]; exact wb_fr xh284 xh317
            have xh325 : opn sz ≤ u306.2.2.2.2.2.2.1 := by rw [xh320]; exact xh285
            refine j_aload_n (pc := 83) C d_Model_test_83 rfl 2 rfl ?_
            refine j_callVv (pc := 84) C (c_M_dropsNots_A l D y mo ma t1 u306.1 t3 u306.2.1 u306.2.2.2.1 i7 i8 i42 i49 u306.2.2.2.2.1 u306.2.2.2.2.2.1 u306.2.2.2.2.2.2.1 i59 i61 i64 i66 t67 i76 i78 u306.2.2.2.2.2.2.2.1 u306.2.2.2.2.2.2.2.2 s0 xx sz ((fact0 tx t3 (6 - oz) (gz, cz)).2) kq f0 xh309 he xh322 xh324 xh319 xh325 (by omega) hK) kw_Model_374 kv_Model_dropsNots 0 10 rfl rfl ⟨by decide, by decide⟩ ⟨by decide, by decide⟩ (wr := [(ma 33, .inl (y 3, 2, .inl (WD 24))), (ma 34, .inl (y 3, 3, .inl (WD 25))), (ma 35, .inl (y 3, 3, .inl (WD 26))), (ma 0, .inl (y 0, 1600, .inl (tby tx))), (ma 36, .inl (y 3, 3, .inl (WD 27))), (ma 37, .inl (y 3, 3, .inl (WD 28))), (ma 38, .inl (y 3, 5, .inl (WD 29))), (ma 39, .inl (y 3, 5, .inl (WD 30))), (ma 40, .inl (y 3, 3, .inl (WD 31))), (ma 41, .inl (y 3, 3, .inl (WD 32)))]) [3, 11, 12] [0, 1, 2, 4, 5, 6, 7, 8, 9, 10] rfl rfl (by decide +kernel) (by decide +kernel) (by decide +kernel) (As := []) (rest := []) rfl (nb rfl) rfl d_Model_test_84 (fun u326 hu327 => ?_)
            obtain ⟨xh328, xh329, xh330, xh331, xh332, xh333, xh334⟩ := hu327
            refine j_ws (ws' := [(ma 33, .inl (y 3, 2, .inl (WD 24))), (ma 34, .inl (y 3, 3, .inl (WD 25))), (ma 35, .inl (y 3, 3, .inl (WD 26))), (ma 0, .inl (y 0, 1600, .inl (tby tx))), (ma 36, .inl (y 3, 3, .inl (WD 27))), (ma 37, .inl (y 3, 3, .inl (WD 28))), (ma 38, .inl (y 3, 5, .inl (WD 29))), (ma 39, .inl (y 3, 5, .inl (WD 30))), (ma 40, .inl (y 3, 3, .inl (WD 31))), (ma 41, .inl (y 3, 3, .inl (WD 32))), MB mo ma (nI t1) (nI u306.1) (nI t3) u306.2.1 0 u306.2.2.2.1 i7 i8 i42 i49 (nI u326.1) (nI u326.2.1) (nI u326.2.2.1) i59 i61 i64 i66 (nI t67) i76 i78, (ma 50, .inl (y 0, 3200, .inl u326.2.2.2.1)), (ma 52, .inl (y 0, 1700, .inl u306.2.2.2.2.2.2.2.2))]) rfl ?_
            have xh335 : dnN sz (fact0 tx t3 (6 - oz) (gz, cz)).2 oz = (u326.2.2.2.2.2, u326.2.2.2.2.1, u326.2.2.1) := by have hq := xh334; rw [xh320] at hq; exact hq
            have xh336 : Rcb tx t3 (0, (gs, cs, [], oo)) (1, ((fact0 tx t3 (6 - oz) (gz, cz)).1, u326.2.2.2.2.1, u326.2.2.2.2.2, u326.2.2.1)) := xh282.tr (Rcb.st ((stT _ _ _ _).trans ((sT_el xh305 (sg_no1 ((rr_z xh300).mp rfl) xh290 xh293) xh302).trans ((if_neg (nn xh321)).trans (by rw [xh335] <;> rfl)))) (Rcb.rf _))
            refine j_aload_n (pc := 87) C d_Model_test_87 rfl 2 rfl ?_
            refine j_get (pc := 88) C gf_Model_201 10 rfl rfl d_Model_test_88 ?_
            refine j_if_neF (pc := 91) C (tgt := 105) d_Model_test_91 (by decide) (by decide) ?_
            refine j_aload_n (pc := 94) C d_Model_test_94 rfl 2 rfl ?_
            refine j_callVi (pc := 95) C (c_M_goesOnTest l D y mo ma t1 u306.1 t3 u306.2.1 u306.2.2.2.1 i7 i8 i42 i49 u326.1 u326.2.1 u326.2.2.1 i59 i61 i64 i66 t67 i76 i78 tx u326.2.2.2.1 u306.2.2.2.2.2.2.2.2 ((fact0 tx t3 (6 - oz) (gz, cz)).1) s0 xx u326.2.2.2.2.2 u326.2.2.2.2.1 kq f0 xh309 he hB xh323 xh329 (it_le xh312 (by omega)) xh330 xh331 xh332 (by omega) hK) kw_Model_377 kv_Model_goesOnTest 0 10 rfl rfl ⟨by decide, by decide⟩ ⟨by decide, by decide⟩ (wr := [(ma 35, .inl (y 3, 3, .inl (WD 26))), (ma 36, .inl (y 3, 3, .inl (WD 27))), (ma 37, .inl (y 3, 3, .inl (WD 28))), (ma 38, .inl (y 3, 5, .inl (WD 29))), (ma 39, .inl (y 3, 5, .inl (WD 30))), (ma 40, .inl (y 3, 3, .inl (WD 31))), (ma 41, .inl (y 3, 3, .inl (WD 32)))]) [10, 3, 0, 1, 11, 12] [2, 4, 5, 6, 7, 8, 9] rfl rfl (by decide +kernel) (by decide +kernel) (by decide +kernel) (As := []) (rest := []) rfl (nb rfl) rfl d_Model_test_95 (fun r337 u338 hr337 => ?_)
            refine j_ws (ws' := [(ma 35, .inl (y 3, 3, .inl (WD 26))), (ma 36, .inl (y 3, 3, .inl (WD 27))), (ma 37, .inl (y 3, 3, .inl (WD 28))), (ma 38, .inl (y 3, 5, .inl (WD 29))), (ma 39, .inl (y 3, 5, .inl (WD 30))), (ma 40, .inl (y 3, 3, .inl (WD 31))), (ma 41, .inl (y 3, 3, .inl (WD 32))), MB mo ma (nI t1) (nI u338.1) (nI t3) u338.2.1 u338.2.2.1 u338.2.2.2.1 i7 i8 i42 i49 (nI u338.2.2.2.2.1) (nI u338.2.2.2.2.2.1) (nI u338.2.2.2.2.2.2.1) i59 i61 i64 i66 (nI t67) i76 i78, (ma 0, .inl (y 0, 1600, .inl (tby tx))), (ma 33, .inl (y 3, 2, .inl (WD 24))), (ma 34, .inl (y 3, 3, .inl (WD 25))), (ma 50, .inl (y 0, 3200, .inl u338.2.2.2.2.2.2.2.1)), (ma 52, .inl (y 0, 1700, .inl u338.2.2.2.2.2.2.2.2.1))]) rfl ?_
            obtain ⟨xh339, xh340, xh341, xh342, xh343, xh344, xh345⟩ := hr337
            rcases xh345 with ⟨rfl, e346, xh347, xh348⟩ | ⟨rfl, xh349, xh350, xh351⟩
            · refine j_if_eqF (pc := 98) C (tgt := 105) d_Model_test_98 (by decide) (by decide) ?_
              refine j_iconst (pc := 101) C (v := 1) d_Model_test_101 (by decide) ?_
              refine j_goto (pc := 102) C (tgt := 106) d_Model_test_102 (by decide) ?_
              refine j_istore_n (pc := 106) C (lv' := [(1, .int 1), (2, .int (-1)), (0, .ref mo)]) d_Model_test_106 rfl (by decide) rfl ?_
              refine j_goto (pc := 107) C (tgt := 2) d_Model_test_107 (by decide) ?_
              refine j_sub (ws' := [MB mo ma (nI t1) (nI u338.1) (nI t3) u338.2.1 u338.2.2.1 u338.2.2.2.1 i7 i8 i42 i49 (nI u338.2.2.2.2.1) (nI u338.2.2.2.2.2.1) (nI u338.2.2.2.2.2.2.1) i59 i61 i64 i66 (nI t67) i76 i78, (ma 0, .inl (y 0, 1600, .inl (tby tx))), (ma 33, .inl (y 3, 2, .inl (WD 24))), (ma 34, .inl (y 3, 3, .inl (WD 25))), (ma 35, .inl (y 3, 3, .inl (WD 26))), (ma 36, .inl (y 3, 3, .inl (WD 27))), (ma 37, .inl (y 3, 3, .inl (WD 28))), (ma 38, .inl (y 3, 5, .inl (WD 29))), (ma 39, .inl (y 3, 5, .inl (WD 30))), (ma 40, .inl (y 3, 3, .inl (WD 31))), (ma 41, .inl (y 3, 3, .inl (WD 32))), (ma 50, .inl (y 0, 3200, .inl u338.2.2.2.2.2.2.2.1)), (ma 52, .inl (y 0, 1700, .inl u338.2.2.2.2.2.2.2.2.1))]) [7, 8, 9, 10, 0, 1, 2, 3, 4, 5, 6, 11, 12] rfl (by decide +kernel) ?_
              refine j_locs (lv' := [(1, .int 1), (0, .ref mo)]) [0, 2] rfl ?_
              have hz1 := bz_e c277
              have hz0 := bz_le u338.2.2.1
              have hz2 : bz1 u338.2.2.1 = 0 ∨ az + 1 ≤ u338.1 := Or.inr (by omega)
              exact ih249 (1, u338.1, u338.2.2.1, u338.2.2.2.2.2.1, u338.2.2.2.2.1, u338.2.2.2.2.2.2.2.1, u338.2.2.2.2.2.2.2.2.1, u338.2.1, u338.2.2.2.1, u338.2.2.2.2.2.2.1, u338.2.2.2.2.2.2.2.2.2.1, u338.2.2.2.2.2.2.2.2.2.2.1, u338.2.2.2.2.2.2.2.2.2.2.2) ⟨xh340, (show t2 ≤ u338.1 by omega), (show 1 ≤ 1 by omega), (fun _ => xh342), (show RS kq s0 f0 (xx + (1 - 1)) u338.2.2.1 u338.2.2.2.2.2.2.2.1 u338.2.2.2.2.2.2.2.2.1 u338.2.2.2.2.1 u338.2.2.2.2.2.1 u338.1 from rs_at xh347 (by omega)), (fun e => absurd e (by omega)), (show RR tx t3 u338.2.2.2.2.2.2.2.2.2.1 u338.1 u338.2.1 u338.2.2.1 u338.2.2.2.1 from xh343), xh344, (fun _ _ => ⟨(xh336.tr xh348.1), xh348.2.1, xh348.2.2.1, xh348.2.2.2⟩), (fun e => absurd (show (1 : Nat) = 0 from e) (by omega)), (fun e => absurd e346 e)⟩ (show 2 * (t3 - u338.1) + bz1 u338.2.2.1 + 1 < 2 * (t3 - az) + bz1 bz + mz by omega)
            · refine j_if_eqT (pc := 98) C (tgt := 105) d_Model_test_98 (by decide) (by decide) ?_
              refine j_iconst (pc := 105) C (v := 0) d_Model_test_105 (by decide) ?_
              refine j_istore_n (pc := 106) C (lv' := [(1, .int 0), (2, .int (-1)), (0, .ref mo)]) d_Model_test_106 rfl (by decide) rfl ?_
              refine j_goto (pc := 107) C (tgt := 2) d_Model_test_107 (by decide) ?_
              refine j_sub (ws' := [MB mo ma (nI t1) (nI u338.1) (nI t3) u338.2.1 u338.2.2.1 u338.2.2.2.1 i7 i8 i42 i49 (nI u338.2.2.2.2.1) (nI u338.2.2.2.2.2.1) (nI u338.2.2.2.2.2.2.1) i59 i61 i64 i66 (nI t67) i76 i78, (ma 0, .inl (y 0, 1600, .inl (tby tx))), (ma 33, .inl (y 3, 2, .inl (WD 24))), (ma 34, .inl (y 3, 3, .inl (WD 25))), (ma 35, .inl (y 3, 3, .inl (WD 26))), (ma 36, .inl (y 3, 3, .inl (WD 27))), (ma 37, .inl (y 3, 3, .inl (WD 28))), (ma 38, .inl (y 3, 5, .inl (WD 29))), (ma 39, .inl (y 3, 5, .inl (WD 30))), (ma 40, .inl (y 3, 3, .inl (WD 31))), (ma 41, .inl (y 3, 3, .inl (WD 32))), (ma 50, .inl (y 0, 3200, .inl u338.2.2.2.2.2.2.2.1)), (ma 52, .inl (y 0, 1700, .inl u338.2.2.2.2.2.2.2.2.1))]) [7, 8, 9, 10, 0, 1, 2, 3, 4, 5, 6, 11, 12] rfl (by decide +kernel) ?_
              refine j_locs (lv' := [(1, .int 0), (0, .ref mo)]) [0, 2] rfl ?_
              have hz1 := bz_e c277
              have hz0 := bz_le u338.2.2.1
              exact ih249 (0, u338.1, u338.2.2.1, u338.2.2.2.2.2.1, u338.2.2.2.2.1, u338.2.2.2.2.2.2.2.1, u338.2.2.2.2.2.2.2.2.1, u338.2.1, u338.2.2.2.1, u338.2.2.2.2.2.2.1, u338.2.2.2.2.2.2.2.2.2.1, u338.2.2.2.2.2.2.2.2.2.2.1, u338.2.2.2.2.2.2.2.2.2.2.2) ⟨xh340, (show t2 ≤ u338.1 by omega), (show 0 ≤ 1 by omega), (fun _ => xh342), (show RS kq s0 f0 (xx + (1 - 0)) u338.2.2.1 u338.2.2.2.2.2.2.2.1 u338.2.2.2.2.2.2.2.2.1 u338.2.2.2.2.1 u338.2.2.2.2.2.1 u338.1 from rs_at xh349 (by omega)), (fun _ e => (xh350 e).1), (show RR tx t3 u338.2.2.2.2.2.2.2.2.2.1 u338.1 u338.2.1 u338.2.2.1 u338.2.2.2.1 from xh343), xh344, (fun e => absurd (show (0 : Nat) = 1 from e) (by decide)), (fun _ e => ⟨xh336.tr (xh350 e).2.1, (xh350 e).2.2.1, (xh350 e).2.2.2.1, (xh350 e).2.2.2.2⟩), (fun e => by obtain ⟨c3, s3, o3, h3_⟩ := xh351 e; exact ⟨c3, s3, o3, xh336.tr h3_⟩)⟩ (show 2 * (t3 - u338.1) + bz1 u338.2.2.1 + 0 < 2 * (t3 - az) + bz1 bz + mz by omega)
          · have xh352 : ¬ (fact0 tx t3 (6 - oz) (gz, cz)).1.1 = 0 := fun q => c318 ((rr_z xh314).mpr q)
            have xh353 : Rcb tx t3 (0, (gs, cs, [], oo)) (2, ((fact0 tx t3 (6 - oz) (gz, cz)).1, cz, sz, oz)) := xh282.tr (Rcb.st ((stT _ _ _ _).trans ((sT_el xh305 (sg_no1 ((rr_z xh300).mp rfl) xh290 xh293) xh302).trans (if_pos xh352))) (Rcb.rf _))
            refine j_aload_n (pc := 83) C d_Model_test_83 rfl 2 rfl ?_
            refine j_callVv (pc := 84) C (c_M_dropsNots_D l D y mo ma t1 u306.1 t3 u306.2.1 u306.2.2.1 u306.2.2.2.1 i7 i8 i42 i49 (nI u306.2.2.2.2.1) (nI u306.2.2.2.2.2.1) (nI u306.2.2.2.2.2.2.1) i59 i61 i64 i66 t67 i76 i78 u306.2.2.2.2.2.2.2.1 u306.2.2.2.2.2.2.2.2 c318) kw_Model_374 kv_Model_dropsNots 0 10 rfl rfl ⟨by decide, by decide⟩ ⟨by decide, by decide⟩ (wr := [(ma 33, .inl (y 3, 2, .inl (WD 24))), (ma 34, .inl (y 3, 3, .inl (WD 25))), (ma 35, .inl (y 3, 3, .inl (WD 26))), (ma 0, .inl (y 0, 1600, .inl (tby tx))), (ma 36, .inl (y 3, 3, .inl (WD 27))), (ma 37, .inl (y 3, 3, .inl (WD 28))), (ma 38, .inl (y 3, 5, .inl (WD 29))), (ma 39, .inl (y 3, 5, .inl (WD 30))), (ma 40, .inl (y 3, 3, .inl (WD 31))), (ma 41, .inl (y 3, 3, .inl (WD 32)))]) [3, 11, 12] [0, 1, 2, 4, 5, 6, 7, 8, 9, 10] rfl rfl (by decide +kernel) (by decide +kernel) (by decide +kernel) (As := []) (rest := []) rfl (nb rfl) rfl d_Model_test_84 (fun _ hu354 => ?_)
            refine j_ws (ws' := [(ma 33, .inl (y 3, 2, .inl (WD 24))), (ma 34, .inl (y 3, 3, .inl (WD 25))), (ma 35, .inl (y 3, 3, .inl (WD 26))), (ma 0, .inl (y 0, 1600, .inl (tby tx))), (ma 36, .inl (y 3, 3, .inl (WD 27))), (ma 37, .inl (y 3, 3, .inl (WD 28))), (ma 38, .inl (y 3, 5, .inl (WD 29))), (ma 39, .inl (y 3, 5, .inl (WD 30))), (ma 40, .inl (y 3, 3, .inl (WD 31))), (ma 41, .inl (y 3, 3, .inl (WD 32))), MB mo ma (nI t1) (nI u306.1) (nI t3) u306.2.1 u306.2.2.1 u306.2.2.2.1 i7 i8 i42 i49 (nI u306.2.2.2.2.1) (nI u306.2.2.2.2.2.1) (nI u306.2.2.2.2.2.2.1) i59 i61 i64 i66 (nI t67) i76 i78, (ma 50, .inl (y 0, 3200, .inl u306.2.2.2.2.2.2.2.1)), (ma 52, .inl (y 0, 1700, .inl u306.2.2.2.2.2.2.2.2))]) rfl ?_
            refine j_aload_n (pc := 87) C d_Model_test_87 rfl 2 rfl ?_
            refine j_get (pc := 88) C gf_Model_201 10 rfl rfl d_Model_test_88 ?_
            refine j_if_neT (pc := 91) C (tgt := 105) d_Model_test_91 (by decide) c318 ?_
            refine j_iconst (pc := 105) C (v := 0) d_Model_test_105 (by decide) ?_
            refine j_istore_n (pc := 106) C (lv' := [(1, .int 0), (2, .int (-1)), (0, .ref mo)]) d_Model_test_106 rfl (by decide) rfl ?_
            refine j_goto (pc := 107) C (tgt := 2) d_Model_test_107 (by decide) ?_
            refine j_sub (ws' := [MB mo ma (nI t1) (nI u306.1) (nI t3) u306.2.1 u306.2.2.1 u306.2.2.2.1 i7 i8 i42 i49 (nI u306.2.2.2.2.1) (nI u306.2.2.2.2.2.1) (nI u306.2.2.2.2.2.2.1) i59 i61 i64 i66 (nI t67) i76 i78, (ma 0, .inl (y 0, 1600, .inl (tby tx))), (ma 33, .inl (y 3, 2, .inl (WD 24))), (ma 34, .inl (y 3, 3, .inl (WD 25))), (ma 35, .inl (y 3, 3, .inl (WD 26))), (ma 36, .inl (y 3, 3, .inl (WD 27))), (ma 37, .inl (y 3, 3, .inl (WD 28))), (ma 38, .inl (y 3, 5, .inl (WD 29))), (ma 39, .inl (y 3, 5, .inl (WD 30))), (ma 40, .inl (y 3, 3, .inl (WD 31))), (ma 41, .inl (y 3, 3, .inl (WD 32))), (ma 50, .inl (y 0, 3200, .inl u306.2.2.2.2.2.2.2.1)), (ma 52, .inl (y 0, 1700, .inl u306.2.2.2.2.2.2.2.2))]) [10, 3, 0, 1, 2, 4, 5, 6, 7, 8, 9, 11, 12] rfl (by decide +kernel) ?_
            refine j_locs (lv' := [(1, .int 0), (0, .ref mo)]) [0, 2] rfl ?_
            have hz1 := bz_e c277
            have hz0 := bz_le u306.2.2.1
            exact ih249 (0, u306.1, u306.2.2.1, u306.2.2.2.2.2.1, u306.2.2.2.2.1, u306.2.2.2.2.2.2.2.1, u306.2.2.2.2.2.2.2.2, u306.2.1, u306.2.2.2.1, u306.2.2.2.2.2.2.1, (fact0 tx t3 (6 - oz) (gz, cz)).1, (fact0 tx t3 (6 - oz) (gz, cz)).2, sz) ⟨xh309, (show t2 ≤ u306.1 by omega), (show 0 ≤ 1 by omega), (fun e => absurd e c318), (show RS kq s0 f0 (xx + (1 - 0)) u306.2.2.1 u306.2.2.2.2.2.2.2.1 u306.2.2.2.2.2.2.2.2 u306.2.2.2.2.1 u306.2.2.2.2.2.1 u306.1 from rs_at xh311 (by omega)), (fun _ e => absurd e c318), (show RR tx t3 ((fact0 tx t3 (6 - oz) (gz, cz)).1) u306.1 u306.2.1 u306.2.2.1 u306.2.2.2.1 from xh314), xh315, (fun e => absurd (show (0 : Nat) = 1 from e) (by decide)), (fun _ e => absurd e c318), (fun _ => ⟨_, _, _, xh353⟩)⟩ (show 2 * (t3 - u306.1) + bz1 u306.2.2.1 + 0 < 2 * (t3 - az) + bz1 bz + mz by omega)
        · refine j_if_eqF (pc := 55) C (tgt := 79) d_Model_test_55 (by decide) (by decide) ?_
          refine j_aload_n (pc := 58) C d_Model_test_58 rfl 2 rfl ?_
          refine j_bipush (pc := 59) C (v := 16) d_Model_test_59 (by decide) ?_
          refine j_aload_n (pc := 61) C d_Model_test_61 rfl 2 rfl ?_
          refine j_get (pc := 62) C gf_Model_207 10 rfl rfl d_Model_test_62 ?_
          have xh355 : gz.1 = 0 := ((rr_z xh300).mp rfl)
          by_cases c356 : oz = 6
          · refine j_callVv (pc := 65) C (c_M_opens_N l D y mo ma t1 u296 t3 ez 0 pz i7 i8 i42 i49 (nI zc) zn oz i59 i61 i64 i66 t67 i76 i78 zw 16 u296 gz tx (by omega) ((rr_z xh300).mp rfl) (by omega) rfl) kw_Model_353 kv_Model_opens 0 10 rfl rfl ⟨by decide, by decide⟩ ⟨by decide, by decide⟩ (wr := [(ma 33, .inl (y 3, 2, .inl (WD 24))), (ma 34, .inl (y 3, 3, .inl (WD 25))), (ma 36, .inl (y 3, 3, .inl (WD 27))), (ma 37, .inl (y 3, 3, .inl (WD 28))), (ma 38, .inl (y 3, 5, .inl (WD 29))), (ma 39, .inl (y 3, 5, .inl (WD 30))), (ma 40, .inl (y 3, 3, .inl (WD 31))), (ma 41, .inl (y 3, 3, .inl (WD 32))), (ma 50, .inl (y 0, 3200, .inl zf)), (ma 0, .inl (y 0, 1600, .inl (tby tx))), (ma 35, .inl (y 3, 3, .inl (WD 26)))]) [10, 9] [0, 1, 2, 3, 4, 5, 6, 7, 8, 11, 12] rfl rfl (by decide +kernel) (by decide +kernel) (by decide +kernel) (As := [.int 16, .int (nI u296)]) (rest := []) rfl (nb rfl) rfl d_Model_test_65 (fun u357 hu358 => ?_)
            obtain ⟨xh359, xh360⟩ := hu358
            refine j_ws (ws' := [(ma 33, .inl (y 3, 2, .inl (WD 24))), (ma 34, .inl (y 3, 3, .inl (WD 25))), (ma 36, .inl (y 3, 3, .inl (WD 27))), (ma 37, .inl (y 3, 3, .inl (WD 28))), (ma 38, .inl (y 3, 5, .inl (WD 29))), (ma 39, .inl (y 3, 5, .inl (WD 30))), (ma 40, .inl (y 3, 3, .inl (WD 31))), (ma 41, .inl (y 3, 3, .inl (WD 32))), (ma 50, .inl (y 0, 3200, .inl zf)), (ma 0, .inl (y 0, 1600, .inl (tby tx))), (ma 35, .inl (y 3, 3, .inl (WD 26))), MB mo ma (nI t1) (nI u296) (nI t3) ez u357.1 u357.2 i7 i8 i42 i49 (nI zc) (nI zn) (nI oz) i59 i61 i64 i66 (nI t67) i76 i78, (ma 52, .inl (y 0, 1700, .inl zw))]) rfl ?_
            have xh361 : RS kq s0 f0 xx u357.1 zf zw zc zn u296 := rs_bad (rs_at xh280 (show az ≤ u296 by omega)) xh359
            refine j_aload_n (pc := 68) C d_Model_test_68 rfl 2 rfl ?_
            refine j_aload_n (pc := 69) C d_Model_test_69 rfl 2 rfl ?_
            refine j_get (pc := 70) C gf_Model_96 11 rfl rfl d_Model_test_70 ?_
            refine j_callVv (pc := 73) C (c_M_asks_3 l D y mo (ma 35) ma t1 u296 t3 ez u357.1 u357.2 i7 i8 i42 i49 (nI zc) (nI zn) (nI oz) i59 i61 i64 i66 t67 i76 i78 tx 26 (failS 4 u296 gz) xh298 he hB xh360 (by omega) (by decide)) kw_Model_263 kv_Model_asks 0 10 rfl rfl ⟨by decide, by decide⟩ ⟨by decide, by decide⟩ (wr := [(ma 33, .inl (y 3, 2, .inl (WD 24))), (ma 34, .inl (y 3, 3, .inl (WD 25))), (ma 36, .inl (y 3, 3, .inl (WD 27))), (ma 37, .inl (y 3, 3, .inl (WD 28))), (ma 38, .inl (y 3, 5, .inl (WD 29))), (ma 39, .inl (y 3, 5, .inl (WD 30))), (ma 40, .inl (y 3, 3, .inl (WD 31))), (ma 41, .inl (y 3, 3, .inl (WD 32))), (ma 50, .inl (y 0, 3200, .inl zf)), (ma 52, .inl (y 0, 1700, .inl zw))]) [11, 9, 10] [0, 1, 2, 3, 4, 5, 6, 7, 8, 12] rfl rfl (by decide +kernel) (by decide +kernel) (by decide +kernel) (As := [.ref (ma 35)]) (rest := []) rfl (nb rfl) rfl d_Model_test_73 (fun u362 hu363 => ?_)
            obtain ⟨xh364, xh365, xh366, xh367⟩ := hu363
            refine j_ws (ws' := [(ma 33, .inl (y 3, 2, .inl (WD 24))), (ma 34, .inl (y 3, 3, .inl (WD 25))), (ma 36, .inl (y 3, 3, .inl (WD 27))), (ma 37, .inl (y 3, 3, .inl (WD 28))), (ma 38, .inl (y 3, 5, .inl (WD 29))), (ma 39, .inl (y 3, 5, .inl (WD 30))), (ma 40, .inl (y 3, 3, .inl (WD 31))), (ma 41, .inl (y 3, 3, .inl (WD 32))), (ma 50, .inl (y 0, 3200, .inl zf)), (ma 52, .inl (y 0, 1700, .inl zw)), MB mo ma (nI t1) (nI u362.1) (nI t3) u362.2.1 u362.2.2.1 u362.2.2.2 i7 i8 i42 i49 (nI zc) (nI zn) (nI oz) i59 i61 i64 i66 (nI t67) i76 i78, (ma 0, .inl (y 0, 1600, .inl (tby tx))), (ma 35, .inl (y 3, 3, .inl (WD 26)))]) rfl ?_
            have xh368 : Rcb tx t3 (0, (gs, cs, [], oo)) (2, ((failS 4 (stS tx t3 gz) gz), cz, sz, oz)) := xh282.tr (Rcb.st ((stT _ _ _ _).trans ((sT_26 xh303).trans (if_pos c356))) (Rcb.rf _))
            have xh369 : RR tx t3 (failS 4 (stS tx t3 gz) gz) u362.1 u362.2.1 u362.2.2.1 u362.2.2.2 := (rr_of xh367 ((rw_d (fail_nz (by decide))).trans (by rw [← (xh299 rfl)])).symm)
            have xh370 : ¬ u362.2.2.1 = 0 := fun e => (fail_nz (by decide)) ((rr_z xh369).mp e)
            refine j_goto (pc := 76) C (tgt := 2) d_Model_test_76 (by decide) ?_
            refine j_sub (ws' := [MB mo ma (nI t1) (nI u362.1) (nI t3) u362.2.1 u362.2.2.1 u362.2.2.2 i7 i8 i42 i49 (nI zc) (nI zn) (nI oz) i59 i61 i64 i66 (nI t67) i76 i78, (ma 0, .inl (y 0, 1600, .inl (tby tx))), (ma 33, .inl (y 3, 2, .inl (WD 24))), (ma 34, .inl (y 3, 3, .inl (WD 25))), (ma 35, .inl (y 3, 3, .inl (WD 26))), (ma 36, .inl (y 3, 3, .inl (WD 27))), (ma 37, .inl (y 3, 3, .inl (WD 28))), (ma 38, .inl (y 3, 5, .inl (WD 29))), (ma 39, .inl (y 3, 5, .inl (WD 30))), (ma 40, .inl (y 3, 3, .inl (WD 31))), (ma 41, .inl (y 3, 3, .inl (WD 32))), (ma 50, .inl (y 0, 3200, .inl zf)), (ma 52, .inl (y 0, 1700, .inl zw))]) [10, 11, 0, 1, 12, 2, 3, 4, 5, 6, 7, 8, 9] rfl (by decide +kernel) ?_
            refine j_locs (lv' := [(1, .int (nI mz)), (0, .ref mo)]) [1, 2] rfl ?_
            have hz1 := bz_e c277
            have hz0 := bz_le u362.2.2.1
            have hz2 : bz1 u362.2.2.1 = 0 ∨ az + 1 ≤ u362.1 := Or.inl (bz_0 xh370)
            have xh371 : RS kq s0 f0 xx u362.2.2.1 zf zw zc zn u296 := rs_bad xh361 xh370
            exact ih249 (mz, u362.1, u362.2.2.1, zn, zc, zf, zw, u362.2.1, u362.2.2.2, oz, (failS 4 (stS tx t3 gz) gz), cz, sz) ⟨xh365, (show t2 ≤ u362.1 by omega), hmz_, (fun e => absurd e xh370), (show RS kq s0 f0 (xx + (1 - mz)) u362.2.2.1 zf zw zc zn u362.1 by rw [hm1]; exact rs_at xh371 (by omega)), (fun e => absurd e (by omega)), (show RR tx t3 (failS 4 (stS tx t3 gz) gz) u362.1 u362.2.1 u362.2.2.1 u362.2.2.2 from xh369), ho_, (fun _ e => absurd e xh370), (fun e => absurd (show (mz : Nat) = 0 from e) (by omega)), (fun _ => ⟨_, _, _, xh368⟩)⟩ (show 2 * (t3 - u362.1) + bz1 u362.2.2.1 + mz < 2 * (t3 - az) + bz1 bz + mz by omega)
          · refine j_callVv (pc := 65) C (c_M_opens_Y l D y mo ma t1 u296 t3 ez 0 pz i7 i8 i42 i49 zc zn oz i59 i61 i64 i66 t67 i76 i78 zw 16 (nI u296) (by omega) (by omega) (by omega)) kw_Model_353 kv_Model_opens 0 10 rfl rfl ⟨by decide, by decide⟩ ⟨by decide, by decide⟩ (wr := [(ma 33, .inl (y 3, 2, .inl (WD 24))), (ma 34, .inl (y 3, 3, .inl (WD 25))), (ma 36, .inl (y 3, 3, .inl (WD 27))), (ma 37, .inl (y 3, 3, .inl (WD 28))), (ma 38, .inl (y 3, 5, .inl (WD 29))), (ma 39, .inl (y 3, 5, .inl (WD 30))), (ma 40, .inl (y 3, 3, .inl (WD 31))), (ma 41, .inl (y 3, 3, .inl (WD 32))), (ma 50, .inl (y 0, 3200, .inl zf)), (ma 0, .inl (y 0, 1600, .inl (tby tx))), (ma 35, .inl (y 3, 3, .inl (WD 26)))]) [10, 9] [0, 1, 2, 3, 4, 5, 6, 7, 8, 11, 12] rfl rfl (by decide +kernel) (by decide +kernel) (by decide +kernel) (As := [.int 16, .int (nI u296)]) (rest := []) rfl (nb rfl) rfl d_Model_test_65 (fun _ _ => ?_)
            refine j_ws (ws' := [(ma 33, .inl (y 3, 2, .inl (WD 24))), (ma 34, .inl (y 3, 3, .inl (WD 25))), (ma 36, .inl (y 3, 3, .inl (WD 27))), (ma 37, .inl (y 3, 3, .inl (WD 28))), (ma 38, .inl (y 3, 5, .inl (WD 29))), (ma 39, .inl (y 3, 5, .inl (WD 30))), (ma 40, .inl (y 3, 3, .inl (WD 31))), (ma 41, .inl (y 3, 3, .inl (WD 32))), (ma 50, .inl (y 0, 3200, .inl zf)), (ma 0, .inl (y 0, 1600, .inl (tby tx))), (ma 35, .inl (y 3, 3, .inl (WD 26))), MB mo ma (nI t1) (nI u296) (nI t3) ez 0 pz i7 i8 i42 i49 (nI zc) (nI (zn + 1)) (nI (oz + 1)) i59 i61 i64 i66 (nI t67) i76 i78, (ma 52, .inl (y 0, 1700, .inl (upd zw zn 16)))]) rfl ?_
            have xh372 : RS kq s0 f0 xx 0 zf (upd zw zn 16) zc (zn + 1) (u296 + 1) := rs_push (rs_at xh280 (show az ≤ u296 by omega)) (by decide)
            have xh373 : ITm (upd zw zn 16) (zn + 1) := (it_push hT0 (by decide))
            have xh374 : WB (16 :: sz) (upd zw zn 16) 0 (zn + 1) := wb_push xh284 (by decide)
            have xh375 : opn (16 :: sz) ≤ (oz + 1) := opn_push xh285
            refine j_aload_n (pc := 68) C d_Model_test_68 rfl 2 rfl ?_
            refine j_aload_n (pc := 69) C d_Model_test_69 rfl 2 rfl ?_
            refine j_get (pc := 70) C gf_Model_96 11 rfl rfl d_Model_test_70 ?_
            refine j_callVv (pc := 73) C (c_M_asks_3 l D y mo (ma 35) ma t1 u296 t3 ez 0 pz i7 i8 i42 i49 (nI zc) (nI (zn + 1)) (nI (oz + 1)) i59 i61 i64 i66 t67 i76 i78 tx 26 gz xh298 he hB xh300 (by omega) (by decide)) kw_Model_263 kv_Model_asks 0 10 rfl rfl ⟨by decide, by decide⟩ ⟨by decide, by decide⟩ (wr := [(ma 33, .inl (y 3, 2, .inl (WD 24))), (ma 34, .inl (y 3, 3, .inl (WD 25))), (ma 36, .inl (y 3, 3, .inl (WD 27))), (ma 37, .inl (y 3, 3, .inl (WD 28))), (ma 38, .inl (y 3, 5, .inl (WD 29))), (ma 39, .inl (y 3, 5, .inl (WD 30))), (ma 40, .inl (y 3, 3, .inl (WD 31))), (ma 41, .inl (y 3, 3, .inl (WD 32))), (ma 50, .inl (y 0, 3200, .inl zf)), (ma 52, .inl (y 0, 1700, .inl (upd zw zn 16)))]) [11, 9, 10] [0, 1, 2, 3, 4, 5, 6, 7, 8, 12] rfl rfl (by decide +kernel) (by decide +kernel) (by decide +kernel) (As := [.ref (ma 35)]) (rest := []) rfl (nb rfl) rfl d_Model_test_73 (fun u376 hu377 => ?_)
            obtain ⟨xh378, xh379, xh380, xh381⟩ := hu377
            refine j_ws (ws' := [(ma 33, .inl (y 3, 2, .inl (WD 24))), (ma 34, .inl (y 3, 3, .inl (WD 25))), (ma 36, .inl (y 3, 3, .inl (WD 27))), (ma 37, .inl (y 3, 3, .inl (WD 28))), (ma 38, .inl (y 3, 5, .inl (WD 29))), (ma 39, .inl (y 3, 5, .inl (WD 30))), (ma 40, .inl (y 3, 3, .inl (WD 31))), (ma 41, .inl (y 3, 3, .inl (WD 32))), (ma 50, .inl (y 0, 3200, .inl zf)), (ma 52, .inl (y 0, 1700, .inl (upd zw zn 16))), MB mo ma (nI t1) (nI u376.1) (nI t3) u376.2.1 u376.2.2.1 u376.2.2.2 i7 i8 i42 i49 (nI zc) (nI (zn + 1)) (nI (oz + 1)) i59 i61 i64 i66 (nI t67) i76 i78, (ma 0, .inl (y 0, 1600, .inl (tby tx))), (ma 35, .inl (y 3, 3, .inl (WD 26)))]) rfl ?_
            have xh382 : Rcb tx t3 (0, (gs, cs, [], oo)) (0, ((advS tx t3 gz), cz, (16 :: sz), (oz + 1))) := xh282.tr (Rcb.st ((stT _ _ _ _).trans ((sT_26 xh303).trans (if_neg c356))) (Rcb.rf _))
            have xh383 : RR tx t3 (advS tx t3 gz) u376.1 u376.2.1 u376.2.2.1 u376.2.2.2 := (rr_of xh381 (if_pos xh303).symm)
            have xh384 : u376.2.2.1 = 0 := (rr_z xh383).mpr (adv_ok xh355)
            have hp385 := (xh380 xh384).2
            have xh386 : RS kq s0 f0 xx u376.2.2.1 zf (upd zw zn 16) zc (zn + 1) (u296 + 1) := rs_mono xh372 (fun _ => rfl)
            refine j_ws (ws' := [(ma 33, .inl (y 3, 2, .inl (WD 24))), (ma 34, .inl (y 3, 3, .inl (WD 25))), (ma 36, .inl (y 3, 3, .inl (WD 27))), (ma 37, .inl (y 3, 3, .inl (WD 28))), (ma 38, .inl (y 3, 5, .inl (WD 29))), (ma 39, .inl (y 3, 5, .inl (WD 30))), (ma 40, .inl (y 3, 3, .inl (WD 31))), (ma 41, .inl (y 3, 3, .inl (WD 32))), (ma 50, .inl (y 0, 3200, .inl zf)), (ma 52, .inl (y 0, 1700, .inl (upd zw zn 16))), MB mo ma (nI t1) (nI u376.1) (nI t3) u376.2.1 0 u376.2.2.2 i7 i8 i42 i49 (nI zc) (nI (zn + 1)) (nI (oz + 1)) i59 i61 i64 i66 (nI t67) i76 i78, (ma 0, .inl (y 0, 1600, .inl (tby tx))), (ma 35, .inl (y 3, 3, .inl (WD 26)))]) (by rw [xh384]) ?_
            have xh387 : RR tx t3 (advS tx t3 gz) u376.1 u376.2.1 0 u376.2.2.2 := by have hq := xh383; rw [xh384] at hq; exact hq
            refine j_goto (pc := 76) C (tgt := 2) d_Model_test_76 (by decide) ?_
            refine j_sub (ws' := [MB mo ma (nI t1) (nI u376.1) (nI t3) u376.2.1 0 u376.2.2.2 i7 i8 i42 i49 (nI zc) (nI (zn + 1)) (nI (oz + 1)) i59 i61 i64 i66 (nI t67) i76 i78, (ma 0, .inl (y 0, 1600, .inl (tby tx))), (ma 33, .inl (y 3, 2, .inl (WD 24))), (ma 34, .inl (y 3, 3, .inl (WD 25))), (ma 35, .inl (y 3, 3, .inl (WD 26))), (ma 36, .inl (y 3, 3, .inl (WD 27))), (ma 37, .inl (y 3, 3, .inl (WD 28))), (ma 38, .inl (y 3, 5, .inl (WD 29))), (ma 39, .inl (y 3, 5, .inl (WD 30))), (ma 40, .inl (y 3, 3, .inl (WD 31))), (ma 41, .inl (y 3, 3, .inl (WD 32))), (ma 50, .inl (y 0, 3200, .inl zf)), (ma 52, .inl (y 0, 1700, .inl (upd zw zn 16)))]) [10, 11, 0, 1, 12, 2, 3, 4, 5, 6, 7, 8, 9] rfl (by decide +kernel) ?_
            refine j_locs (lv' := [(1, .int (nI mz)), (0, .ref mo)]) [1, 2] rfl ?_
            have hz1 := bz_e c277
            have hz0 := bz_1
            have hz2 : bz1 0 = 0 ∨ az + 1 ≤ u376.1 := Or.inr (by omega)
            exact ih249 (mz, u376.1, 0, (zn + 1), zc, zf, (upd zw zn 16), u376.2.1, u376.2.2.2, (oz + 1), (advS tx t3 gz), cz, (16 :: sz)) ⟨xh379, (show t2 ≤ u376.1 by omega), hmz_, (fun _ => xh373), (show RS kq s0 f0 (xx + (1 - mz)) 0 zf (upd zw zn 16) zc (zn + 1) u376.1 by rw [hm1]; exact rs_at xh372 (by omega)), (fun e => absurd e (by omega)), (show RR tx t3 (advS tx t3 gz) u376.1 u376.2.1 0 u376.2.2.2 from xh387), (show (oz + 1) ≤ 6 by omega), (fun _ _ => ⟨xh382, xh283, xh374, xh375⟩), (fun e => absurd (show (mz : Nat) = 0 from e) (by omega)), (fun e => absurd rfl e)⟩ (show 2 * (t3 - u376.1) + bz1 0 + mz < 2 * (t3 - az) + bz1 bz + mz by omega)
      · have hb388 : tx u287 < 256 := hB u287
        refine j_istore_n (pc := 17) C (lv' := [(2, .int (nI (tx u287))), (1, .int (nI mz)), (0, .ref mo)]) d_Model_test_17 rfl (by decide) rfl ?_
        refine j_iload_n (pc := 18) C d_Model_test_18 rfl 0 rfl ?_
        refine j_bipush (pc := 19) C (v := 91) d_Model_test_19 (by decide) ?_
        by_cases c389 : ¬ (tx u287) = 91
        · refine j_icmp_neT (pc := 21) C (tgt := 47) d_Model_test_21 (by decide) (show ¬ nI (tx u287) = nI 91 from fun e => absurd ((nI_eq (by omega) (by omega)).mp e) (by omega)) ?_
          refine j_aload_n (pc := 47) C d_Model_test_47 rfl 2 rfl ?_
          refine j_aload_n (pc := 48) C d_Model_test_48 rfl 2 rfl ?_
          refine j_get (pc := 49) C gf_Model_96 11 rfl rfl d_Model_test_49 ?_
          refine j_callVi (pc := 52) C (c_M_isHere_3 l D y mo (ma 35) ma t1 u287 t3 ez 0 pz i7 i8 i42 i49 (nI zc) (nI zn) (nI oz) i59 i61 i64 i66 t67 i76 i78 tx 26 gz xh289 he hB xh291 (by omega) (by decide)) kw_Model_224 kv_Model_isHere 0 10 rfl rfl ⟨by decide, by decide⟩ ⟨by decide, by decide⟩ (wr := [(ma 33, .inl (y 3, 2, .inl (WD 24))), (ma 34, .inl (y 3, 3, .inl (WD 25))), (ma 36, .inl (y 3, 3, .inl (WD 27))), (ma 37, .inl (y 3, 3, .inl (WD 28))), (ma 38, .inl (y 3, 5, .inl (WD 29))), (ma 39, .inl (y 3, 5, .inl (WD 30))), (ma 40, .inl (y 3, 3, .inl (WD 31))), (ma 41, .inl (y 3, 3, .inl (WD 32))), (ma 50, .inl (y 0, 3200, .inl zf)), (ma 52, .inl (y 0, 1700, .inl zw))]) [11, 12, 2] [0, 1, 3, 4, 5, 6, 7, 8, 9, 10] rfl rfl (by decide +kernel) (by decide +kernel) (by decide +kernel) (As := [.ref (ma 35)]) (rest := []) rfl (nb rfl) rfl d_Model_test_52 (fun r390 u391 hr390 => ?_)
          refine j_ws (ws' := [(ma 33, .inl (y 3, 2, .inl (WD 24))), (ma 34, .inl (y 3, 3, .inl (WD 25))), (ma 36, .inl (y 3, 3, .inl (WD 27))), (ma 37, .inl (y 3, 3, .inl (WD 28))), (ma 38, .inl (y 3, 5, .inl (WD 29))), (ma 39, .inl (y 3, 5, .inl (WD 30))), (ma 40, .inl (y 3, 3, .inl (WD 31))), (ma 41, .inl (y 3, 3, .inl (WD 32))), (ma 50, .inl (y 0, 3200, .inl zf)), (ma 52, .inl (y 0, 1700, .inl zw)), MB mo ma (nI t1) (nI u391) (nI t3) ez 0 pz i7 i8 i42 i49 (nI zc) (nI zn) (nI oz) i59 i61 i64 i66 (nI t67) i76 i78, (ma 0, .inl (y 0, 1600, .inl (tby tx))), (ma 35, .inl (y 3, 3, .inl (WD 26)))]) rfl ?_
          obtain ⟨xh392, xh393, xh394, xh395, xh396⟩ := hr390
          rcases xh396 with ⟨rfl, xh397⟩ | ⟨rfl, xh398, xh399⟩
          · refine j_if_eqT (pc := 55) C (tgt := 79) d_Model_test_55 (by decide) (by decide) ?_
            have xh400 : gz.1 = 0 := ((rr_z xh395).mp rfl)
            refine j_aload_n (pc := 79) C d_Model_test_79 rfl 2 rfl ?_
            refine j_callVv (pc := 80) C (c_M_fact l D y mo ma t1 u391 t3 ez pz i7 i8 i42 i49 zc zn oz i59 i61 i64 i66 t67 i76 i78 tx zf zw gz s0 xx cz kq f0 (6 - oz) xh393 he hB xh395 (rs_at xh280 (by omega)) hT0 xh283 (by omega) hK) kw_Model_371 kv_Model_fact 0 10 rfl rfl ⟨by decide, by decide⟩ ⟨by decide, by decide⟩ (wr := [(ma 33, .inl (y 3, 2, .inl (WD 24))), (ma 34, .inl (y 3, 3, .inl (WD 25))), (ma 35, .inl (y 3, 3, .inl (WD 26)))]) [10, 11, 2, 3, 4, 5, 6, 7, 8, 9] [0, 1, 12] rfl rfl (by decide +kernel) (by decide +kernel) (by decide +kernel) (As := []) (rest := []) rfl (nb rfl) rfl d_Model_test_80 (fun u401 hu402 => ?_)
            obtain ⟨xh403, xh404, xh405, xh406, xh407, xh408, xh409, xh410, xh411, xh412⟩ := hu402
            refine j_ws (ws' := [(ma 33, .inl (y 3, 2, .inl (WD 24))), (ma 34, .inl (y 3, 3, .inl (WD 25))), (ma 35, .inl (y 3, 3, .inl (WD 26))), MB mo ma (nI t1) (nI u401.1) (nI t3) u401.2.1 u401.2.2.1 u401.2.2.2.1 i7 i8 i42 i49 (nI u401.2.2.2.2.1) (nI u401.2.2.2.2.2.1) (nI u401.2.2.2.2.2.2.1) i59 i61 i64 i66 (nI t67) i76 i78, (ma 0, .inl (y 0, 1600, .inl (tby tx))), (ma 36, .inl (y 3, 3, .inl (WD 27))), (ma 37, .inl (y 3, 3, .inl (WD 28))), (ma 38, .inl (y 3, 5, .inl (WD 29))), (ma 39, .inl (y 3, 5, .inl (WD 30))), (ma 40, .inl (y 3, 3, .inl (WD 31))), (ma 41, .inl (y 3, 3, .inl (WD 32))), (ma 50, .inl (y 0, 3200, .inl u401.2.2.2.2.2.2.2.1)), (ma 52, .inl (y 0, 1700, .inl u401.2.2.2.2.2.2.2.2))]) rfl ?_
            by_cases c413 : u401.2.2.1 = 0
            · have hpg := (xh405 c413).2
              obtain ⟨xh414, xh415⟩ := xh411 c413
              have xh416 : (fact0 tx t3 (6 - oz) (gz, cz)).1.1 = 0 := (rr_z xh409).mp c413
              refine j_ws (ws' := [(ma 33, .inl (y 3, 2, .inl (WD 24))), (ma 34, .inl (y 3, 3, .inl (WD 25))), (ma 35, .inl (y 3, 3, .inl (WD 26))), MB mo ma (nI t1) (nI u401.1) (nI t3) u401.2.1 0 u401.2.2.2.1 i7 i8 i42 i49 (nI u401.2.2.2.2.1) (nI u401.2.2.2.2.2.1) (nI u401.2.2.2.2.2.2.1) i59 i61 i64 i66 (nI t67) i76 i78, (ma 0, .inl (y 0, 1600, .inl (tby tx))), (ma 36, .inl (y 3, 3, .inl (WD 27))), (ma 37, .inl (y 3, 3, .inl (WD 28))), (ma 38, .inl (y 3, 5, .inl (WD 29))), (ma 39, .inl (y 3, 5, .inl (WD 30))), (ma 40, .inl (y 3, 3, .inl (WD 31))), (ma 41, .inl (y 3, 3, .inl (WD 32))), (ma 50, .inl (y 0, 3200, .inl u401.2.2.2.2.2.2.2.1)), (ma 52, .inl (y 0, 1700, .inl u401.2.2.2.2.2.2.2.2))]) (by rw [c413]) ?_
              have xh417 : RS kq s0 f0 (xx + 1) 0 u401.2.2.2.2.2.2.2.1 u401.2.2.2.2.2.2.2.2 u401.2.2.2.2.1 u401.2.2.2.2.2.1 u401.1 := rs_z xh406 c413
              have xh418 : RR tx t3 ((fact0 tx t3 (6 - oz) (gz, cz)).1) u401.1 u401.2.1 0 u401.2.2.2.1 := by have hq := xh409; rw [c413] at hq; exact hq
              have xh419 : WB sz u401.2.2.2.2.2.2.2.2 0 u401.2.2.2.2.2.1 := by rw [hpg.2]; exact wb_fr xh284 xh412
              have xh420 : opn sz ≤ u401.2.2.2.2.2.2.1 := by rw [xh415]; exact xh285
              refine j_aload_n (pc := 83) C d_Model_test_83 rfl 2 rfl ?_
              refine j_callVv (pc := 84) C (c_M_dropsNots_A l D y mo ma t1 u401.1 t3 u401.2.1 u401.2.2.2.1 i7 i8 i42 i49 u401.2.2.2.2.1 u401.2.2.2.2.2.1 u401.2.2.2.2.2.2.1 i59 i61 i64 i66 t67 i76 i78 u401.2.2.2.2.2.2.2.1 u401.2.2.2.2.2.2.2.2 s0 xx sz ((fact0 tx t3 (6 - oz) (gz, cz)).2) kq f0 xh404 he xh417 xh419 xh414 xh420 (by omega) hK) kw_Model_374 kv_Model_dropsNots 0 10 rfl rfl ⟨by decide, by decide⟩ ⟨by decide, by decide⟩ (wr := [(ma 33, .inl (y 3, 2, .inl (WD 24))), (ma 34, .inl (y 3, 3, .inl (WD 25))), (ma 35, .inl (y 3, 3, .inl (WD 26))), (ma 0, .inl (y 0, 1600, .inl (tby tx))), (ma 36, .inl (y 3, 3, .inl (WD 27))), (ma 37, .inl (y 3, 3, .inl (WD 28))), (ma 38, .inl (y 3, 5, .inl (WD 29))), (ma 39, .inl (y 3, 5, .inl (WD 30))), (ma 40, .inl (y 3, 3, .inl (WD 31))), (ma 41, .inl (y 3, 3, .inl (WD 32)))]) [3, 11, 12] [0, 1, 2, 4, 5, 6, 7, 8, 9, 10] rfl rfl (by decide +kernel) (by decide +kernel) (by decide +kernel) (As := []) (rest := []) rfl (nb rfl) rfl d_Model_test_84 (fun u421 hu422 => ?_)
              obtain ⟨xh423, xh424, xh425, xh426, xh427, xh428, xh429⟩ := hu422
              refine j_ws (ws' := [(ma 33, .inl (y 3, 2, .inl (WD 24))), (ma 34, .inl (y 3, 3, .inl (WD 25))), (ma 35, .inl (y 3, 3, .inl (WD 26))), (ma 0, .inl (y 0, 1600, .inl (tby tx))), (ma 36, .inl (y 3, 3, .inl (WD 27))), (ma 37, .inl (y 3, 3, .inl (WD 28))), (ma 38, .inl (y 3, 5, .inl (WD 29))), (ma 39, .inl (y 3, 5, .inl (WD 30))), (ma 40, .inl (y 3, 3, .inl (WD 31))), (ma 41, .inl (y 3, 3, .inl (WD 32))), MB mo ma (nI t1) (nI u401.1) (nI t3) u401.2.1 0 u401.2.2.2.1 i7 i8 i42 i49 (nI u421.1) (nI u421.2.1) (nI u421.2.2.1) i59 i61 i64 i66 (nI t67) i76 i78, (ma 50, .inl (y 0, 3200, .inl u421.2.2.2.1)), (ma 52, .inl (y 0, 1700, .inl u401.2.2.2.2.2.2.2.2))]) rfl ?_
              have xh430 : dnN sz (fact0 tx t3 (6 - oz) (gz, cz)).2 oz = (u421.2.2.2.2.2, u421.2.2.2.2.1, u421.2.2.1) := by have hq := xh429; rw [xh415] at hq; exact hq
              have xh431 : Rcb tx t3 (0, (gs, cs, [], oo)) (1, ((fact0 tx t3 (6 - oz) (gz, cz)).1, u421.2.2.2.2.1, u421.2.2.2.2.2, u421.2.2.1)) := xh282.tr (Rcb.st ((stT _ _ _ _).trans ((sT_el xh400 (sg_no2 xh290 (show ¬ tx u287 = 91 by omega)) xh397).trans ((if_neg (nn xh416)).trans (by rw [xh430] <;> rfl)))) (Rcb.rf _))
              refine j_aload_n (pc := 87) C d_Model_test_87 rfl 2 rfl ?_
              refine j_get (pc := 88) C gf_Model_201 10 rfl rfl d_Model_test_88 ?_
              refine j_if_neF (pc := 91) C (tgt := 105) d_Model_test_91 (by decide) (by decide) ?_
              refine j_aload_n (pc := 94) C d_Model_test_94 rfl 2 rfl ?_
              refine j_callVi (pc := 95) C (c_M_goesOnTest l D y mo ma t1 u401.1 t3 u401.2.1 u401.2.2.2.1 i7 i8 i42 i49 u421.1 u421.2.1 u421.2.2.1 i59 i61 i64 i66 t67 i76 i78 tx u421.2.2.2.1 u401.2.2.2.2.2.2.2.2 ((fact0 tx t3 (6 - oz) (gz, cz)).1) s0 xx u421.2.2.2.2.2 u421.2.2.2.2.1 kq f0 xh404 he hB xh418 xh424 (it_le xh407 (by omega)) xh425 xh426 xh427 (by omega) hK) kw_Model_377 kv_Model_goesOnTest 0 10 rfl rfl ⟨by decide, by decide⟩ ⟨by decide, by decide⟩ (wr := [(ma 35, .inl (y 3, 3, .inl (WD 26))), (ma 36, .inl (y 3, 3, .inl (WD 27))), (ma 37, .inl (y 3, 3, .inl (WD 28))), (ma 38, .inl (y 3, 5, .inl (WD 29))), (ma 39, .inl (y 3, 5, .inl (WD 30))), (ma 40, .inl (y 3, 3, .inl (WD 31))), (ma 41, .inl (y 3, 3, .inl (WD 32)))]) [10, 3, 0, 1, 11, 12] [2, 4, 5, 6, 7, 8, 9] rfl rfl (by decide +kernel) (by decide +kernel) (by decide +kernel) (As := []) (rest := []) rfl (nb rfl) rfl d_Model_test_95 (fun r432 u433 hr432 => ?_)
              refine j_ws (ws' := [(ma 35, .inl (y 3, 3, .inl (WD 26))), (ma 36, .inl (y 3, 3, .inl (WD 27))), (ma 37, .inl (y 3, 3, .inl (WD 28))), (ma 38, .inl (y 3, 5, .inl (WD 29))), (ma 39, .inl (y 3, 5, .inl (WD 30))), (ma 40, .inl (y 3, 3, .inl (WD 31))), (ma 41, .inl (y 3, 3, .inl (WD 32))), MB mo ma (nI t1) (nI u433.1) (nI t3) u433.2.1 u433.2.2.1 u433.2.2.2.1 i7 i8 i42 i49 (nI u433.2.2.2.2.1) (nI u433.2.2.2.2.2.1) (nI u433.2.2.2.2.2.2.1) i59 i61 i64 i66 (nI t67) i76 i78, (ma 0, .inl (y 0, 1600, .inl (tby tx))), (ma 33, .inl (y 3, 2, .inl (WD 24))), (ma 34, .inl (y 3, 3, .inl (WD 25))), (ma 50, .inl (y 0, 3200, .inl u433.2.2.2.2.2.2.2.1)), (ma 52, .inl (y 0, 1700, .inl u433.2.2.2.2.2.2.2.2.1))]) rfl ?_
              obtain ⟨xh434, xh435, xh436, xh437, xh438, xh439, xh440⟩ := hr432
              rcases xh440 with ⟨rfl, e441, xh442, xh443⟩ | ⟨rfl, xh444, xh445, xh446⟩
              · refine j_if_eqF (pc := 98) C (tgt := 105) d_Model_test_98 (by decide) (by decide) ?_
                refine j_iconst (pc := 101) C (v := 1) d_Model_test_101 (by decide) ?_
                refine j_goto (pc := 102) C (tgt := 106) d_Model_test_102 (by decide) ?_
                refine j_istore_n (pc := 106) C (lv' := [(1, .int 1), (2, .int (nI (tx u287))), (0, .ref mo)]) d_Model_test_106 rfl (by decide) rfl ?_
                refine j_goto (pc := 107) C (tgt := 2) d_Model_test_107 (by decide) ?_
                refine j_sub (ws' := [MB mo ma (nI t1) (nI u433.1) (nI t3) u433.2.1 u433.2.2.1 u433.2.2.2.1 i7 i8 i42 i49 (nI u433.2.2.2.2.1) (nI u433.2.2.2.2.2.1) (nI u433.2.2.2.2.2.2.1) i59 i61 i64 i66 (nI t67) i76 i78, (ma 0, .inl (y 0, 1600, .inl (tby tx))), (ma 33, .inl (y 3, 2, .inl (WD 24))), (ma 34, .inl (y 3, 3, .inl (WD 25))), (ma 35, .inl (y 3, 3, .inl (WD 26))), (ma 36, .inl (y 3, 3, .inl (WD 27))), (ma 37, .inl (y 3, 3, .inl (WD 28))), (ma 38, .inl (y 3, 5, .inl (WD 29))), (ma 39, .inl (y 3, 5, .inl (WD 30))), (ma 40, .inl (y 3, 3, .inl (WD 31))), (ma 41, .inl (y 3, 3, .inl (WD 32))), (ma 50, .inl (y 0, 3200, .inl u433.2.2.2.2.2.2.2.1)), (ma 52, .inl (y 0, 1700, .inl u433.2.2.2.2.2.2.2.2.1))]) [7, 8, 9, 10, 0, 1, 2, 3, 4, 5, 6, 11, 12] rfl (by decide +kernel) ?_
                refine j_locs (lv' := [(1, .int 1), (0, .ref mo)]) [0, 2] rfl ?_
                have hz1 := bz_e c277
                have hz0 := bz_le u433.2.2.1
                have hz2 : bz1 u433.2.2.1 = 0 ∨ az + 1 ≤ u433.1 := Or.inr (by omega)
                exact ih249 (1, u433.1, u433.2.2.1, u433.2.2.2.2.2.1, u433.2.2.2.2.1, u433.2.2.2.2.2.2.2.1, u433.2.2.2.2.2.2.2.2.1, u433.2.1, u433.2.2.2.1, u433.2.2.2.2.2.2.1, u433.2.2.2.2.2.2.2.2.2.1, u433.2.2.2.2.2.2.2.2.2.2.1, u433.2.2.2.2.2.2.2.2.2.2.2) ⟨xh435, (show t2 ≤ u433.1 by omega), (show 1 ≤ 1 by omega), (fun _ => xh437), (show RS kq s0 f0 (xx + (1 - 1)) u433.2.2.1 u433.2.2.2.2.2.2.2.1 u433.2.2.2.2.2.2.2.2.1 u433.2.2.2.2.1 u433.2.2.2.2.2.1 u433.1 from rs_at xh442 (by omega)), (fun e => absurd e (by omega)), (show RR tx t3 u433.2.2.2.2.2.2.2.2.2.1 u433.1 u433.2.1 u433.2.2.1 u433.2.2.2.1 from xh438), xh439, (fun _ _ => ⟨(xh431.tr xh443.1), xh443.2.1, xh443.2.2.1, xh443.2.2.2⟩), (fun e => absurd (show (1 : Nat) = 0 from e) (by omega)), (fun e => absurd e441 e)⟩ (show 2 * (t3 - u433.1) + bz1 u433.2.2.1 + 1 < 2 * (t3 - az) + bz1 bz + mz by omega)
              · refine j_if_eqT (pc := 98) C (tgt := 105) d_Model_test_98 (by decide) (by decide) ?_
                refine j_iconst (pc := 105) C (v := 0) d_Model_test_105 (by decide) ?_
                refine j_istore_n (pc := 106) C (lv' := [(1, .int 0), (2, .int (nI (tx u287))), (0, .ref mo)]) d_Model_test_106 rfl (by decide) rfl ?_
                refine j_goto (pc := 107) C (tgt := 2) d_Model_test_107 (by decide) ?_
                refine j_sub (ws' := [MB mo ma (nI t1) (nI u433.1) (nI t3) u433.2.1 u433.2.2.1 u433.2.2.2.1 i7 i8 i42 i49 (nI u433.2.2.2.2.1) (nI u433.2.2.2.2.2.1) (nI u433.2.2.2.2.2.2.1) i59 i61 i64 i66 (nI t67) i76 i78, (ma 0, .inl (y 0, 1600, .inl (tby tx))), (ma 33, .inl (y 3, 2, .inl (WD 24))), (ma 34, .inl (y 3, 3, .inl (WD 25))), (ma 35, .inl (y 3, 3, .inl (WD 26))), (ma 36, .inl (y 3, 3, .inl (WD 27))), (ma 37, .inl (y 3, 3, .inl (WD 28))), (ma 38, .inl (y 3, 5, .inl (WD 29))), (ma 39, .inl (y 3, 5, .inl (WD 30))), (ma 40, .inl (y 3, 3, .inl (WD 31))), (ma 41, .inl (y 3, 3, .inl (WD 32))), (ma 50, .inl (y 0, 3200, .inl u433.2.2.2.2.2.2.2.1)), (ma 52, .inl (y 0, 1700, .inl u433.2.2.2.2.2.2.2.2.1))]) [7, 8, 9, 10, 0, 1, 2, 3, 4, 5, 6, 11, 12] rfl (by decide +kernel) ?_
                refine j_locs (lv' := [(1, .int 0), (0, .ref mo)]) [0, 2] rfl ?_
                have hz1 := bz_e c277
                have hz0 := bz_le u433.2.2.1
                exact ih249 (0, u433.1, u433.2.2.1, u433.2.2.2.2.2.1, u433.2.2.2.2.1, u433.2.2.2.2.2.2.2.1, u433.2.2.2.2.2.2.2.2.1, u433.2.1, u433.2.2.2.1, u433.2.2.2.2.2.2.1, u433.2.2.2.2.2.2.2.2.2.1, u433.2.2.2.2.2.2.2.2.2.2.1, u433.2.2.2.2.2.2.2.2.2.2.2) ⟨xh435, (show t2 ≤ u433.1 by omega), (show 0 ≤ 1 by omega), (fun _ => xh437), (show RS kq s0 f0 (xx + (1 - 0)) u433.2.2.1 u433.2.2.2.2.2.2.2.1 u433.2.2.2.2.2.2.2.2.1 u433.2.2.2.2.1 u433.2.2.2.2.2.1 u433.1 from rs_at xh444 (by omega)), (fun _ e => (xh445 e).1), (show RR tx t3 u433.2.2.2.2.2.2.2.2.2.1 u433.1 u433.2.1 u433.2.2.1 u433.2.2.2.1 from xh438), xh439, (fun e => absurd (show (0 : Nat) = 1 from e) (by decide)), (fun _ e => ⟨xh431.tr (xh445 e).2.1, (xh445 e).2.2.1, (xh445 e).2.2.2.1, (xh445 e).2.2.2.2⟩), (fun e => by obtain ⟨c3, s3, o3, h3_⟩ := xh446 e; exact ⟨c3, s3, o3, xh431.tr h3_⟩)⟩ (show 2 * (t3 - u433.1) + bz1 u433.2.2.1 + 0 < 2 * (t3 - az) + bz1 bz + mz by omega)
            · have xh447 : ¬ (fact0 tx t3 (6 - oz) (gz, cz)).1.1 = 0 := fun q => c413 ((rr_z xh409).mpr q)
              have xh448 : Rcb tx t3 (0, (gs, cs, [], oo)) (2, ((fact0 tx t3 (6 - oz) (gz, cz)).1, cz, sz, oz)) := xh282.tr (Rcb.st ((stT _ _ _ _).trans ((sT_el xh400 (sg_no2 xh290 (show ¬ tx u287 = 91 by omega)) xh397).trans (if_pos xh447))) (Rcb.rf _))
              refine j_aload_n (pc := 83) C d_Model_test_83 rfl 2 rfl ?_
              refine j_callVv (pc := 84) C (c_M_dropsNots_D l D y mo ma t1 u401.1 t3 u401.2.1 u401.2.2.1 u401.2.2.2.1 i7 i8 i42 i49 (nI u401.2.2.2.2.1) (nI u401.2.2.2.2.2.1) (nI u401.2.2.2.2.2.2.1) i59 i61 i64 i66 t67 i76 i78 u401.2.2.2.2.2.2.2.1 u401.2.2.2.2.2.2.2.2 c413) kw_Model_374 kv_Model_dropsNots 0 10 rfl rfl ⟨by decide, by decide⟩ ⟨by decide, by decide⟩ (wr := [(ma 33, .inl (y 3, 2, .inl (WD 24))), (ma 34, .inl (y 3, 3, .inl (WD 25))), (ma 35, .inl (y 3, 3, .inl (WD 26))), (ma 0, .inl (y 0, 1600, .inl (tby tx))), (ma 36, .inl (y 3, 3, .inl (WD 27))), (ma 37, .inl (y 3, 3, .inl (WD 28))), (ma 38, .inl (y 3, 5, .inl (WD 29))), (ma 39, .inl (y 3, 5, .inl (WD 30))), (ma 40, .inl (y 3, 3, .inl (WD 31))), (ma 41, .inl (y 3, 3, .inl (WD 32)))]) [3, 11, 12] [0, 1, 2, 4, 5, 6, 7, 8, 9, 10] rfl rfl (by decide +kernel) (by decide +kernel) (by decide +kernel) (As := []) (rest := []) rfl (nb rfl) rfl d_Model_test_84 (fun _ hu449 => ?_)
              refine j_ws (ws' := [(ma 33, .inl (y 3, 2, .inl (WD 24))), (ma 34, .inl (y 3, 3, .inl (WD 25))), (ma 35, .inl (y 3, 3, .inl (WD 26))), (ma 0, .inl (y 0, 1600, .inl (tby tx))), (ma 36, .inl (y 3, 3, .inl (WD 27))), (ma 37, .inl (y 3, 3, .inl (WD 28))), (ma 38, .inl (y 3, 5, .inl (WD 29))), (ma 39, .inl (y 3, 5, .inl (WD 30))), (ma 40, .inl (y 3, 3, .inl (WD 31))), (ma 41, .inl (y 3, 3, .inl (WD 32))), MB mo ma (nI t1) (nI u401.1) (nI t3) u401.2.1 u401.2.2.1 u401.2.2.2.1 i7 i8 i42 i49 (nI u401.2.2.2.2.1) (nI u401.2.2.2.2.2.1) (nI u401.2.2.2.2.2.2.1) i59 i61 i64 i66 (nI t67) i76 i78, (ma 50, .inl (y 0, 3200, .inl u401.2.2.2.2.2.2.2.1)), (ma 52, .inl (y 0, 1700, .inl u401.2.2.2.2.2.2.2.2))]) rfl ?_
              refine j_aload_n (pc := 87) C d_Model_test_87 rfl 2 rfl ?_
              refine j_get (pc := 88) C gf_Model_201 10 rfl rfl d_Model_test_88 ?_
              refine j_if_neT (pc := 91) C (tgt := 105) d_Model_test_91 (by decide) c413 ?_
              refine j_iconst (pc := 105) C (v := 0) d_Model_test_105 (by decide) ?_
              refine j_istore_n (pc := 106) C (lv' := [(1, .int 0), (2, .int (nI (tx u287))), (0, .ref mo)]) d_Model_test_106 rfl (by decide) rfl ?_
              refine j_goto (pc := 107) C (tgt := 2) d_Model_test_107 (by decide) ?_
              refine j_sub (ws' := [MB mo ma (nI t1) (nI u401.1) (nI t3) u401.2.1 u401.2.2.1 u401.2.2.2.1 i7 i8 i42 i49 (nI u401.2.2.2.2.1) (nI u401.2.2.2.2.2.1) (nI u401.2.2.2.2.2.2.1) i59 i61 i64 i66 (nI t67) i76 i78, (ma 0, .inl (y 0, 1600, .inl (tby tx))), (ma 33, .inl (y 3, 2, .inl (WD 24))), (ma 34, .inl (y 3, 3, .inl (WD 25))), (ma 35, .inl (y 3, 3, .inl (WD 26))), (ma 36, .inl (y 3, 3, .inl (WD 27))), (ma 37, .inl (y 3, 3, .inl (WD 28))), (ma 38, .inl (y 3, 5, .inl (WD 29))), (ma 39, .inl (y 3, 5, .inl (WD 30))), (ma 40, .inl (y 3, 3, .inl (WD 31))), (ma 41, .inl (y 3, 3, .inl (WD 32))), (ma 50, .inl (y 0, 3200, .inl u401.2.2.2.2.2.2.2.1)), (ma 52, .inl (y 0, 1700, .inl u401.2.2.2.2.2.2.2.2))]) [10, 3, 0, 1, 2, 4, 5, 6, 7, 8, 9, 11, 12] rfl (by decide +kernel) ?_
              refine j_locs (lv' := [(1, .int 0), (0, .ref mo)]) [0, 2] rfl ?_
              have hz1 := bz_e c277
              have hz0 := bz_le u401.2.2.1
              exact ih249 (0, u401.1, u401.2.2.1, u401.2.2.2.2.2.1, u401.2.2.2.2.1, u401.2.2.2.2.2.2.2.1, u401.2.2.2.2.2.2.2.2, u401.2.1, u401.2.2.2.1, u401.2.2.2.2.2.2.1, (fact0 tx t3 (6 - oz) (gz, cz)).1, (fact0 tx t3 (6 - oz) (gz, cz)).2, sz) ⟨xh404, (show t2 ≤ u401.1 by omega), (show 0 ≤ 1 by omega), (fun e => absurd e c413), (show RS kq s0 f0 (xx + (1 - 0)) u401.2.2.1 u401.2.2.2.2.2.2.2.1 u401.2.2.2.2.2.2.2.2 u401.2.2.2.2.1 u401.2.2.2.2.2.1 u401.1 from rs_at xh406 (by omega)), (fun _ e => absurd e c413), (show RR tx t3 ((fact0 tx t3 (6 - oz) (gz, cz)).1) u401.1 u401.2.1 u401.2.2.1 u401.2.2.2.1 from xh409), xh410, (fun e => absurd (show (0 : Nat) = 1 from e) (by decide)), (fun _ e => absurd e c413), (fun _ => ⟨_, _, _, xh448⟩)⟩ (show 2 * (t3 - u401.1) + bz1 u401.2.2.1 + 0 < 2 * (t3 - az) + bz1 bz + mz by omega)
          · refine j_if_eqF (pc := 55) C (tgt := 79) d_Model_test_55 (by decide) (by decide) ?_
            refine j_aload_n (pc := 58) C d_Model_test_58 rfl 2 rfl ?_
            refine j_bipush (pc := 59) C (v := 16) d_Model_test_59 (by decide) ?_
            refine j_aload_n (pc := 61) C d_Model_test_61 rfl 2 rfl ?_
            refine j_get (pc := 62) C gf_Model_207 10 rfl rfl d_Model_test_62 ?_
            have xh450 : gz.1 = 0 := ((rr_z xh395).mp rfl)
            by_cases c451 : oz = 6
            · refine j_callVv (pc := 65) C (c_M_opens_N l D y mo ma t1 u391 t3 ez 0 pz i7 i8 i42 i49 (nI zc) zn oz i59 i61 i64 i66 t67 i76 i78 zw 16 u391 gz tx (by omega) ((rr_z xh395).mp rfl) (by omega) rfl) kw_Model_353 kv_Model_opens 0 10 rfl rfl ⟨by decide, by decide⟩ ⟨by decide, by decide⟩ (wr := [(ma 33, .inl (y 3, 2, .inl (WD 24))), (ma 34, .inl (y 3, 3, .inl (WD 25))), (ma 36, .inl (y 3, 3, .inl (WD 27))), (ma 37, .inl (y 3, 3, .inl (WD 28))), (ma 38, .inl (y 3, 5, .inl (WD 29))), (ma 39, .inl (y 3, 5, .inl (WD 30))), (ma 40, .inl (y 3, 3, .inl (WD 31))), (ma 41, .inl (y 3, 3, .inl (WD 32))), (ma 50, .inl (y 0, 3200, .inl zf)), (ma 0, .inl (y 0, 1600, .inl (tby tx))), (ma 35, .inl (y 3, 3, .inl (WD 26)))]) [10, 9] [0, 1, 2, 3, 4, 5, 6, 7, 8, 11, 12] rfl rfl (by decide +kernel) (by decide +kernel) (by decide +kernel) (As := [.int 16, .int (nI u391)]) (rest := []) rfl (nb rfl) rfl d_Model_test_65 (fun u452 hu453 => ?_)
              obtain ⟨xh454, xh455⟩ := hu453
              refine j_ws (ws' := [(ma 33, .inl (y 3, 2, .inl (WD 24))), (ma 34, .inl (y 3, 3, .inl (WD 25))), (ma 36, .inl (y 3, 3, .inl (WD 27))), (ma 37, .inl (y 3, 3, .inl (WD 28))), (ma 38, .inl (y 3, 5, .inl (WD 29))), (ma 39, .inl (y 3, 5, .inl (WD 30))), (ma 40, .inl (y 3, 3, .inl (WD 31))), (ma 41, .inl (y 3, 3, .inl (WD 32))), (ma 50, .inl (y 0, 3200, .inl zf)), (ma 0, .inl (y 0, 1600, .inl (tby tx))), (ma 35, .inl (y 3, 3, .inl (WD 26))), MB mo ma (nI t1) (nI u391) (nI t3) ez u452.1 u452.2 i7 i8 i42 i49 (nI zc) (nI zn) (nI oz) i59 i61 i64 i66 (nI t67) i76 i78, (ma 52, .inl (y 0, 1700, .inl zw))]) rfl ?_
              have xh456 : RS kq s0 f0 xx u452.1 zf zw zc zn u391 := rs_bad (rs_at xh280 (show az ≤ u391 by omega)) xh454
              refine j_aload_n (pc := 68) C d_Model_test_68 rfl 2 rfl ?_
              refine j_aload_n (pc := 69) C d_Model_test_69 rfl 2 rfl ?_
              refine j_get (pc := 70) C gf_Model_96 11 rfl rfl d_Model_test_70 ?_
              refine j_callVv (pc := 73) C (c_M_asks_3 l D y mo (ma 35) ma t1 u391 t3 ez u452.1 u452.2 i7 i8 i42 i49 (nI zc) (nI zn) (nI oz) i59 i61 i64 i66 t67 i76 i78 tx 26 (failS 4 u391 gz) xh393 he hB xh455 (by omega) (by decide)) kw_Model_263 kv_Model_asks 0 10 rfl rfl ⟨by decide, by decide⟩ ⟨by decide, by decide⟩ (wr := [(ma 33, .inl (y 3, 2, .inl (WD 24))), (ma 34, .inl (y 3, 3, .inl (WD 25))), (ma 36, .inl (y 3, 3, .inl (WD 27))), (ma 37, .inl (y 3, 3, .inl (WD 28))), (ma 38, .inl (y 3, 5, .inl (WD 29))), (ma 39, .inl (y 3, 5, .inl (WD 30))), (ma 40, .inl (y 3, 3, .inl (WD 31))), (ma 41, .inl (y 3, 3, .inl (WD 32))), (ma 50, .inl (y 0, 3200, .inl zf)), (ma 52, .inl (y 0, 1700, .inl zw))]) [11, 9, 10] [0, 1, 2, 3, 4, 5, 6, 7, 8, 12] rfl rfl (by decide +kernel) (by decide +kernel) (by decide +kernel) (As := [.ref (ma 35)]) (rest := []) rfl (nb rfl) rfl d_Model_test_73 (fun u457 hu458 => ?_)
              obtain ⟨xh459, xh460, xh461, xh462⟩ := hu458
              refine j_ws (ws' := [(ma 33, .inl (y 3, 2, .inl (WD 24))), (ma 34, .inl (y 3, 3, .inl (WD 25))), (ma 36, .inl (y 3, 3, .inl (WD 27))), (ma 37, .inl (y 3, 3, .inl (WD 28))), (ma 38, .inl (y 3, 5, .inl (WD 29))), (ma 39, .inl (y 3, 5, .inl (WD 30))), (ma 40, .inl (y 3, 3, .inl (WD 31))), (ma 41, .inl (y 3, 3, .inl (WD 32))), (ma 50, .inl (y 0, 3200, .inl zf)), (ma 52, .inl (y 0, 1700, .inl zw)), MB mo ma (nI t1) (nI u457.1) (nI t3) u457.2.1 u457.2.2.1 u457.2.2.2 i7 i8 i42 i49 (nI zc) (nI zn) (nI oz) i59 i61 i64 i66 (nI t67) i76 i78, (ma 0, .inl (y 0, 1600, .inl (tby tx))), (ma 35, .inl (y 3, 3, .inl (WD 26)))]) rfl ?_
              have xh463 : Rcb tx t3 (0, (gs, cs, [], oo)) (2, ((failS 4 (stS tx t3 gz) gz), cz, sz, oz)) := xh282.tr (Rcb.st ((stT _ _ _ _).trans ((sT_26 xh398).trans (if_pos c451))) (Rcb.rf _))
              have xh464 : RR tx t3 (failS 4 (stS tx t3 gz) gz) u457.1 u457.2.1 u457.2.2.1 u457.2.2.2 := (rr_of xh462 ((rw_d (fail_nz (by decide))).trans (by rw [← (xh394 rfl)])).symm)
              have xh465 : ¬ u457.2.2.1 = 0 := fun e => (fail_nz (by decide)) ((rr_z xh464).mp e)
              refine j_goto (pc := 76) C (tgt := 2) d_Model_test_76 (by decide) ?_
              refine j_sub (ws' := [MB mo ma (nI t1) (nI u457.1) (nI t3) u457.2.1 u457.2.2.1 u457.2.2.2 i7 i8 i42 i49 (nI zc) (nI zn) (nI oz) i59 i61 i64 i66 (nI t67) i76 i78, (ma 0, .inl (y 0, 1600, .inl (tby tx))), (ma 33, .inl (y 3, 2, .inl (WD 24))), (ma 34, .inl (y 3, 3, .inl (WD 25))), (ma 35, .inl (y 3, 3, .inl (WD 26))), (ma 36, .inl (y 3, 3, .inl (WD 27))), (ma 37, .inl (y 3, 3, .inl (WD 28))), (ma 38, .inl (y 3, 5, .inl (WD 29))), (ma 39, .inl (y 3, 5, .inl (WD 30))), (ma 40, .inl (y 3, 3, .inl (WD 31))), (ma 41, .inl (y 3, 3, .inl (WD 32))), (ma 50, .inl (y 0, 3200, .inl zf)), (ma 52, .inl (y 0, 1700, .inl zw))]) [10, 11, 0, 1, 12, 2, 3, 4, 5, 6, 7, 8, 9] rfl (by decide +kernel) ?_
              refine j_locs (lv' := [(1, .int (nI mz)), (0, .ref mo)]) [1, 2] rfl ?_
              have hz1 := bz_e c277
              have hz0 := bz_le u457.2.2.1
              have hz2 : bz1 u457.2.2.1 = 0 ∨ az + 1 ≤ u457.1 := Or.inl (bz_0 xh465)
              have xh466 : RS kq s0 f0 xx u457.2.2.1 zf zw zc zn u391 := rs_bad xh456 xh465
              exact ih249 (mz, u457.1, u457.2.2.1, zn, zc, zf, zw, u457.2.1, u457.2.2.2, oz, (failS 4 (stS tx t3 gz) gz), cz, sz) ⟨xh460, (show t2 ≤ u457.1 by omega), hmz_, (fun e => absurd e xh465), (show RS kq s0 f0 (xx + (1 - mz)) u457.2.2.1 zf zw zc zn u457.1 by rw [hm1]; exact rs_at xh466 (by omega)), (fun e => absurd e (by omega)), (show RR tx t3 (failS 4 (stS tx t3 gz) gz) u457.1 u457.2.1 u457.2.2.1 u457.2.2.2 from xh464), ho_, (fun _ e => absurd e xh465), (fun e => absurd (show (mz : Nat) = 0 from e) (by omega)), (fun _ => ⟨_, _, _, xh463⟩)⟩ (show 2 * (t3 - u457.1) + bz1 u457.2.2.1 + mz < 2 * (t3 - az) + bz1 bz + mz by omega)
            · refine j_callVv (pc := 65) C (c_M_opens_Y l D y mo ma t1 u391 t3 ez 0 pz i7 i8 i42 i49 zc zn oz i59 i61 i64 i66 t67 i76 i78 zw 16 (nI u391) (by omega) (by omega) (by omega)) kw_Model_353 kv_Model_opens 0 10 rfl rfl ⟨by decide, by decide⟩ ⟨by decide, by decide⟩ (wr := [(ma 33, .inl (y 3, 2, .inl (WD 24))), (ma 34, .inl (y 3, 3, .inl (WD 25))), (ma 36, .inl (y 3, 3, .inl (WD 27))), (ma 37, .inl (y 3, 3, .inl (WD 28))), (ma 38, .inl (y 3, 5, .inl (WD 29))), (ma 39, .inl (y 3, 5, .inl (WD 30))), (ma 40, .inl (y 3, 3, .inl (WD 31))), (ma 41, .inl (y 3, 3, .inl (WD 32))), (ma 50, .inl (y 0, 3200, .inl zf)), (ma 0, .inl (y 0, 1600, .inl (tby tx))), (ma 35, .inl (y 3, 3, .inl (WD 26)))]) [10, 9] [0, 1, 2, 3, 4, 5, 6, 7, 8, 11, 12] rfl rfl (by decide +kernel) (by decide +kernel) (by decide +kernel) (As := [.int 16, .int (nI u391)]) (rest := []) rfl (nb rfl) rfl d_Model_test_65 (fun _ _ => ?_)
              refine j_ws (ws' := [(ma 33, .inl (y 3, 2, .inl (WD 24))), (ma 34, .inl (y 3, 3, .inl (WD 25))), (ma 36, .inl (y 3, 3, .inl (WD 27))), (ma 37, .inl (y 3, 3, .inl (WD 28))), (ma 38, .inl (y 3, 5, .inl (WD 29))), (ma 39, .inl (y 3, 5, .inl (WD 30))), (ma 40, .inl (y 3, 3, .inl (WD 31))), (ma 41, .inl (y 3, 3, .inl (WD 32))), (ma 50, .inl (y 0, 3200, .inl zf)), (ma 0, .inl (y 0, 1600, .inl (tby tx))), (ma 35, .inl (y 3, 3, .inl (WD 26))), MB mo ma (nI t1) (nI u391) (nI t3) ez 0 pz i7 i8 i42 i49 (nI zc) (nI (zn + 1)) (nI (oz + 1)) i59 i61 i64 i66 (nI t67) i76 i78, (ma 52, .inl (y 0, 1700, .inl (upd zw zn 16)))]) rfl ?_
              have xh467 : RS kq s0 f0 xx 0 zf (upd zw zn 16) zc (zn + 1) (u391 + 1) := rs_push (rs_at xh280 (show az ≤ u391 by omega)) (by decide)
              have xh468 : ITm (upd zw zn 16) (zn + 1) := (it_push hT0 (by decide))
              have xh469 : WB (16 :: sz) (upd zw zn 16) 0 (zn + 1) := wb_push xh284 (by decide)
              have xh470 : opn (16 :: sz) ≤ (oz + 1) := opn_push xh285
              refine j_aload_n (pc := 68) C d_Model_test_68 rfl 2 rfl ?_
              refine j_aload_n (pc := 69) C d_Model_test_69 rfl 2 rfl ?_
              refine j_get (pc := 70) C gf_Model_96 11 rfl rfl d_Model_test_70 ?_
              refine j_callVv (pc := 73) C (c_M_asks_3 l D y mo (ma 35) ma t1 u391 t3 ez 0 pz i7 i8 i42 i49 (nI zc) (nI (zn + 1)) (nI (oz + 1)) i59 i61 i64 i66 t67 i76 i78 tx 26 gz xh393 he hB xh395 (by omega) (by decide)) kw_Model_263 kv_Model_asks 0 10 rfl rfl ⟨by decide, by decide⟩ ⟨by decide, by decide⟩ (wr := [(ma 33, .inl (y 3, 2, .inl (WD 24))), (ma 34, .inl (y 3, 3, .inl (WD 25))), (ma 36, .inl (y 3, 3, .inl (WD 27))), (ma 37, .inl (y 3, 3, .inl (WD 28))), (ma 38, .inl (y 3, 5, .inl (WD 29))), (ma 39, .inl (y 3, 5, .inl (WD 30))), (ma 40, .inl (y 3, 3, .inl (WD 31))), (ma 41, .inl (y 3, 3, .inl (WD 32))), (ma 50, .inl (y 0, 3200, .inl zf)), (ma 52, .inl (y 0, 1700, .inl (upd zw zn 16)))]) [11, 9, 10] [0, 1, 2, 3, 4, 5, 6, 7, 8, 12] rfl rfl (by decide +kernel) (by decide +kernel) (by decide +kernel) (As := [.ref (ma 35)]) (rest := []) rfl (nb rfl) rfl d_Model_test_73 (fun u471 hu472 => ?_)
              obtain ⟨xh473, xh474, xh475, xh476⟩ := hu472
              refine j_ws (ws' := [(ma 33, .inl (y 3, 2, .inl (WD 24))), (ma 34, .inl (y 3, 3, .inl (WD 25))), (ma 36, .inl (y 3, 3, .inl (WD 27))), (ma 37, .inl (y 3, 3, .inl (WD 28))), (ma 38, .inl (y 3, 5, .inl (WD 29))), (ma 39, .inl (y 3, 5, .inl (WD 30))), (ma 40, .inl (y 3, 3, .inl (WD 31))), (ma 41, .inl (y 3, 3, .inl (WD 32))), (ma 50, .inl (y 0, 3200, .inl zf)), (ma 52, .inl (y 0, 1700, .inl (upd zw zn 16))), MB mo ma (nI t1) (nI u471.1) (nI t3) u471.2.1 u471.2.2.1 u471.2.2.2 i7 i8 i42 i49 (nI zc) (nI (zn + 1)) (nI (oz + 1)) i59 i61 i64 i66 (nI t67) i76 i78, (ma 0, .inl (y 0, 1600, .inl (tby tx))), (ma 35, .inl (y 3, 3, .inl (WD 26)))]) rfl ?_
              have xh477 : Rcb tx t3 (0, (gs, cs, [], oo)) (0, ((advS tx t3 gz), cz, (16 :: sz), (oz + 1))) := xh282.tr (Rcb.st ((stT _ _ _ _).trans ((sT_26 xh398).trans (if_neg c451))) (Rcb.rf _))
              have xh478 : RR tx t3 (advS tx t3 gz) u471.1 u471.2.1 u471.2.2.1 u471.2.2.2 := (rr_of xh476 (if_pos xh398).symm)
              have xh479 : u471.2.2.1 = 0 := (rr_z xh478).mpr (adv_ok xh450)
              have hp480 := (xh475 xh479).2
              have xh481 : RS kq s0 f0 xx u471.2.2.1 zf (upd zw zn 16) zc (zn + 1) (u391 + 1) := rs_mono xh467 (fun _ => rfl)
              refine j_ws (ws' := [(ma 33, .inl (y 3, 2, .inl (WD 24))), (ma 34, .inl (y 3, 3, .inl (WD 25))), (ma 36, .inl (y 3, 3, .inl (WD 27))), (ma 37, .inl (y 3, 3, .inl (WD 28))), (ma 38, .inl (y 3, 5, .inl (WD 29))), (ma 39, .inl (y 3, 5, .inl (WD 30))), (ma 40, .inl (y 3, 3, .inl (WD 31))), (ma 41, .inl (y 3, 3, .inl (WD 32))), (ma 50, .inl (y 0, 3200, .inl zf)), (ma 52, .inl (y 0, 1700, .inl (upd zw zn 16))), MB mo ma (nI t1) (nI u471.1) (nI t3) u471.2.1 0 u471.2.2.2 i7 i8 i42 i49 (nI zc) (nI (zn + 1)) (nI (oz + 1)) i59 i61 i64 i66 (nI t67) i76 i78, (ma 0, .inl (y 0, 1600, .inl (tby tx))), (ma 35, .inl (y 3, 3, .inl (WD 26)))]) (by rw [xh479]) ?_
              have xh482 : RR tx t3 (advS tx t3 gz) u471.1 u471.2.1 0 u471.2.2.2 := by have hq := xh478; rw [xh479] at hq; exact hq
              refine j_goto (pc := 76) C (tgt := 2) d_Model_test_76 (by decide) ?_
              refine j_sub (ws' := [MB mo ma (nI t1) (nI u471.1) (nI t3) u471.2.1 0 u471.2.2.2 i7 i8 i42 i49 (nI zc) (nI (zn + 1)) (nI (oz + 1)) i59 i61 i64 i66 (nI t67) i76 i78, (ma 0, .inl (y 0, 1600, .inl (tby tx))), (ma 33, .inl (y 3, 2, .inl (WD 24))), (ma 34, .inl (y 3, 3, .inl (WD 25))), (ma 35, .inl (y 3, 3, .inl (WD 26))), (ma 36, .inl (y 3, 3, .inl (WD 27))), (ma 37, .inl (y 3, 3, .inl (WD 28))), (ma 38, .inl (y 3, 5, .inl (WD 29))), (ma 39, .inl (y 3, 5, .inl (WD 30))), (ma 40, .inl (y 3, 3, .inl (WD 31))), (ma 41, .inl (y 3, 3, .inl (WD 32))), (ma 50, .inl (y 0, 3200, .inl zf)), (ma 52, .inl (y 0, 1700, .inl (upd zw zn 16)))]) [10, 11, 0, 1, 12, 2, 3, 4, 5, 6, 7, 8, 9] rfl (by decide +kernel) ?_
              refine j_locs (lv' := [(1, .int (nI mz)), (0, .ref mo)]) [1, 2] rfl ?_
              have hz1 := bz_e c277
              have hz0 := bz_1
              have hz2 : bz1 0 = 0 ∨ az + 1 ≤ u471.1 := Or.inr (by omega)
              exact ih249 (mz, u471.1, 0, (zn + 1), zc, zf, (upd zw zn 16), u471.2.1, u471.2.2.2, (oz + 1), (advS tx t3 gz), cz, (16 :: sz)) ⟨xh474, (show t2 ≤ u471.1 by omega), hmz_, (fun _ => xh468), (show RS kq s0 f0 (xx + (1 - mz)) 0 zf (upd zw zn 16) zc (zn + 1) u471.1 by rw [hm1]; exact rs_at xh467 (by omega)), (fun e => absurd e (by omega)), (show RR tx t3 (advS tx t3 gz) u471.1 u471.2.1 0 u471.2.2.2 from xh482), (show (oz + 1) ≤ 6 by omega), (fun _ _ => ⟨xh477, xh283, xh469, xh470⟩), (fun e => absurd (show (mz : Nat) = 0 from e) (by omega)), (fun e => absurd rfl e)⟩ (show 2 * (t3 - u471.1) + bz1 0 + mz < 2 * (t3 - az) + bz1 bz + mz by omega)
        · refine j_icmp_neF (pc := 21) C (tgt := 47) d_Model_test_21 (by decide) (show nI (tx u287) = nI 91 from (nI_eq (by omega) (by omega)).mpr (by omega)) ?_
          refine j_aload_n (pc := 24) C d_Model_test_24 rfl 2 rfl ?_
          refine j_bipush (pc := 25) C (v := 25) d_Model_test_25 (by decide) ?_
          refine j_aload_n (pc := 27) C d_Model_test_27 rfl 2 rfl ?_
          refine j_get (pc := 28) C gf_Model_207 11 rfl rfl d_Model_test_28 ?_
          have xh483 : issS tx t3 91 gz = true := (sg_yes ((rr_z xh291).mp rfl) xh290 xh294 (show tx u287 = 91 by omega) (by decide)).1
          by_cases c484 : oz = 6
          · refine j_callVv (pc := 31) C (c_M_opens_N l D y mo ma t1 u287 t3 ez 0 pz i7 i8 i42 i49 (nI zc) zn oz i59 i61 i64 i66 t67 i76 i78 zw 25 u287 gz tx (by omega) ((rr_z xh291).mp rfl) (by omega) rfl) kw_Model_353 kv_Model_opens 0 10 rfl rfl ⟨by decide, by decide⟩ ⟨by decide, by decide⟩ (wr := [(ma 33, .inl (y 3, 2, .inl (WD 24))), (ma 34, .inl (y 3, 3, .inl (WD 25))), (ma 35, .inl (y 3, 3, .inl (WD 26))), (ma 36, .inl (y 3, 3, .inl (WD 27))), (ma 37, .inl (y 3, 3, .inl (WD 28))), (ma 38, .inl (y 3, 5, .inl (WD 29))), (ma 39, .inl (y 3, 5, .inl (WD 30))), (ma 40, .inl (y 3, 3, .inl (WD 31))), (ma 41, .inl (y 3, 3, .inl (WD 32))), (ma 50, .inl (y 0, 3200, .inl zf)), (ma 0, .inl (y 0, 1600, .inl (tby tx)))]) [11, 10] [0, 1, 2, 3, 4, 5, 6, 7, 8, 9, 12] rfl rfl (by decide +kernel) (by decide +kernel) (by decide +kernel) (As := [.int 25, .int (nI u287)]) (rest := []) rfl (nb rfl) rfl d_Model_test_31 (fun u485 hu486 => ?_)
            obtain ⟨xh487, xh488⟩ := hu486
            refine j_ws (ws' := [(ma 33, .inl (y 3, 2, .inl (WD 24))), (ma 34, .inl (y 3, 3, .inl (WD 25))), (ma 35, .inl (y 3, 3, .inl (WD 26))), (ma 36, .inl (y 3, 3, .inl (WD 27))), (ma 37, .inl (y 3, 3, .inl (WD 28))), (ma 38, .inl (y 3, 5, .inl (WD 29))), (ma 39, .inl (y 3, 5, .inl (WD 30))), (ma 40, .inl (y 3, 3, .inl (WD 31))), (ma 41, .inl (y 3, 3, .inl (WD 32))), (ma 50, .inl (y 0, 3200, .inl zf)), (ma 0, .inl (y 0, 1600, .inl (tby tx))), MB mo ma (nI t1) (nI u287) (nI t3) ez u485.1 u485.2 i7 i8 i42 i49 (nI zc) (nI zn) (nI oz) i59 i61 i64 i66 (nI t67) i76 i78, (ma 52, .inl (y 0, 1700, .inl zw))]) rfl ?_
            have xh489 : RS kq s0 f0 xx u485.1 zf zw zc zn u287 := rs_bad (rs_at xh280 (show az ≤ u287 by omega)) xh487
            refine j_aload_n (pc := 34) C d_Model_test_34 rfl 2 rfl ?_
            refine j_dup (pc := 35) C d_Model_test_35 rfl ?_
            refine j_get (pc := 36) C gf_Model_207 11 rfl rfl d_Model_test_36 ?_
            refine j_iconst (pc := 39) C (v := 1) d_Model_test_39 (by decide) ?_
            refine j_iadd (pc := 40) C (v := nI (u287 + 1)) d_Model_test_40 (nI_add _ _) ?_
            refine j_put (pc := 41) C pf_Model_207 11 (ws' := [(ma 33, .inl (y 3, 2, .inl (WD 24))), (ma 34, .inl (y 3, 3, .inl (WD 25))), (ma 35, .inl (y 3, 3, .inl (WD 26))), (ma 36, .inl (y 3, 3, .inl (WD 27))), (ma 37, .inl (y 3, 3, .inl (WD 28))), (ma 38, .inl (y 3, 5, .inl (WD 29))), (ma 39, .inl (y 3, 5, .inl (WD 30))), (ma 40, .inl (y 3, 3, .inl (WD 31))), (ma 41, .inl (y 3, 3, .inl (WD 32))), (ma 50, .inl (y 0, 3200, .inl zf)), (ma 0, .inl (y 0, 1600, .inl (tby tx))), MB mo ma (nI t1) (nI (u287 + 1)) (nI t3) ez u485.1 u485.2 i7 i8 i42 i49 (nI zc) (nI zn) (nI oz) i59 i61 i64 i66 (nI t67) i76 i78, (ma 52, .inl (y 0, 1700, .inl zw))]) rfl rfl rfl (nl rfl) rfl d_Model_test_41 ?_
            have xh490 : Rcb tx t3 (0, (gs, cs, [], oo)) (2, ((failS 4 (stS tx t3 gz) gz), cz, sz, oz)) := xh282.tr (Rcb.st ((stT _ _ _ _).trans ((sT_91 xh483).trans (if_pos c484))) (Rcb.rf _))
            have xh491 : RR tx t3 (failS 4 u287 gz) (u287 + 1) ez u485.1 u485.2 := rr_dd xh488 xh487 (by omega)
            have xh492 : RR tx t3 (failS 4 (stS tx t3 gz) gz) (u287 + 1) ez u485.1 u485.2 := (rr_of xh491 (by rw [← xh290]))
            refine j_goto (pc := 44) C (tgt := 2) d_Model_test_44 (by decide) ?_
            refine j_sub (ws' := [MB mo ma (nI t1) (nI (u287 + 1)) (nI t3) ez u485.1 u485.2 i7 i8 i42 i49 (nI zc) (nI zn) (nI oz) i59 i61 i64 i66 (nI t67) i76 i78, (ma 0, .inl (y 0, 1600, .inl (tby tx))), (ma 33, .inl (y 3, 2, .inl (WD 24))), (ma 34, .inl (y 3, 3, .inl (WD 25))), (ma 35, .inl (y 3, 3, .inl (WD 26))), (ma 36, .inl (y 3, 3, .inl (WD 27))), (ma 37, .inl (y 3, 3, .inl (WD 28))), (ma 38, .inl (y 3, 5, .inl (WD 29))), (ma 39, .inl (y 3, 5, .inl (WD 30))), (ma 40, .inl (y 3, 3, .inl (WD 31))), (ma 41, .inl (y 3, 3, .inl (WD 32))), (ma 50, .inl (y 0, 3200, .inl zf)), (ma 52, .inl (y 0, 1700, .inl zw))]) [11, 10, 0, 1, 2, 3, 4, 5, 6, 7, 8, 9, 12] rfl (by decide +kernel) ?_
            refine j_locs (lv' := [(1, .int (nI mz)), (0, .ref mo)]) [1, 2] rfl ?_
            have hz1 := bz_e c277
            have hz0 := bz_le u485.1
            have hz2 : bz1 u485.1 = 0 ∨ az + 1 ≤ (u287 + 1) := Or.inl (bz_0 xh487)
            exact ih249 (mz, (u287 + 1), u485.1, zn, zc, zf, zw, ez, u485.2, oz, (failS 4 (stS tx t3 gz) gz), cz, sz) ⟨(show (u287 + 1) ≤ t3 by omega), (show t2 ≤ (u287 + 1) by omega), hmz_, (fun e => absurd e xh487), (show RS kq s0 f0 (xx + (1 - mz)) u485.1 zf zw zc zn (u287 + 1) by rw [hm1]; exact rs_at xh489 (by omega)), (fun e => absurd e (by omega)), (show RR tx t3 (failS 4 (stS tx t3 gz) gz) (u287 + 1) ez u485.1 u485.2 from xh492), ho_, (fun _ e => absurd e xh487), (fun e => absurd (show (mz : Nat) = 0 from e) (by omega)), (fun _ => ⟨_, _, _, xh490⟩)⟩ (show 2 * (t3 - (u287 + 1)) + bz1 u485.1 + mz < 2 * (t3 - az) + bz1 bz + mz by omega)
          · refine j_callVv (pc := 31) C (c_M_opens_Y l D y mo ma t1 u287 t3 ez 0 pz i7 i8 i42 i49 zc zn oz i59 i61 i64 i66 t67 i76 i78 zw 25 (nI u287) (by omega) (by omega) (by omega)) kw_Model_353 kv_Model_opens 0 10 rfl rfl ⟨by decide, by decide⟩ ⟨by decide, by decide⟩ (wr := [(ma 33, .inl (y 3, 2, .inl (WD 24))), (ma 34, .inl (y 3, 3, .inl (WD 25))), (ma 35, .inl (y 3, 3, .inl (WD 26))), (ma 36, .inl (y 3, 3, .inl (WD 27))), (ma 37, .inl (y 3, 3, .inl (WD 28))), (ma 38, .inl (y 3, 5, .inl (WD 29))), (ma 39, .inl (y 3, 5, .inl (WD 30))), (ma 40, .inl (y 3, 3, .inl (WD 31))), (ma 41, .inl (y 3, 3, .inl (WD 32))), (ma 50, .inl (y 0, 3200, .inl zf)), (ma 0, .inl (y 0, 1600, .inl (tby tx)))]) [11, 10] [0, 1, 2, 3, 4, 5, 6, 7, 8, 9, 12] rfl rfl (by decide +kernel) (by decide +kernel) (by decide +kernel) (As := [.int 25, .int (nI u287)]) (rest := []) rfl (nb rfl) rfl d_Model_test_31 (fun _ _ => ?_)
            refine j_ws (ws' := [(ma 33, .inl (y 3, 2, .inl (WD 24))), (ma 34, .inl (y 3, 3, .inl (WD 25))), (ma 35, .inl (y 3, 3, .inl (WD 26))), (ma 36, .inl (y 3, 3, .inl (WD 27))), (ma 37, .inl (y 3, 3, .inl (WD 28))), (ma 38, .inl (y 3, 5, .inl (WD 29))), (ma 39, .inl (y 3, 5, .inl (WD 30))), (ma 40, .inl (y 3, 3, .inl (WD 31))), (ma 41, .inl (y 3, 3, .inl (WD 32))), (ma 50, .inl (y 0, 3200, .inl zf)), (ma 0, .inl (y 0, 1600, .inl (tby tx))), MB mo ma (nI t1) (nI u287) (nI t3) ez 0 pz i7 i8 i42 i49 (nI zc) (nI (zn + 1)) (nI (oz + 1)) i59 i61 i64 i66 (nI t67) i76 i78, (ma 52, .inl (y 0, 1700, .inl (upd zw zn 25)))]) rfl ?_
            have xh493 : RS kq s0 f0 xx 0 zf (upd zw zn 25) zc (zn + 1) (u287 + 1) := rs_push (rs_at xh280 (show az ≤ u287 by omega)) (by decide)
            have xh494 : ITm (upd zw zn 25) (zn + 1) := (it_push hT0 (by decide))
            have xh495 : WB (25 :: sz) (upd zw zn 25) 0 (zn + 1) := wb_push xh284 (by decide)
            have xh496 : opn (25 :: sz) ≤ (oz + 1) := opn_push xh285
            refine j_aload_n (pc := 34) C d_Model_test_34 rfl 2 rfl ?_
            refine j_dup (pc := 35) C d_Model_test_35 rfl ?_
            refine j_get (pc := 36) C gf_Model_207 11 rfl rfl d_Model_test_36 ?_
            refine j_iconst (pc := 39) C (v := 1) d_Model_test_39 (by decide) ?_
            refine j_iadd (pc := 40) C (v := nI (u287 + 1)) d_Model_test_40 (nI_add _ _) ?_
            refine j_put (pc := 41) C pf_Model_207 11 (ws' := [(ma 33, .inl (y 3, 2, .inl (WD 24))), (ma 34, .inl (y 3, 3, .inl (WD 25))), (ma 35, .inl (y 3, 3, .inl (WD 26))), (ma 36, .inl (y 3, 3, .inl (WD 27))), (ma 37, .inl (y 3, 3, .inl (WD 28))), (ma 38, .inl (y 3, 5, .inl (WD 29))), (ma 39, .inl (y 3, 5, .inl (WD 30))), (ma 40, .inl (y 3, 3, .inl (WD 31))), (ma 41, .inl (y 3, 3, .inl (WD 32))), (ma 50, .inl (y 0, 3200, .inl zf)), (ma 0, .inl (y 0, 1600, .inl (tby tx))), MB mo ma (nI t1) (nI (u287 + 1)) (nI t3) ez 0 pz i7 i8 i42 i49 (nI zc) (nI (zn + 1)) (nI (oz + 1)) i59 i61 i64 i66 (nI t67) i76 i78, (ma 52, .inl (y 0, 1700, .inl (upd zw zn 25)))]) rfl rfl rfl (nl rfl) rfl d_Model_test_41 ?_
            have xh497 : Rcb tx t3 (0, (gs, cs, [], oo)) (0, ((advS tx t3 gz), cz, (25 :: sz), (oz + 1))) := xh282.tr (Rcb.st ((stT _ _ _ _).trans ((sT_91 xh483).trans (if_neg c484))) (Rcb.rf _))
            have xh498 : RR tx t3 (advS tx t3 gz) (u287 + 1) ez 0 pz := (rr_adv xh291 he (sg_yes ((rr_z xh291).mp rfl) xh290 xh294 (show tx u287 = 91 by omega) (by decide)).2.2 (by decide) (sg_yes ((rr_z xh291).mp rfl) xh290 xh294 (show tx u287 = 91 by omega) (by decide)).2.1 (Or.inl ⟨rfl, rfl⟩))
            refine j_goto (pc := 44) C (tgt := 2) d_Model_test_44 (by decide) ?_
            refine j_sub (ws' := [MB mo ma (nI t1) (nI (u287 + 1)) (nI t3) ez 0 pz i7 i8 i42 i49 (nI zc) (nI (zn + 1)) (nI (oz + 1)) i59 i61 i64 i66 (nI t67) i76 i78, (ma 0, .inl (y 0, 1600, .inl (tby tx))), (ma 33, .inl (y 3, 2, .inl (WD 24))), (ma 34, .inl (y 3, 3, .inl (WD 25))), (ma 35, .inl (y 3, 3, .inl (WD 26))), (ma 36, .inl (y 3, 3, .inl (WD 27))), (ma 37, .inl (y 3, 3, .inl (WD 28))), (ma 38, .inl (y 3, 5, .inl (WD 29))), (ma 39, .inl (y 3, 5, .inl (WD 30))), (ma 40, .inl (y 3, 3, .inl (WD 31))), (ma 41, .inl (y 3, 3, .inl (WD 32))), (ma 50, .inl (y 0, 3200, .inl zf)), (ma 52, .inl (y 0, 1700, .inl (upd zw zn 25)))]) [11, 10, 0, 1, 2, 3, 4, 5, 6, 7, 8, 9, 12] rfl (by decide +kernel) ?_
            refine j_locs (lv' := [(1, .int (nI mz)), (0, .ref mo)]) [1, 2] rfl ?_
            have hz1 := bz_e c277
            have hz0 := bz_1
            have hz2 : bz1 0 = 0 ∨ az + 1 ≤ (u287 + 1) := Or.inr (by omega)
            exact ih249 (mz, (u287 + 1), 0, (zn + 1), zc, zf, (upd zw zn 25), ez, pz, (oz + 1), (advS tx t3 gz), cz, (25 :: sz)) ⟨(show (u287 + 1) ≤ t3 by omega), (show t2 ≤ (u287 + 1) by omega), hmz_, (fun _ => xh494), (show RS kq s0 f0 (xx + (1 - mz)) 0 zf (upd zw zn 25) zc (zn + 1) (u287 + 1) by rw [hm1]; exact rs_at xh493 (by omega)), (fun e => absurd e (by omega)), (show RR tx t3 (advS tx t3 gz) (u287 + 1) ez 0 pz from xh498), (show (oz + 1) ≤ 6 by omega), (fun _ _ => ⟨xh497, xh283, xh495, xh496⟩), (fun e => absurd (show (mz : Nat) = 0 from e) (by omega)), (fun e => absurd rfl e)⟩ (show 2 * (t3 - (u287 + 1)) + bz1 0 + mz < 2 * (t3 - az) + bz1 bz + mz by omega)
