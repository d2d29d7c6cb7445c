theorem up_le {f : Nat → Int32} {i : Nat} (hi : i < 2 ^ 31) (h : ∀ j, j < i → f j = 0) : ∀ j, j ≤ i → upd f (nI i).toNatClampNeg 0 j = 0 := fun j hj => by
  rw [nI_clamp hi]
  by_cases e : j = i
  · subst e
    exact pk_us
  · rw [pk_un e]
    exact h j (by omega)
theorem dn_lt {f : Nat → Int32} {i : Nat} (hi : i + 1 < 2 ^ 31) (h : ∀ j, j < i → f j = 0) : ∀ j, j < i + 1 → upd (upd f (nI i).toNatClampNeg 0) (nI (i + 1)).toNatClampNeg (-1) j = 0 := fun j hj => by
  rw [nI_clamp hi, pk_un (by omega)]
  exact up_le (by omega) h j (by omega)
theorem dn_at {f : Nat → Int32} {i : Nat} (hi : i + 1 < 2 ^ 31) : upd (upd f (nI i).toNatClampNeg 0) (nI (i + 1)).toNatClampNeg (-1) (i + 1) = -1 := by
  rw [nI_clamp hi]
  exact pk_us
theorem p3_le {a : Nat} (h : a ≤ 6) : 3 ^ a ≤ 729 := Nat.pow_le_pow_right (n := 3) (by decide) h
theorem p3_pos (a : Nat) : 1 ≤ 3 ^ a := Nat.one_le_pow _ _ (by decide)
theorem pl_lt {a b : Nat} (h : a ≤ 6) (hb : b < 3 ^ a) : (3 ^ a - 1) / 2 + b < 1093 := by
  have := p3_le h
  omega
theorem p3_s (a b : Nat) (hb : b < 3 ^ a) : 3 * b + 0 < 3 ^ (a + 1) := by
  rw [Nat.pow_succ]
  omega
theorem d_Model_unacts_0 : decode prog_13_method_108_code 0 = .ok (.aload_n 0, 1) := by decide +kernel
theorem d_Model_unacts_1 : decode prog_13_method_108_code 1 = .ok (.getfield 158, 3) := by decide +kernel
theorem d_Model_unacts_4 : decode prog_13_method_108_code 4 = .ok (.iconst 0, 1) := by decide +kernel
theorem d_Model_unacts_5 : decode prog_13_method_108_code 5 = .ok (.dup2, 1) := by decide +kernel
theorem d_Model_unacts_6 : decode prog_13_method_108_code 6 = .ok (.iaload, 1) := by decide +kernel
theorem d_Model_unacts_7 : decode prog_13_method_108_code 7 = .ok (.iconst 1, 1) := by decide +kernel
theorem d_Model_unacts_8 : decode prog_13_method_108_code 8 = .ok (.isub, 1) := by decide +kernel
theorem d_Model_unacts_9 : decode prog_13_method_108_code 9 = .ok (.iastore, 1) := by decide +kernel
theorem d_Model_unacts_10 : decode prog_13_method_108_code 10 = .ok (.aload_n 0, 1) := by decide +kernel
theorem d_Model_unacts_11 : decode prog_13_method_108_code 11 = .ok (.getfield 185, 3) := by decide +kernel
theorem gf_Model_185 : GF "NineBoardsModel" 185 10 74 := ⟨_, _, _, rfl, ci_Model, by decide, (mt_5 (List.mem_of_getElem? (i := 162) rfl) rfl)⟩
theorem d_Model_unacts_14 : decode prog_13_method_108_code 14 = .ok (.iload_n 1, 1) := by decide +kernel
theorem d_Model_unacts_15 : decode prog_13_method_108_code 15 = .ok (.iaload, 1) := by decide +kernel
theorem d_Model_unacts_16 : decode prog_13_method_108_code 16 = .ok (.ifCond .eq 34, 3) := by decide +kernel
theorem d_Model_unacts_50 : decode prog_13_method_108_code 50 = .ok (.aload_n 0, 1) := by decide +kernel
theorem d_Model_unacts_51 : decode prog_13_method_108_code 51 = .ok (.getfield 158, 3) := by decide +kernel
theorem d_Model_unacts_54 : decode prog_13_method_108_code 54 = .ok (.iconst 2, 1) := by decide +kernel
theorem d_Model_unacts_55 : decode prog_13_method_108_code 55 = .ok (.aload_n 0, 1) := by decide +kernel
theorem d_Model_unacts_56 : decode prog_13_method_108_code 56 = .ok (.getfield 188, 3) := by decide +kernel
theorem gf_Model_188 : GF "NineBoardsModel" 188 10 75 := ⟨_, _, _, rfl, ci_Model, by decide, (mt_5 (List.mem_of_getElem? (i := 163) rfl) rfl)⟩
theorem d_Model_unacts_59 : decode prog_13_method_108_code 59 = .ok (.iload_n 1, 1) := by decide +kernel
theorem d_Model_unacts_60 : decode prog_13_method_108_code 60 = .ok (.iaload, 1) := by decide +kernel
theorem d_Model_unacts_61 : decode prog_13_method_108_code 61 = .ok (.iastore, 1) := by decide +kernel
theorem d_Model_unacts_62 : decode prog_13_method_108_code 62 = .ok (.return_, 1) := by decide +kernel
set_option maxHeartbeats 4000000 in
set_option maxRecDepth 100000 in
theorem c_M_unacts (l : Launch) (D : va_G) (y : Nat → ClassId) (mo : Nat) (ad : Nat → Nat) (i : Nat) (f : Nat → Int32) (hi : i < 13) (hf : f i = 0) : CT l D y ⟨"NineBoardsModel", "unacts", "(I)V"⟩ prog_13_method_108_code 2 none ({ frames := 0, cells := 0, slots := 0, locals := 0 } : Room) [.ref mo, .int (nI i)] [MB mo ad 0 0 0 0 0 0 0 (-1) 0 0 0 0 0 0 0 0 0 0 1 0, (ad 62, .inl (y 0, 63, .inl (dayF (nI (i + 1))))), (ad 74, .inl (y 0, 13, .inl f)), (ad 75, .inl (y 0, 13, .inl (fun _ => 0)))] (QV D [MB mo ad 0 0 0 0 0 0 0 (-1) 0 0 0 0 0 0 0 0 0 0 1 0, (ad 62, .inl (y 0, 63, .inl (dayF (nI (i + 1))))), (ad 74, .inl (y 0, 13, .inl f)), (ad 75, .inl (y 0, 13, .inl (fun _ => 0)))] (fun (_ : Unit) => True) (fun _ => [MB mo ad 0 0 0 0 0 0 0 (-1) 0 0 0 0 0 0 0 0 0 0 1 0, (ad 62, .inl (y 0, 63, .inl (dayF (nI i)))), (ad 74, .inl (y 0, 13, .inl f)), (ad 75, .inl (y 0, 13, .inl (fun _ => 0)))])) := by
  refine CT.of (by decide) (nb rfl) ?_
  intro p e s m args below meth c C hr
  refine j_lv (lv' := [(0, .ref mo), (1, .int (nI i))]) rfl ?_
  refine j_aload_n (pc := 0) C d_Model_unacts_0 rfl 0 rfl ?_
  refine j_get (pc := 1) C gf_Model_158 0 rfl rfl d_Model_unacts_1 ?_
  refine j_iconst (pc := 4) C (v := 0) d_Model_unacts_4 (by decide) ?_
  refine j_dup2 (pc := 5) C d_Model_unacts_5 rfl rfl ?_
  refine j_iald (pc := 6) C 1 rfl (v := nI (i + 1)) (vin (by decide)) rfl d_Model_unacts_6 ?_
  refine j_iconst (pc := 7) C (v := 1) d_Model_unacts_7 (by decide) ?_
  refine j_isub (pc := 8) C (v := nI i) d_Model_unacts_8 (nI_pred i) ?_
  refine j_iast (pc := 9) C 1 rfl (ws' := [MB mo ad 0 0 0 0 0 0 0 (-1) 0 0 0 0 0 0 0 0 0 0 1 0, (ad 62, .inl (y 0, 63, .inl (dayF (nI i)))), (ad 74, .inl (y 0, 13, .inl f)), (ad 75, .inl (y 0, 13, .inl (fun _ => 0)))]) (vin (by decide)) (by rw [up_day0]; rfl) d_Model_unacts_9 ?_
  refine j_aload_n (pc := 10) C d_Model_unacts_10 rfl 0 rfl ?_
  refine j_get (pc := 11) C gf_Model_185 0 rfl rfl d_Model_unacts_11 ?_
  refine j_iload_n (pc := 14) C d_Model_unacts_14 rfl 1 rfl ?_
  refine j_iald (pc := 15) C 2 rfl (v := 0) (vp_in_nI (by omega) (by decide)) (by rw [nI_clamp (by omega)]; exact hf) d_Model_unacts_15 ?_
  refine j_if_eqT (pc := 16) C (tgt := 50) d_Model_unacts_16 (by decide) (by decide) ?_
  refine j_aload_n (pc := 50) C d_Model_unacts_50 rfl 0 rfl ?_
  refine j_get (pc := 51) C gf_Model_158 0 rfl rfl d_Model_unacts_51 ?_
  refine j_iconst (pc := 54) C (v := 2) d_Model_unacts_54 (by decide) ?_
  refine j_aload_n (pc := 55) C d_Model_unacts_55 rfl 0 rfl ?_
  refine j_get (pc := 56) C gf_Model_188 0 rfl rfl d_Model_unacts_56 ?_
  refine j_iload_n (pc := 59) C d_Model_unacts_59 rfl 1 rfl ?_
  refine j_iald (pc := 60) C 3 rfl (v := 0) (vp_in_nI (by omega) (by decide)) rfl d_Model_unacts_60 ?_
  refine j_iast (pc := 61) C 1 rfl (ws' := [MB mo ad 0 0 0 0 0 0 0 (-1) 0 0 0 0 0 0 0 0 0 0 1 0, (ad 62, .inl (y 0, 63, .inl (dayF (nI i)))), (ad 74, .inl (y 0, 13, .inl f)), (ad 75, .inl (y 0, 13, .inl (fun _ => 0)))]) (vin (by decide)) (by rw [up_dayF (by decide)]; rfl) d_Model_unacts_61 ?_
  exact j_vret (pc := 62) C hr () trivial [0, 1, 2, 3] rfl (by decide) (by decide) (by decide) d_Model_unacts_62
theorem d_Model_rows_43 : decode prog_13_method_109_code 43 = .ok (.iload_n 3, 1) := by decide +kernel
theorem d_Model_rows_44 : decode prog_13_method_109_code 44 = .ok (.ifCond .lt 118, 3) := by decide +kernel
theorem d_Model_rows_47 : decode prog_13_method_109_code 47 = .ok (.aload_n 0, 1) := by decide +kernel
theorem d_Model_rows_48 : decode prog_13_method_109_code 48 = .ok (.getfield 185, 3) := by decide +kernel
theorem d_Model_rows_51 : decode prog_13_method_109_code 51 = .ok (.iload_n 3, 1) := by decide +kernel
theorem d_Model_rows_52 : decode prog_13_method_109_code 52 = .ok (.iaload, 1) := by decide +kernel
theorem d_Model_rows_53 : decode prog_13_method_109_code 53 = .ok (.iconst 1, 1) := by decide +kernel
theorem d_Model_rows_54 : decode prog_13_method_109_code 54 = .ok (.iadd, 1) := by decide +kernel
theorem d_Model_rows_55 : decode prog_13_method_109_code 55 = .ok (.istore 4, 2) := by decide +kernel
theorem d_Model_rows_57 : decode prog_13_method_109_code 57 = .ok (.iload 4, 2) := by decide +kernel
theorem d_Model_rows_59 : decode prog_13_method_109_code 59 = .ok (.iconst 2, 1) := by decide +kernel
theorem d_Model_rows_60 : decode prog_13_method_109_code 60 = .ok (.if_icmp .gt 19, 3) := by decide +kernel
theorem d_Model_rows_63 : decode prog_13_method_109_code 63 = .ok (.aload_n 0, 1) := by decide +kernel
theorem d_Model_rows_64 : decode prog_13_method_109_code 64 = .ok (.iconst 0, 1) := by decide +kernel
theorem d_Model_rows_65 : decode prog_13_method_109_code 65 = .ok (.iload 4, 2) := by decide +kernel
theorem d_Model_rows_67 : decode prog_13_method_109_code 67 = .ok (.invokevirtual 478, 3) := by decide +kernel
theorem d_Model_rows_70 : decode prog_13_method_109_code 70 = .ok (.ifCond .ne 9, 3) := by decide +kernel
theorem d_Model_rows_73 : decode prog_13_method_109_code 73 = .ok (.iinc 4 1, 3) := by decide +kernel
theorem d_Model_rows_76 : decode prog_13_method_109_code 76 = .ok (.goto (-19), 3) := by decide +kernel
theorem d_Model_rows_79 : decode prog_13_method_109_code 79 = .ok (.iload 4, 2) := by decide +kernel
theorem d_Model_rows_81 : decode prog_13_method_109_code 81 = .ok (.iconst 2, 1) := by decide +kernel
theorem d_Model_rows_82 : decode prog_13_method_109_code 82 = .ok (.if_icmp .le 18, 3) := by decide +kernel
theorem d_Model_rows_85 : decode prog_13_method_109_code 85 = .ok (.iinc 3 (-1), 3) := by decide +kernel
theorem d_Model_rows_88 : decode prog_13_method_109_code 88 = .ok (.iload_n 3, 1) := by decide +kernel
theorem d_Model_rows_89 : decode prog_13_method_109_code 89 = .ok (.ifCond .lt (-46), 3) := by decide +kernel
theorem d_Model_rows_92 : decode prog_13_method_109_code 92 = .ok (.aload_n 0, 1) := by decide +kernel
theorem d_Model_rows_93 : decode prog_13_method_109_code 93 = .ok (.iload_n 3, 1) := by decide +kernel
theorem d_Model_rows_94 : decode prog_13_method_109_code 94 = .ok (.invokevirtual 555, 3) := by decide +kernel
theorem kw_Model_555 : KW "NineBoardsModel" 555 ⟨"NineBoardsModel", "unacts", "(I)V"⟩ prog_13_method_108_code 2 none 1 := ⟨(mt_8 (List.mem_of_getElem? (i := 49) rfl) rfl), (mt_1 (List.mem_of_getElem? (i := 16) rfl) rfl), (mt_8 (List.mem_of_getElem? (i := 52) rfl) rfl), by decide +kernel⟩
theorem kv_Model_unacts : Cond.instanceMethod ⟨"NineBoardsModel", "unacts", "(I)V"⟩ ∈ TB ∧ Cond.selects "NineBoardsModel" ⟨"NineBoardsModel", "unacts", "(I)V"⟩ ⟨"NineBoardsModel", "unacts", "(I)V"⟩ ∈ TB := ⟨(mt_8 (List.mem_of_getElem? (i := 51) rfl) rfl), (ms_0 (List.mem_map.mpr ⟨(⟨"NineBoardsModel", "unacts", "(I)V"⟩, 79), List.mem_of_getElem? (i := 127) (by decide +kernel), rfl⟩) rfl)⟩
theorem d_Model_rows_97 : decode prog_13_method_109_code 97 = .ok (.goto (-54), 3) := by decide +kernel
theorem d_Model_rows_100 : decode prog_13_method_109_code 100 = .ok (.aload_n 0, 1) := by decide +kernel
theorem d_Model_rows_101 : decode prog_13_method_109_code 101 = .ok (.getfield 185, 3) := by decide +kernel
theorem d_Model_rows_104 : decode prog_13_method_109_code 104 = .ok (.iload_n 3, 1) := by decide +kernel
theorem d_Model_rows_105 : decode prog_13_method_109_code 105 = .ok (.iload 4, 2) := by decide +kernel
theorem d_Model_rows_107 : decode prog_13_method_109_code 107 = .ok (.iastore, 1) := by decide +kernel
theorem d_Model_rows_108 : decode prog_13_method_109_code 108 = .ok (.iload_n 3, 1) := by decide +kernel
theorem d_Model_rows_109 : decode prog_13_method_109_code 109 = .ok (.iload_n 1, 1) := by decide +kernel
theorem d_Model_rows_110 : decode prog_13_method_109_code 110 = .ok (.iconst 1, 1) := by decide +kernel
theorem d_Model_rows_111 : decode prog_13_method_109_code 111 = .ok (.isub, 1) := by decide +kernel
theorem d_Model_rows_112 : decode prog_13_method_109_code 112 = .ok (.if_icmp .ne 9, 3) := by decide +kernel
theorem d_Model_rows_115 : decode prog_13_method_109_code 115 = .ok (.iinc 2 1, 3) := by decide +kernel
theorem d_Model_rows_118 : decode prog_13_method_109_code 118 = .ok (.goto (-75), 3) := by decide +kernel
theorem d_Model_rows_121 : decode prog_13_method_109_code 121 = .ok (.aload_n 0, 1) := by decide +kernel
theorem d_Model_rows_122 : decode prog_13_method_109_code 122 = .ok (.getfield 188, 3) := by decide +kernel
theorem d_Model_rows_125 : decode prog_13_method_109_code 125 = .ok (.iload_n 3, 1) := by decide +kernel
theorem d_Model_rows_126 : decode prog_13_method_109_code 126 = .ok (.aload_n 0, 1) := by decide +kernel
theorem d_Model_rows_127 : decode prog_13_method_109_code 127 = .ok (.getfield 158, 3) := by decide +kernel
theorem d_Model_rows_130 : decode prog_13_method_109_code 130 = .ok (.iconst 2, 1) := by decide +kernel
theorem d_Model_rows_131 : decode prog_13_method_109_code 131 = .ok (.iaload, 1) := by decide +kernel
theorem d_Model_rows_132 : decode prog_13_method_109_code 132 = .ok (.iastore, 1) := by decide +kernel
theorem d_Model_rows_133 : decode prog_13_method_109_code 133 = .ok (.aload_n 0, 1) := by decide +kernel
theorem d_Model_rows_134 : decode prog_13_method_109_code 134 = .ok (.iload 4, 2) := by decide +kernel
theorem d_Model_rows_136 : decode prog_13_method_109_code 136 = .ok (.invokevirtual 485, 3) := by decide +kernel
theorem d_Model_rows_139 : decode prog_13_method_109_code 139 = .ok (.aload_n 0, 1) := by decide +kernel
theorem d_Model_rows_140 : decode prog_13_method_109_code 140 = .ok (.getfield 158, 3) := by decide +kernel
theorem d_Model_rows_143 : decode prog_13_method_109_code 143 = .ok (.iconst 0, 1) := by decide +kernel
theorem d_Model_rows_144 : decode prog_13_method_109_code 144 = .ok (.dup2, 1) := by decide +kernel
theorem d_Model_rows_145 : decode prog_13_method_109_code 145 = .ok (.iaload, 1) := by decide +kernel
theorem d_Model_rows_146 : decode prog_13_method_109_code 146 = .ok (.iconst 1, 1) := by decide +kernel
theorem d_Model_rows_147 : decode prog_13_method_109_code 147 = .ok (.iadd, 1) := by decide +kernel
theorem d_Model_rows_148 : decode prog_13_method_109_code 148 = .ok (.iastore, 1) := by decide +kernel
theorem d_Model_rows_149 : decode prog_13_method_109_code 149 = .ok (.iinc 3 1, 3) := by decide +kernel
theorem d_Model_rows_152 : decode prog_13_method_109_code 152 = .ok (.aload_n 0, 1) := by decide +kernel
theorem d_Model_rows_153 : decode prog_13_method_109_code 153 = .ok (.getfield 185, 3) := by decide +kernel
theorem d_Model_rows_156 : decode prog_13_method_109_code 156 = .ok (.iload_n 3, 1) := by decide +kernel
theorem d_Model_rows_157 : decode prog_13_method_109_code 157 = .ok (.iconst (-1), 1) := by decide +kernel
theorem d_Model_rows_158 : decode prog_13_method_109_code 158 = .ok (.iastore, 1) := by decide +kernel
theorem d_Model_rows_159 : decode prog_13_method_109_code 159 = .ok (.goto (-116), 3) := by decide +kernel
theorem d_Model_rows_0 : decode prog_13_method_109_code 0 = .ok (.iload_n 1, 1) := by decide +kernel
theorem d_Model_rows_1 : decode prog_13_method_109_code 1 = .ok (.i2l, 1) := by decide +kernel
theorem d_Model_rows_2 : decode prog_13_method_109_code 2 = .ok (.lconst 1, 1) := by decide +kernel
theorem d_Model_rows_3 : decode prog_13_method_109_code 3 = .ok (.ldc2_w 553, 3) := by decide +kernel
theorem d_Model_rows_6 : decode prog_13_method_109_code 6 = .ok (.invokestatic 240, 3) := by decide +kernel
theorem d_Model_rows_9 : decode prog_13_method_109_code 9 = .ok (.ifCond .eq 17, 3) := by decide +kernel
theorem d_Model_rows_12 : decode prog_13_method_109_code 12 = .ok (.aload_n 0, 1) := by decide +kernel
theorem d_Model_rows_13 : decode prog_13_method_109_code 13 = .ok (.getfield 158, 3) := by decide +kernel
theorem d_Model_rows_16 : decode prog_13_method_109_code 16 = .ok (.iconst 0, 1) := by decide +kernel
theorem d_Model_rows_17 : decode prog_13_method_109_code 17 = .ok (.iaload, 1) := by decide +kernel
theorem d_Model_rows_18 : decode prog_13_method_109_code 18 = .ok (.iload_n 1, 1) := by decide +kernel
theorem d_Model_rows_19 : decode prog_13_method_109_code 19 = .ok (.iadd, 1) := by decide +kernel
theorem d_Model_rows_20 : decode prog_13_method_109_code 20 = .ok (.sipush 999, 3) := by decide +kernel
theorem d_Model_rows_23 : decode prog_13_method_109_code 23 = .ok (.if_icmp .le 5, 3) := by decide +kernel
theorem d_Model_rows_28 : decode prog_13_method_109_code 28 = .ok (.iconst 0, 1) := by decide +kernel
theorem d_Model_rows_29 : decode prog_13_method_109_code 29 = .ok (.istore_n 2, 1) := by decide +kernel
theorem d_Model_rows_30 : decode prog_13_method_109_code 30 = .ok (.iconst 0, 1) := by decide +kernel
theorem d_Model_rows_31 : decode prog_13_method_109_code 31 = .ok (.istore_n 3, 1) := by decide +kernel
theorem d_Model_rows_32 : decode prog_13_method_109_code 32 = .ok (.aload_n 0, 1) := by decide +kernel
theorem d_Model_rows_33 : decode prog_13_method_109_code 33 = .ok (.invokevirtual 510, 3) := by decide +kernel
theorem d_Model_rows_36 : decode prog_13_method_109_code 36 = .ok (.aload_n 0, 1) := by decide +kernel
theorem d_Model_rows_37 : decode prog_13_method_109_code 37 = .ok (.getfield 185, 3) := by decide +kernel
theorem d_Model_rows_40 : decode prog_13_method_109_code 40 = .ok (.iconst 0, 1) := by decide +kernel
theorem d_Model_rows_41 : decode prog_13_method_109_code 41 = .ok (.iconst (-1), 1) := by decide +kernel
theorem d_Model_rows_42 : decode prog_13_method_109_code 42 = .ok (.iastore, 1) := by decide +kernel
theorem d_Model_rows_162 : decode prog_13_method_109_code 162 = .ok (.aload_n 0, 1) := by decide +kernel
theorem d_Model_rows_163 : decode prog_13_method_109_code 163 = .ok (.invokevirtual 495, 3) := by decide +kernel
theorem d_Model_rows_166 : decode prog_13_method_109_code 166 = .ok (.iload_n 2, 1) := by decide +kernel
theorem d_Model_rows_167 : decode prog_13_method_109_code 167 = .ok (.ireturn, 1) := by decide +kernel
theorem d_Model_rows_26 : decode prog_13_method_109_code 26 = .ok (.iconst (-1), 1) := by decide +kernel
theorem d_Model_rows_27 : decode prog_13_method_109_code 27 = .ok (.ireturn, 1) := by decide +kernel
set_option maxHeartbeats 4000000 in
set_option maxRecDepth 100000 in
theorem lp_M_up {p : Program} {l : Launch} {e : Env} {s : State} {m : MethodId} {args : Array Value} {below : List Frame} {meth : Method} {c : Code} {Q : State → Prop} {D : va_G} {y : Nat → ClassId} {A : Nat → Prop} (C : Cx p s m args meth c D y A prog_13_method_109_code 5 "NineBoardsModel" "rows") (mo : Nat) (ad : Nat → Nat) (vn : Int32) (kx : ∀ f : Nat → Int32, J p l e ({ frames := 2, cells := 0, slots := 0, locals := 42 } : Room) s m args below meth c Q D A 5 [MB mo ad 0 0 0 0 0 0 0 (-1) 0 0 0 0 0 0 0 0 0 0 1 0, (ad 43, .inl (y 0, 8, .inl (fun _ => 0))), (ad 62, .inl (y 0, 63, .inl (dayF (nI 0)))), (ad 74, .inl (y 0, 13, .inl f)), (ad 75, .inl (y 0, 13, .inl (fun _ => 0))), (ad 68, .inl (y 0, 63, .inl (dayF 0)))] [(0, .ref mo), (1, .int vn), (2, .int 1), (3, .int (-1))] 0 0 162 []) : ∀ (n : Nat) (f : Nat → Int32), (n ≤ 12) → (∀ j, j ≤ n → f j = 0) → J p l e ({ frames := 2, cells := 0, slots := 0, locals := 42 } : Room) s m args below meth c Q D A 5 [MB mo ad 0 0 0 0 0 0 0 (-1) 0 0 0 0 0 0 0 0 0 0 1 0, (ad 43, .inl (y 0, 8, .inl (fun _ => 0))), (ad 62, .inl (y 0, 63, .inl (dayF (nI n)))), (ad 74, .inl (y 0, 13, .inl f)), (ad 75, .inl (y 0, 13, .inl (fun _ => 0))), (ad 68, .inl (y 0, 63, .inl (dayF 0)))] [(0, .ref mo), (1, .int vn), (2, .int 1), (3, .int (nI n))] 0 0 43 [] := by
  intro n
  induction n with
  | zero =>
    intro f hn hf
    refine j_iload_n (pc := 43) C d_Model_rows_43 rfl 3 rfl ?_
    refine j_if_ltF (pc := 44) C (tgt := 162) d_Model_rows_44 (by decide) (by decide) ?_
    refine j_aload_n (pc := 47) C d_Model_rows_47 rfl 0 rfl ?_
    refine j_get (pc := 48) C gf_Model_185 0 rfl rfl d_Model_rows_48 ?_
    refine j_iload_n (pc := 51) C d_Model_rows_51 rfl 3 rfl ?_
    refine j_iald (pc := 52) C 3 rfl (v := 0) (vp_in_nI (by omega) (by decide)) (by rw [nI_clamp (by omega)]; exact hf _ (Nat.le_refl _)) d_Model_rows_52 ?_
    refine j_iconst (pc := 53) C (v := 1) d_Model_rows_53 (by decide) ?_
    refine j_iadd (pc := 54) C (v := 1) d_Model_rows_54 (by decide) ?_
    refine j_istore (pc := 55) C (lv' := [(4, .int 1), (0, .ref mo), (1, .int vn), (2, .int 1), (3, .int (nI 0))]) d_Model_rows_55 (by decide) rfl ?_
    refine j_iload (pc := 57) C d_Model_rows_57 0 rfl ?_
    refine j_iconst (pc := 59) C (v := 2) d_Model_rows_59 (by decide) ?_
    refine j_icmp_gtF (pc := 60) C (tgt := 79) d_Model_rows_60 (by decide) (by decide) ?_
    refine j_aload_n (pc := 63) C d_Model_rows_63 rfl 1 rfl ?_
    refine j_iconst (pc := 64) C (v := 0) d_Model_rows_64 (by decide) ?_
    refine j_iload (pc := 65) C d_Model_rows_65 0 rfl ?_
    refine j_callVi (pc := 67) C (c_M_mayDo_n l D y mo ad 0 0 1 0 1 (by decide)) kw_Model_478 kv_Model_mayDo 0 10 rfl rfl ⟨by decide, by decide⟩ ⟨by decide, by decide⟩ (wr := [(ad 62, .inl (y 0, 63, .inl (dayF (nI 0)))), (ad 74, .inl (y 0, 13, .inl f)), (ad 75, .inl (y 0, 13, .inl (fun _ => 0))), (ad 68, .inl (y 0, 63, .inl (dayF 0)))]) [0, 1] [2, 3, 4, 5] rfl rfl (by decide) (by decide) (by decide) (As := [.int 0, .int 1]) (rest := []) rfl (nb rfl) rfl d_Model_rows_67 (fun r1 _ hr1 => ?_)
    subst hr1
    refine j_ws (ws' := [(ad 62, .inl (y 0, 63, .inl (dayF (nI 0)))), (ad 74, .inl (y 0, 13, .inl f)), (ad 75, .inl (y 0, 13, .inl (fun _ => 0))), (ad 68, .inl (y 0, 63, .inl (dayF 0))), MB mo ad 0 0 0 0 0 0 0 (-1) 0 0 0 0 0 0 0 0 0 0 1 0, (ad 43, .inl (y 0, 8, .inl (fun _ => 0)))]) rfl ?_
    refine j_st (st' := [.int 0]) rfl ?_
    refine j_if_neF (pc := 70) C (tgt := 79) d_Model_rows_70 (by decide) (by decide) ?_
    refine j_iinc (pc := 73) C (v := 2) (lv' := [(4, .int 2), (0, .ref mo), (1, .int vn), (2, .int 1), (3, .int (nI 0))]) d_Model_rows_73 0 rfl (by decide) (by decide) rfl ?_
    refine j_goto (pc := 76) C (tgt := 57) d_Model_rows_76 (by decide) ?_
    refine j_iload (pc := 57) C d_Model_rows_57 0 rfl ?_
    refine j_iconst (pc := 59) C (v := 2) d_Model_rows_59 (by decide) ?_
    refine j_icmp_gtF (pc := 60) C (tgt := 79) d_Model_rows_60 (by decide) (by decide) ?_
    refine j_aload_n (pc := 63) C d_Model_rows_63 rfl 1 rfl ?_
    refine j_iconst (pc := 64) C (v := 0) d_Model_rows_64 (by decide) ?_
    refine j_iload (pc := 65) C d_Model_rows_65 0 rfl ?_
    refine j_callVi (pc := 67) C (c_M_mayDo_n l D y mo ad 0 0 1 0 2 (by decide)) kw_Model_478 kv_Model_mayDo 0 10 rfl rfl ⟨by decide, by decide⟩ ⟨by decide, by decide⟩ (wr := [(ad 62, .inl (y 0, 63, .inl (dayF (nI 0)))), (ad 74, .inl (y 0, 13, .inl f)), (ad 75, .inl (y 0, 13, .inl (fun _ => 0))), (ad 68, .inl (y 0, 63, .inl (dayF 0)))]) [4, 5] [0, 1, 2, 3] rfl rfl (by decide) (by decide) (by decide) (As := [.int 0, .int 2]) (rest := []) rfl (nb rfl) rfl d_Model_rows_67 (fun r2 _ hr2 => ?_)
    subst hr2
    refine j_ws (ws' := [(ad 62, .inl (y 0, 63, .inl (dayF (nI 0)))), (ad 74, .inl (y 0, 13, .inl f)), (ad 75, .inl (y 0, 13, .inl (fun _ => 0))), (ad 68, .inl (y 0, 63, .inl (dayF 0))), MB mo ad 0 0 0 0 0 0 0 (-1) 0 0 0 0 0 0 0 0 0 0 1 0, (ad 43, .inl (y 0, 8, .inl (fun _ => 0)))]) rfl ?_
    refine j_st (st' := [.int 0]) rfl ?_
    refine j_if_neF (pc := 70) C (tgt := 79) d_Model_rows_70 (by decide) (by decide) ?_
    refine j_iinc (pc := 73) C (v := 3) (lv' := [(4, .int 3), (0, .ref mo), (1, .int vn), (2, .int 1), (3, .int (nI 0))]) d_Model_rows_73 0 rfl (by decide) (by decide) rfl ?_
    refine j_goto (pc := 76) C (tgt := 57) d_Model_rows_76 (by decide) ?_
    refine j_iload (pc := 57) C d_Model_rows_57 0 rfl ?_
    refine j_iconst (pc := 59) C (v := 2) d_Model_rows_59 (by decide) ?_
    refine j_icmp_gtT (pc := 60) C (tgt := 79) d_Model_rows_60 (by decide) (by decide) ?_
    refine j_iload (pc := 79) C d_Model_rows_79 0 rfl ?_
    refine j_iconst (pc := 81) C (v := 2) d_Model_rows_81 (by decide) ?_
    refine j_icmp_leF (pc := 82) C (tgt := 100) d_Model_rows_82 (by decide) (by decide) ?_
    refine j_iinc (pc := 85) C (v := (-1)) (lv' := [(3, .int (-1)), (4, .int 3), (0, .ref mo), (1, .int vn), (2, .int 1)]) d_Model_rows_85 4 rfl (by decide) (by decide) rfl ?_
    refine j_iload_n (pc := 88) C d_Model_rows_88 rfl 0 rfl ?_
    refine j_if_ltT (pc := 89) C (tgt := 43) d_Model_rows_89 (by decide) (by decide) ?_
    refine j_iload_n (pc := 43) C d_Model_rows_43 rfl 0 rfl ?_
    refine j_if_ltT (pc := 44) C (tgt := 162) d_Model_rows_44 (by decide) (by decide) ?_
    refine j_sub (ws' := [MB mo ad 0 0 0 0 0 0 0 (-1) 0 0 0 0 0 0 0 0 0 0 1 0, (ad 43, .inl (y 0, 8, .inl (fun _ => 0))), (ad 62, .inl (y 0, 63, .inl (dayF (nI 0)))), (ad 74, .inl (y 0, 13, .inl f)), (ad 75, .inl (y 0, 13, .inl (fun _ => 0))), (ad 68, .inl (y 0, 63, .inl (dayF 0)))]) [4, 5, 0, 1, 2, 3] rfl (by decide) ?_
    refine j_locs (lv' := [(0, .ref mo), (1, .int vn), (2, .int 1), (3, .int (-1))]) [2, 3, 4, 0] rfl ?_
    exact kx f
  | succ n ih =>
    intro f hn hf
    refine j_iload_n (pc := 43) C d_Model_rows_43 rfl 3 rfl ?_
    refine j_if_ltF (pc := 44) C (tgt := 162) d_Model_rows_44 (by decide) (nI_pos (by omega)) ?_
    refine j_aload_n (pc := 47) C d_Model_rows_47 rfl 0 rfl ?_
    refine j_get (pc := 48) C gf_Model_185 0 rfl rfl d_Model_rows_48 ?_
    refine j_iload_n (pc := 51) C d_Model_rows_51 rfl 3 rfl ?_
    refine j_iald (pc := 52) C 3 rfl (v := 0) (vp_in_nI (by omega) (by decide)) (by rw [nI_clamp (by omega)]; exact hf _ (Nat.le_refl _)) d_Model_rows_52 ?_
    refine j_iconst (pc := 53) C (v := 1) d_Model_rows_53 (by decide) ?_
    refine j_iadd (pc := 54) C (v := 1) d_Model_rows_54 (by decide) ?_
    refine j_istore (pc := 55) C (lv' := [(4, .int 1), (0, .ref mo), (1, .int vn), (2, .int 1), (3, .int (nI (n + 1)))]) d_Model_rows_55 (by decide) rfl ?_
    refine j_iload (pc := 57) C d_Model_rows_57 0 rfl ?_
    refine j_iconst (pc := 59) C (v := 2) d_Model_rows_59 (by decide) ?_
    refine j_icmp_gtF (pc := 60) C (tgt := 79) d_Model_rows_60 (by decide) (by decide) ?_
    refine j_aload_n (pc := 63) C d_Model_rows_63 rfl 1 rfl ?_
    refine j_iconst (pc := 64) C (v := 0) d_Model_rows_64 (by decide) ?_
    refine j_iload (pc := 65) C d_Model_rows_65 0 rfl ?_
    refine j_callVi (pc := 67) C (c_M_mayDo_n l D y mo ad 0 0 1 0 1 (by decide)) kw_Model_478 kv_Model_mayDo 0 10 rfl rfl ⟨by decide, by decide⟩ ⟨by decide, by decide⟩ (wr := [(ad 62, .inl (y 0, 63, .inl (dayF (nI (n + 1))))), (ad 74, .inl (y 0, 13, .inl f)), (ad 75, .inl (y 0, 13, .inl (fun _ => 0))), (ad 68, .inl (y 0, 63, .inl (dayF 0)))]) [0, 1] [2, 3, 4, 5] rfl rfl (by decide) (by decide) (by decide) (As := [.int 0, .int 1]) (rest := []) rfl (nb rfl) rfl d_Model_rows_67 (fun r1 _ hr1 => ?_)
    subst hr1
    refine j_ws (ws' := [(ad 62, .inl (y 0, 63, .inl (dayF (nI (n + 1))))), (ad 74, .inl (y 0, 13, .inl f)), (ad 75, .inl (y 0, 13, .inl (fun _ => 0))), (ad 68, .inl (y 0, 63, .inl (dayF 0))), MB mo ad 0 0 0 0 0 0 0 (-1) 0 0 0 0 0 0 0 0 0 0 1 0, (ad 43, .inl (y 0, 8, .inl (fun _ => 0)))]) rfl ?_
    refine j_st (st' := [.int 0]) rfl ?_
    refine j_if_neF (pc := 70) C (tgt := 79) d_Model_rows_70 (by decide) (by decide) ?_
    refine j_iinc (pc := 73) C (v := 2) (lv' := [(4, .int 2), (0, .ref mo), (1, .int vn), (2, .int 1), (3, .int (nI (n + 1)))]) d_Model_rows_73 0 rfl (by decide) (by decide) rfl ?_
    refine j_goto (pc := 76) C (tgt := 57) d_Model_rows_76 (by decide) ?_
    refine j_iload (pc := 57) C d_Model_rows_57 0 rfl ?_
    refine j_iconst (pc := 59) C (v := 2) d_Model_rows_59 (by decide) ?_
    refine j_icmp_gtF (pc := 60) C (tgt := 79) d_Model_rows_60 (by decide) (by decide) ?_
    refine j_aload_n (pc := 63) C d_Model_rows_63 rfl 1 rfl ?_
    refine j_iconst (pc := 64) C (v := 0) d_Model_rows_64 (by decide) ?_
    refine j_iload (pc := 65) C d_Model_rows_65 0 rfl ?_
    refine j_callVi (pc := 67) C (c_M_mayDo_n l D y mo ad 0 0 1 0 2 (by decide)) kw_Model_478 kv_Model_mayDo 0 10 rfl rfl ⟨by decide, by decide⟩ ⟨by decide, by decide⟩ (wr := [(ad 62, .inl (y 0, 63, .inl (dayF (nI (n + 1))))), (ad 74, .inl (y 0, 13, .inl f)), (ad 75, .inl (y 0, 13, .inl (fun _ => 0))), (ad 68, .inl (y 0, 63, .inl (dayF 0)))]) [4, 5] [0, 1, 2, 3] rfl rfl (by decide) (by decide) (by decide) (As := [.int 0, .int 2]) (rest := []) rfl (nb rfl) rfl d_Model_rows_67 (fun r2 _ hr2 => ?_)
    subst hr2
    refine j_ws (ws' := [(ad 62, .inl (y 0, 63, .inl (dayF (nI (n + 1))))), (ad 74, .inl (y 0, 13, .inl f)), (ad 75, .inl (y 0, 13, .inl (fun _ => 0))), (ad 68, .inl (y 0, 63, .inl (dayF 0))), MB mo ad 0 0 0 0 0 0 0 (-1) 0 0 0 0 0 0 0 0 0 0 1 0, (ad 43, .inl (y 0, 8, .inl (fun _ => 0)))]) rfl ?_
    refine j_st (st' := [.int 0]) rfl ?_
    refine j_if_neF (pc := 70) C (tgt := 79) d_Model_rows_70 (by decide) (by decide) ?_
    refine j_iinc (pc := 73) C (v := 3) (lv' := [(4, .int 3), (0, .ref mo), (1, .int vn), (2, .int 1), (3, .int (nI (n + 1)))]) d_Model_rows_73 0 rfl (by decide) (by decide) rfl ?_
    refine j_goto (pc := 76) C (tgt := 57) d_Model_rows_76 (by decide) ?_
    refine j_iload (pc := 57) C d_Model_rows_57 0 rfl ?_
    refine j_iconst (pc := 59) C (v := 2) d_Model_rows_59 (by decide) ?_
    refine j_icmp_gtT (pc := 60) C (tgt := 79) d_Model_rows_60 (by decide) (by decide) ?_
    refine j_iload (pc := 79) C d_Model_rows_79 0 rfl ?_
    refine j_iconst (pc := 81) C (v := 2) d_Model_rows_81 (by decide) ?_
    refine j_icmp_leF (pc := 82) C (tgt := 100) d_Model_rows_82 (by decide) (by decide) ?_
    refine j_iinc (pc := 85) C (v := nI n) (lv' := [(3, .int (nI n)), (4, .int 3), (0, .ref mo), (1, .int vn), (2, .int 1)]) d_Model_rows_85 4 rfl (pk_m1 n) (by decide) rfl ?_
    refine j_iload_n (pc := 88) C d_Model_rows_88 rfl 0 rfl ?_
    refine j_if_ltF (pc := 89) C (tgt := 43) d_Model_rows_89 (by decide) (nI_pos (by omega)) ?_
    refine j_aload_n (pc := 92) C d_Model_rows_92 rfl 2 rfl ?_
    refine j_iload_n (pc := 93) C d_Model_rows_93 rfl 0 rfl ?_
    refine j_callVv (pc := 94) C (c_M_unacts l D y mo ad n f (by omega) (hf _ (by omega))) kw_Model_555 kv_Model_unacts 0 10 rfl rfl ⟨by decide, by decide⟩ ⟨by decide, by decide⟩ (wr := [(ad 68, .inl (y 0, 63, .inl (dayF 0))), (ad 43, .inl (y 0, 8, .inl (fun _ => 0)))]) [4, 0, 1, 2] [3, 5] rfl rfl (by decide) (by decide) (by decide) (As := [.int (nI n)]) (rest := []) rfl (nb rfl) rfl d_Model_rows_94 (fun _ _ => ?_)
    refine j_ws (ws' := [(ad 68, .inl (y 0, 63, .inl (dayF 0))), (ad 43, .inl (y 0, 8, .inl (fun _ => 0))), MB mo ad 0 0 0 0 0 0 0 (-1) 0 0 0 0 0 0 0 0 0 0 1 0, (ad 62, .inl (y 0, 63, .inl (dayF (nI n)))), (ad 74, .inl (y 0, 13, .inl f)), (ad 75, .inl (y 0, 13, .inl (fun _ => 0)))]) rfl ?_
    refine j_goto (pc := 97) C (tgt := 43) d_Model_rows_97 (by decide) ?_
    refine j_sub (ws' := [MB mo ad 0 0 0 0 0 0 0 (-1) 0 0 0 0 0 0 0 0 0 0 1 0, (ad 43, .inl (y 0, 8, .inl (fun _ => 0))), (ad 62, .inl (y 0, 63, .inl (dayF (nI n)))), (ad 74, .inl (y 0, 13, .inl f)), (ad 75, .inl (y 0, 13, .inl (fun _ => 0))), (ad 68, .inl (y 0, 63, .inl (dayF 0)))]) [2, 1, 3, 4, 5, 0] rfl (by decide) ?_
    refine j_locs (lv' := [(0, .ref mo), (1, .int vn), (2, .int 1), (3, .int (nI n))]) [2, 3, 4, 0] rfl ?_
    exact ih f (by omega) (fun j hj => hf j (by omega))
set_option maxHeartbeats 4000000 in
set_option maxRecDepth 100000 in
theorem lp_M_down {p : Program} {l : Launch} {e : Env} {s : State} {m : MethodId} {args : Array Value} {below : List Frame} {meth : Method} {c : Code} {Q : State → Prop} {D : va_G} {y : Nat → ClassId} {A : Nat → Prop} (C : Cx p s m args meth c D y A prog_13_method_109_code 5 "NineBoardsModel" "rows") (mo : Nat) (ad : Nat → Nat) (N : Nat) (hN : N ≤ 12) (kx : ∀ f : Nat → Int32, J p l e ({ frames := 2, cells := 0, slots := 0, locals := 42 } : Room) s m args below meth c Q D A 5 [MB mo ad 0 0 0 0 0 0 0 (-1) 0 0 0 0 0 0 0 0 0 0 1 0, (ad 43, .inl (y 0, 8, .inl (fun _ => 0))), (ad 62, .inl (y 0, 63, .inl (dayF (nI 0)))), (ad 74, .inl (y 0, 13, .inl f)), (ad 75, .inl (y 0, 13, .inl (fun _ => 0))), (ad 68, .inl (y 0, 63, .inl (dayF 0)))] [(0, .ref mo), (1, .int (nI N)), (2, .int 1), (3, .int (-1))] 0 0 162 []) : ∀ (n : Nat) (i : Nat) (f : Nat → Int32), (i + n + 1 = N) → (∀ j, j < i → f j = 0) → (f i = -1) → J p l e ({ frames := 2, cells := 0, slots := 0, locals := 42 } : Room) s m args below meth c Q D A 5 [MB mo ad 0 0 0 0 0 0 0 (-1) 0 0 0 0 0 0 0 0 0 0 1 0, (ad 43, .inl (y 0, 8, .inl (fun _ => 0))), (ad 62, .inl (y 0, 63, .inl (dayF (nI i)))), (ad 74, .inl (y 0, 13, .inl f)), (ad 75, .inl (y 0, 13, .inl (fun _ => 0))), (ad 68, .inl (y 0, 63, .inl (dayF 0)))] [(0, .ref mo), (1, .int (nI N)), (2, .int 0), (3, .int (nI i))] 0 0 43 [] := by
  intro n
  induction n with
  | zero =>
    intro i f hi hf hm
    obtain rfl : N = i + 1 := by omega
    refine j_iload_n (pc := 43) C d_Model_rows_43 rfl 3 rfl ?_
    refine j_if_ltF (pc := 44) C (tgt := 162) d_Model_rows_44 (by decide) (nI_pos (by omega)) ?_
    refine j_aload_n (pc := 47) C d_Model_rows_47 rfl 0 rfl ?_
    refine j_get (pc := 48) C gf_Model_185 0 rfl rfl d_Model_rows_48 ?_
    refine j_iload_n (pc := 51) C d_Model_rows_51 rfl 3 rfl ?_
    refine j_iald (pc := 52) C 3 rfl (v := (-1)) (vp_in_nI (by omega) (by decide)) (by rw [nI_clamp (by omega)]; exact hm) d_Model_rows_52 ?_
    refine j_iconst (pc := 53) C (v := 1) d_Model_rows_53 (by decide) ?_
    refine j_iadd (pc := 54) C (v := 0) d_Model_rows_54 (by decide) ?_
    refine j_istore (pc := 55) C (lv' := [(4, .int 0), (0, .ref mo), (1, .int (nI (i + 1))), (2, .int 0), (3, .int (nI i))]) d_Model_rows_55 (by decide) rfl ?_
    refine j_iload (pc := 57) C d_Model_rows_57 0 rfl ?_
    refine j_iconst (pc := 59) C (v := 2) d_Model_rows_59 (by decide) ?_
    refine j_icmp_gtF (pc := 60) C (tgt := 79) d_Model_rows_60 (by decide) (by decide) ?_
    refine j_aload_n (pc := 63) C d_Model_rows_63 rfl 1 rfl ?_
    refine j_iconst (pc := 64) C (v := 0) d_Model_rows_64 (by decide) ?_
    refine j_iload (pc := 65) C d_Model_rows_65 0 rfl ?_
    refine j_callVi (pc := 67) C (c_M_mayDo_0 l D y mo ad 0 0 1 0) kw_Model_478 kv_Model_mayDo 0 10 rfl rfl ⟨by decide, by decide⟩ ⟨by decide, by decide⟩ (wr := [(ad 43, .inl (y 0, 8, .inl (fun _ => 0))), (ad 62, .inl (y 0, 63, .inl (dayF (nI i)))), (ad 74, .inl (y 0, 13, .inl f)), (ad 75, .inl (y 0, 13, .inl (fun _ => 0))), (ad 68, .inl (y 0, 63, .inl (dayF 0)))]) [0] [1, 2, 3, 4, 5] rfl rfl (by decide) (by decide) (by decide) (As := [.int 0, .int 0]) (rest := []) rfl (nb rfl) rfl d_Model_rows_67 (fun r1 _ hr1 => ?_)
    subst hr1
    refine j_ws (ws' := [(ad 43, .inl (y 0, 8, .inl (fun _ => 0))), (ad 62, .inl (y 0, 63, .inl (dayF (nI i)))), (ad 74, .inl (y 0, 13, .inl f)), (ad 75, .inl (y 0, 13, .inl (fun _ => 0))), (ad 68, .inl (y 0, 63, .inl (dayF 0))), MB mo ad 0 0 0 0 0 0 0 (-1) 0 0 0 0 0 0 0 0 0 0 1 0]) rfl ?_
    refine j_st (st' := [.int 1]) rfl ?_
    refine j_if_neT (pc := 70) C (tgt := 79) d_Model_rows_70 (by decide) (by decide) ?_
    refine j_iload (pc := 79) C d_Model_rows_79 0 rfl ?_
    refine j_iconst (pc := 81) C (v := 2) d_Model_rows_81 (by decide) ?_
    refine j_icmp_leT (pc := 82) C (tgt := 100) d_Model_rows_82 (by decide) (by decide) ?_
    refine j_aload_n (pc := 100) C d_Model_rows_100 rfl 1 rfl ?_
    refine j_get (pc := 101) C gf_Model_185 5 rfl rfl d_Model_rows_101 ?_
    refine j_iload_n (pc := 104) C d_Model_rows_104 rfl 4 rfl ?_
    refine j_iload (pc := 105) C d_Model_rows_105 0 rfl ?_
    refine j_iast (pc := 107) C 2 rfl (ws' := [(ad 43, .inl (y 0, 8, .inl (fun _ => 0))), (ad 62, .inl (y 0, 63, .inl (dayF (nI i)))), (ad 74, .inl (y 0, 13, .inl (upd f (nI i).toNatClampNeg 0))), (ad 75, .inl (y 0, 13, .inl (fun _ => 0))), (ad 68, .inl (y 0, 63, .inl (dayF 0))), MB mo ad 0 0 0 0 0 0 0 (-1) 0 0 0 0 0 0 0 0 0 0 1 0]) (vp_in_nI (by omega) (by decide)) rfl d_Model_rows_107 ?_
    refine j_iload_n (pc := 108) C d_Model_rows_108 rfl 4 rfl ?_
    refine j_iload_n (pc := 109) C d_Model_rows_109 rfl 2 rfl ?_
    refine j_iconst (pc := 110) C (v := 1) d_Model_rows_110 (by decide) ?_
    refine j_isub (pc := 111) C (v := nI i) d_Model_rows_111 (nI_pred i) ?_
    refine j_icmp_neF (pc := 112) C (tgt := 121) d_Model_rows_112 (by decide) rfl ?_
    refine j_iinc (pc := 115) C (v := 1) (lv' := [(2, .int 1), (4, .int 0), (0, .ref mo), (1, .int (nI (i + 1))), (3, .int (nI i))]) d_Model_rows_115 3 rfl (by decide) (by decide) rfl ?_
    refine j_goto (pc := 118) C (tgt := 43) d_Model_rows_118 (by decide) ?_
    refine j_sub (ws' := [MB mo ad 0 0 0 0 0 0 0 (-1) 0 0 0 0 0 0 0 0 0 0 1 0, (ad 43, .inl (y 0, 8, .inl (fun _ => 0))), (ad 62, .inl (y 0, 63, .inl (dayF (nI i)))), (ad 74, .inl (y 0, 13, .inl (upd f (nI i).toNatClampNeg 0))), (ad 75, .inl (y 0, 13, .inl (fun _ => 0))), (ad 68, .inl (y 0, 63, .inl (dayF 0)))]) [5, 0, 1, 2, 3, 4] rfl (by decide) ?_
    refine j_locs (lv' := [(0, .ref mo), (1, .int (nI (i + 1))), (2, .int 1), (3, .int (nI i))]) [2, 3, 0, 4] rfl ?_
    exact lp_M_up C mo ad _ kx i _ (by omega) (up_le (by omega) hf)
  | succ n ih =>
    intro i f hi hf hm
    refine j_iload_n (pc := 43) C d_Model_rows_43 rfl 3 rfl ?_
    refine j_if_ltF (pc := 44) C (tgt := 162) d_Model_rows_44 (by decide) (nI_pos (by omega)) ?_
    refine j_aload_n (pc := 47) C d_Model_rows_47 rfl 0 rfl ?_
    refine j_get (pc := 48) C gf_Model_185 0 rfl rfl d_Model_rows_48 ?_
    refine j_iload_n (pc := 51) C d_Model_rows_51 rfl 3 rfl ?_
    refine j_iald (pc := 52) C 3 rfl (v := (-1)) (vp_in_nI (by omega) (by decide)) (by rw [nI_clamp (by omega)]; exact hm) d_Model_rows_52 ?_
    refine j_iconst (pc := 53) C (v := 1) d_Model_rows_53 (by decide) ?_
    refine j_iadd (pc := 54) C (v := 0) d_Model_rows_54 (by decide) ?_
    refine j_istore (pc := 55) C (lv' := [(4, .int 0), (0, .ref mo), (1, .int (nI N)), (2, .int 0), (3, .int (nI i))]) d_Model_rows_55 (by decide) rfl ?_
    refine j_iload (pc := 57) C d_Model_rows_57 0 rfl ?_
    refine j_iconst (pc := 59) C (v := 2) d_Model_rows_59 (by decide) ?_
    refine j_icmp_gtF (pc := 60) C (tgt := 79) d_Model_rows_60 (by decide) (by decide) ?_
    refine j_aload_n (pc := 63) C d_Model_rows_63 rfl 1 rfl ?_
    refine j_iconst (pc := 64) C (v := 0) d_Model_rows_64 (by decide) ?_
    refine j_iload (pc := 65) C d_Model_rows_65 0 rfl ?_
    refine j_callVi (pc := 67) C (c_M_mayDo_0 l D y mo ad 0 0 1 0) kw_Model_478 kv_Model_mayDo 0 10 rfl rfl ⟨by decide, by decide⟩ ⟨by decide, by decide⟩ (wr := [(ad 43, .inl (y 0, 8, .inl (fun _ => 0))), (ad 62, .inl (y 0, 63, .inl (dayF (nI i)))), (ad 74, .inl (y 0, 13, .inl f)), (ad 75, .inl (y 0, 13, .inl (fun _ => 0))), (ad 68, .inl (y 0, 63, .inl (dayF 0)))]) [0] [1, 2, 3, 4, 5] rfl rfl (by decide) (by decide) (by decide) (As := [.int 0, .int 0]) (rest := []) rfl (nb rfl) rfl d_Model_rows_67 (fun r1 _ hr1 => ?_)
    subst hr1
    refine j_ws (ws' := [(ad 43, .inl (y 0, 8, .inl (fun _ => 0))), (ad 62, .inl (y 0, 63, .inl (dayF (nI i)))), (ad 74, .inl (y 0, 13, .inl f)), (ad 75, .inl (y 0, 13, .inl (fun _ => 0))), (ad 68, .inl (y 0, 63, .inl (dayF 0))), MB mo ad 0 0 0 0 0 0 0 (-1) 0 0 0 0 0 0 0 0 0 0 1 0]) rfl ?_
    refine j_st (st' := [.int 1]) rfl ?_
    refine j_if_neT (pc := 70) C (tgt := 79) d_Model_rows_70 (by decide) (by decide) ?_
    refine j_iload (pc := 79) C d_Model_rows_79 0 rfl ?_
    refine j_iconst (pc := 81) C (v := 2) d_Model_rows_81 (by decide) ?_
    refine j_icmp_leT (pc := 82) C (tgt := 100) d_Model_rows_82 (by decide) (by decide) ?_
    refine j_aload_n (pc := 100) C d_Model_rows_100 rfl 1 rfl ?_
    refine j_get (pc := 101) C gf_Model_185 5 rfl rfl d_Model_rows_101 ?_
    refine j_iload_n (pc := 104) C d_Model_rows_104 rfl 4 rfl ?_
    refine j_iload (pc := 105) C d_Model_rows_105 0 rfl ?_
    refine j_iast (pc := 107) C 2 rfl (ws' := [(ad 43, .inl (y 0, 8, .inl (fun _ => 0))), (ad 62, .inl (y 0, 63, .inl (dayF (nI i)))), (ad 74, .inl (y 0, 13, .inl (upd f (nI i).toNatClampNeg 0))), (ad 75, .inl (y 0, 13, .inl (fun _ => 0))), (ad 68, .inl (y 0, 63, .inl (dayF 0))), MB mo ad 0 0 0 0 0 0 0 (-1) 0 0 0 0 0 0 0 0 0 0 1 0]) (vp_in_nI (by omega) (by decide)) rfl d_Model_rows_107 ?_
    refine j_iload_n (pc := 108) C d_Model_rows_108 rfl 4 rfl ?_
    refine j_iload_n (pc := 109) C d_Model_rows_109 rfl 2 rfl ?_
    refine j_iconst (pc := 110) C (v := 1) d_Model_rows_110 (by decide) ?_
    refine j_isub (pc := 111) C (v := nI (N - 1)) d_Model_rows_111 (show nI N - nI 1 = nI (N - 1) from pk_sub (by omega)) ?_
    refine j_icmp_neT (pc := 112) C (tgt := 121) d_Model_rows_112 (by decide) (fun e => absurd ((nI_eq (by omega) (by omega)).mp e) (by omega)) ?_
    refine j_aload_n (pc := 121) C d_Model_rows_121 rfl 1 rfl ?_
    refine j_get (pc := 122) C gf_Model_188 5 rfl rfl d_Model_rows_122 ?_
    refine j_iload_n (pc := 125) C d_Model_rows_125 rfl 4 rfl ?_
    refine j_aload_n (pc := 126) C d_Model_rows_126 rfl 1 rfl ?_
    refine j_get (pc := 127) C gf_Model_158 5 rfl rfl d_Model_rows_127 ?_
    refine j_iconst (pc := 130) C (v := 2) d_Model_rows_130 (by decide) ?_
    refine j_iald (pc := 131) C 1 rfl (v := 0) (vin (by decide)) rfl d_Model_rows_131 ?_
    refine j_iast (pc := 132) C 3 rfl (ws' := [(ad 43, .inl (y 0, 8, .inl (fun _ => 0))), (ad 62, .inl (y 0, 63, .inl (dayF (nI i)))), (ad 74, .inl (y 0, 13, .inl (upd f (nI i).toNatClampNeg 0))), (ad 75, .inl (y 0, 13, .inl (fun _ => 0))), (ad 68, .inl (y 0, 63, .inl (dayF 0))), MB mo ad 0 0 0 0 0 0 0 (-1) 0 0 0 0 0 0 0 0 0 0 1 0]) (vp_in_nI (by omega) (by decide)) (by rw [up_z0]; rfl) d_Model_rows_132 ?_
    refine j_aload_n (pc := 133) C d_Model_rows_133 rfl 1 rfl ?_
    refine j_iload (pc := 134) C d_Model_rows_134 0 rfl ?_
    refine j_callVv (pc := 136) C (c_M_acts l D y mo ad 0 0 1) kw_Model_485 kv_Model_acts 0 10 rfl rfl ⟨by decide, by decide⟩ ⟨by decide, by decide⟩ (wr := [(ad 43, .inl (y 0, 8, .inl (fun _ => 0))), (ad 62, .inl (y 0, 63, .inl (dayF (nI i)))), (ad 74, .inl (y 0, 13, .inl (upd f (nI i).toNatClampNeg 0))), (ad 75, .inl (y 0, 13, .inl (fun _ => 0))), (ad 68, .inl (y 0, 63, .inl (dayF 0)))]) [5] [0, 1, 2, 3, 4] rfl rfl (by decide) (by decide) (by decide) (As := [.int 0]) (rest := []) rfl (nb rfl) rfl d_Model_rows_136 (fun _ _ => ?_)
    refine j_ws (ws' := [(ad 43, .inl (y 0, 8, .inl (fun _ => 0))), (ad 62, .inl (y 0, 63, .inl (dayF (nI i)))), (ad 74, .inl (y 0, 13, .inl (upd f (nI i).toNatClampNeg 0))), (ad 75, .inl (y 0, 13, .inl (fun _ => 0))), (ad 68, .inl (y 0, 63, .inl (dayF 0))), MB mo ad 0 0 0 0 0 0 0 (-1) 0 0 0 0 0 0 0 0 0 0 1 0]) rfl ?_
    refine j_aload_n (pc := 139) C d_Model_rows_139 rfl 1 rfl ?_
    refine j_get (pc := 140) C gf_Model_158 5 rfl rfl d_Model_rows_140 ?_
    refine j_iconst (pc := 143) C (v := 0) d_Model_rows_143 (by decide) ?_
    refine j_dup2 (pc := 144) C d_Model_rows_144 rfl rfl ?_
    refine j_iald (pc := 145) C 1 rfl (v := nI i) (vin (by decide)) rfl d_Model_rows_145 ?_
    refine j_iconst (pc := 146) C (v := 1) d_Model_rows_146 (by decide) ?_
    refine j_iadd (pc := 147) C (v := nI (i + 1)) d_Model_rows_147 (nI_1 _) ?_
    refine j_iast (pc := 148) C 1 rfl (ws' := [(ad 43, .inl (y 0, 8, .inl (fun _ => 0))), (ad 62, .inl (y 0, 63, .inl (dayF (nI (i + 1))))), (ad 74, .inl (y 0, 13, .inl (upd f (nI i).toNatClampNeg 0))), (ad 75, .inl (y 0, 13, .inl (fun _ => 0))), (ad 68, .inl (y 0, 63, .inl (dayF 0))), MB mo ad 0 0 0 0 0 0 0 (-1) 0 0 0 0 0 0 0 0 0 0 1 0]) (vin (by decide)) (by rw [up_day0]; rfl) d_Model_rows_148 ?_
    refine j_iinc (pc := 149) C (v := nI (i + 1)) (lv' := [(3, .int (nI (i + 1))), (4, .int 0), (0, .ref mo), (1, .int (nI N)), (2, .int 0)]) d_Model_rows_149 4 rfl (nI_1 _) (by decide) rfl ?_
    refine j_aload_n (pc := 152) C d_Model_rows_152 rfl 2 rfl ?_
    refine j_get (pc := 153) C gf_Model_185 5 rfl rfl d_Model_rows_153 ?_
    refine j_iload_n (pc := 156) C d_Model_rows_156 rfl 0 rfl ?_
    refine j_iconst (pc := 157) C (v := (-1)) d_Model_rows_157 (by decide) ?_
    refine j_iast (pc := 158) C 2 rfl (ws' := [(ad 43, .inl (y 0, 8, .inl (fun _ => 0))), (ad 62, .inl (y 0, 63, .inl (dayF (nI (i + 1))))), (ad 74, .inl (y 0, 13, .inl (upd (upd f (nI i).toNatClampNeg 0) (nI (i + 1)).toNatClampNeg (-1)))), (ad 75, .inl (y 0, 13, .inl (fun _ => 0))), (ad 68, .inl (y 0, 63, .inl (dayF 0))), MB mo ad 0 0 0 0 0 0 0 (-1) 0 0 0 0 0 0 0 0 0 0 1 0]) (vp_in_nI (by omega) (by decide)) rfl d_Model_rows_158 ?_
    refine j_goto (pc := 159) C (tgt := 43) d_Model_rows_159 (by decide) ?_
    refine j_sub (ws' := [MB mo ad 0 0 0 0 0 0 0 (-1) 0 0 0 0 0 0 0 0 0 0 1 0, (ad 43, .inl (y 0, 8, .inl (fun _ => 0))), (ad 62, .inl (y 0, 63, .inl (dayF (nI (i + 1))))), (ad 74, .inl (y 0, 13, .inl (upd (upd f (nI i).toNatClampNeg 0) (nI (i + 1)).toNatClampNeg (-1)))), (ad 75, .inl (y 0, 13, .inl (fun _ => 0))), (ad 68, .inl (y 0, 63, .inl (dayF 0)))]) [5, 0, 1, 2, 3, 4] rfl (by decide) ?_
    refine j_locs (lv' := [(0, .ref mo), (1, .int (nI N)), (2, .int 0), (3, .int (nI (i + 1)))]) [2, 3, 4, 0] rfl ?_
    exact ih (i + 1) _ (by omega) (dn_lt (by omega) hf) (dn_at (by omega))
set_option maxHeartbeats 4000000 in
set_option maxRecDepth 100000 in
theorem c_M_rows (l : Launch) (D : va_G) (y : Nat → ClassId) (mo : Nat) (ad : Nat → Nat) (n : Int32) (f : Nat → Int32)  : CT l D y ⟨"NineBoardsModel", "rows", "(I)I"⟩ prog_13_method_109_code 5 (some .int) ({ frames := 2, cells := 0, slots := 0, locals := 42 } : Room) [.ref mo, .int n] [MB mo ad 0 0 0 0 0 0 0 (-1) 0 0 0 0 0 0 0 0 0 0 1 0, (ad 43, .inl (y 0, 8, .inl (fun _ => 0))), (ad 62, .inl (y 0, 63, .inl (dayF 0))), (ad 74, .inl (y 0, 13, .inl (fun _ => 0))), (ad 75, .inl (y 0, 13, .inl (fun _ => 0))), (ad 68, .inl (y 0, 63, .inl f))] (QI D [MB mo ad 0 0 0 0 0 0 0 (-1) 0 0 0 0 0 0 0 0 0 0 1 0, (ad 43, .inl (y 0, 8, .inl (fun _ => 0))), (ad 62, .inl (y 0, 63, .inl (dayF 0))), (ad 74, .inl (y 0, 13, .inl (fun _ => 0))), (ad 75, .inl (y 0, 13, .inl (fun _ => 0))), (ad 68, .inl (y 0, 63, .inl f))] (fun (r : Int32) (_ : Unit) => r = if 1 ≤ n.toInt ∧ n.toInt ≤ 12 then 1 else -1) (fun _ => [])) := by
  refine CT.of (by decide) (nb rfl) ?_
  intro p e s m args below meth c C hr
  refine j_lv (lv' := [(0, .ref mo), (1, .int n)]) rfl ?_
  refine j_iload_n (pc := 0) C d_Model_rows_0 rfl 1 rfl ?_
  refine j_i2l (pc := 1) C (v := n.toInt64) d_Model_rows_1 rfl ?_
  refine j_lconst (pc := 2) C (v := 1) d_Model_rows_2 (by decide) ?_
  refine j_ldc2 (pc := 3) C (v := 12) (mt_8 (List.mem_of_getElem? (i := 48) rfl) rfl) d_Model_rows_3 ?_
  refine j_callSi (pc := 6) C (c_isIn_x l D y n 1 12 1 12 (by decide) (by decide)) kw_Model_240 ks_Model_isIn ⟨by decide, by decide⟩ ⟨by decide, by decide⟩ (wr := [MB mo ad 0 0 0 0 0 0 0 (-1) 0 0 0 0 0 0 0 0 0 0 1 0, (ad 43, .inl (y 0, 8, .inl (fun _ => 0))), (ad 62, .inl (y 0, 63, .inl (dayF 0))), (ad 74, .inl (y 0, 13, .inl (fun _ => 0))), (ad 75, .inl (y 0, 13, .inl (fun _ => 0))), (ad 68, .inl (y 0, 63, .inl f))]) [] [0, 1, 2, 3, 4, 5] rfl rfl (by decide) (by decide) (by decide) (As := [.long n.toInt64, .long 1, .long 12]) (rest := []) rfl (nb rfl) rfl d_Model_rows_6 (fun r1 _ hr1 => ?_)
  refine j_ws (ws' := [MB mo ad 0 0 0 0 0 0 0 (-1) 0 0 0 0 0 0 0 0 0 0 1 0, (ad 43, .inl (y 0, 8, .inl (fun _ => 0))), (ad 62, .inl (y 0, 63, .inl (dayF 0))), (ad 74, .inl (y 0, 13, .inl (fun _ => 0))), (ad 75, .inl (y 0, 13, .inl (fun _ => 0))), (ad 68, .inl (y 0, 63, .inl f))]) rfl ?_
  by_cases g2 : 1 ≤ n.toInt ∧ n.toInt ≤ 12
  · rw [if_pos g2] at hr1
    subst hr1
    refine j_if_eqF (pc := 9) C (tgt := 26) d_Model_rows_9 (by decide) (by decide) ?_
    obtain ⟨N, hN, rfl⟩ := nI_ofT (x := n) (n := 12) (by omega) (by omega) (by decide)
    have h1 : 1 ≤ N := by rw [nI_toInt (by omega)] at g2; omega
    refine j_aload_n (pc := 12) C d_Model_rows_12 rfl 0 rfl ?_
    refine j_get (pc := 13) C gf_Model_158 0 rfl rfl d_Model_rows_13 ?_
    refine j_iconst (pc := 16) C (v := 0) d_Model_rows_16 (by decide) ?_
    refine j_iald (pc := 17) C 2 rfl (v := 0) (vin (by decide)) rfl d_Model_rows_17 ?_
    refine j_iload_n (pc := 18) C d_Model_rows_18 rfl 1 rfl ?_
    refine j_iadd (pc := 19) C (v := nI N) d_Model_rows_19 (Int32.zero_add _) ?_
    refine j_sipush (pc := 20) C (v := 999) d_Model_rows_20 (by decide) ?_
    refine j_icmp_leT (pc := 23) C (tgt := 28) d_Model_rows_23 (by decide) (show nI N ≤ nI 999 from nI_le (by omega) (by decide)) ?_
    refine j_iconst (pc := 28) C (v := 0) d_Model_rows_28 (by decide) ?_
    refine j_istore_n (pc := 29) C (lv' := [(2, .int 0), (0, .ref mo), (1, .int (nI N))]) d_Model_rows_29 rfl (by decide) rfl ?_
    refine j_iconst (pc := 30) C (v := 0) d_Model_rows_30 (by decide) ?_
    refine j_istore_n (pc := 31) C (lv' := [(3, .int 0), (2, .int 0), (0, .ref mo), (1, .int (nI N))]) d_Model_rows_31 rfl (by decide) rfl ?_
    refine j_aload_n (pc := 32) C d_Model_rows_32 rfl 2 rfl ?_
    refine j_callVv (pc := 33) C (c_M_putsAside l D y mo ad 0 0 1 f (dayF 0)) kw_Model_510 kv_Model_putsAside 0 10 rfl rfl ⟨by decide, by decide⟩ ⟨by decide, by decide⟩ (wr := [(ad 43, .inl (y 0, 8, .inl (fun _ => 0))), (ad 74, .inl (y 0, 13, .inl (fun _ => 0))), (ad 75, .inl (y 0, 13, .inl (fun _ => 0)))]) [0, 5, 2] [1, 3, 4] rfl rfl (by decide) (by decide) (by decide) (As := []) (rest := []) rfl (nb rfl) rfl d_Model_rows_33 (fun _ _ => ?_)
    refine j_ws (ws' := [(ad 43, .inl (y 0, 8, .inl (fun _ => 0))), (ad 74, .inl (y 0, 13, .inl (fun _ => 0))), (ad 75, .inl (y 0, 13, .inl (fun _ => 0))), MB mo ad 0 0 0 0 0 0 0 (-1) 0 0 0 0 0 0 0 0 0 0 1 0, (ad 68, .inl (y 0, 63, .inl (dayF 0))), (ad 62, .inl (y 0, 63, .inl (dayF 0)))]) rfl ?_
    refine j_aload_n (pc := 36) C d_Model_rows_36 rfl 2 rfl ?_
    refine j_get (pc := 37) C gf_Model_185 3 rfl rfl d_Model_rows_37 ?_
    refine j_iconst (pc := 40) C (v := 0) d_Model_rows_40 (by decide) ?_
    refine j_iconst (pc := 41) C (v := (-1)) d_Model_rows_41 (by decide) ?_
    refine j_iast (pc := 42) C 1 rfl (ws' := [(ad 43, .inl (y 0, 8, .inl (fun _ => 0))), (ad 74, .inl (y 0, 13, .inl (upd (fun _ => 0) 0 (-1)))), (ad 75, .inl (y 0, 13, .inl (fun _ => 0))), MB mo ad 0 0 0 0 0 0 0 (-1) 0 0 0 0 0 0 0 0 0 0 1 0, (ad 68, .inl (y 0, 63, .inl (dayF 0))), (ad 62, .inl (y 0, 63, .inl (dayF 0)))]) (vin (by decide)) rfl d_Model_rows_42 ?_
    refine j_sub (ws' := [MB mo ad 0 0 0 0 0 0 0 (-1) 0 0 0 0 0 0 0 0 0 0 1 0, (ad 43, .inl (y 0, 8, .inl (fun _ => 0))), (ad 62, .inl (y 0, 63, .inl (dayF 0))), (ad 74, .inl (y 0, 13, .inl (upd (fun _ => 0) 0 (-1)))), (ad 75, .inl (y 0, 13, .inl (fun _ => 0))), (ad 68, .inl (y 0, 63, .inl (dayF 0)))]) [3, 0, 5, 1, 2, 4] rfl (by decide) ?_
    refine j_locs (lv' := [(0, .ref mo), (1, .int (nI N)), (2, .int 0), (3, .int 0)]) [2, 3, 1, 0] rfl ?_
    refine j_ws (ws' := [MB mo ad 0 0 0 0 0 0 0 (-1) 0 0 0 0 0 0 0 0 0 0 1 0, (ad 43, .inl (y 0, 8, .inl (fun _ => 0))), (ad 62, .inl (y 0, 63, .inl (dayF (nI 0)))), (ad 74, .inl (y 0, 13, .inl (upd (fun _ => 0) 0 (-1)))), (ad 75, .inl (y 0, 13, .inl (fun _ => 0))), (ad 68, .inl (y 0, 63, .inl (dayF 0)))]) rfl ?_
    refine j_lv (lv' := [(0, .ref mo), (1, .int (nI N)), (2, .int 0), (3, .int (nI 0))]) rfl ?_
    refine lp_M_down C mo ad N hN (fun f => ?_) (N - 1) 0 _ (by omega) (fun j hj => absurd hj (Nat.not_lt_zero j)) rfl
    refine j_aload_n (pc := 162) C d_Model_rows_162 rfl 0 rfl ?_
    refine j_callVv (pc := 163) C (c_M_takesBack l D y mo ad 0 0 1 (dayF (nI 0)) (dayF 0)) kw_Model_495 kv_Model_takesBack 0 10 rfl rfl ⟨by decide, by decide⟩ ⟨by decide, by decide⟩ (wr := [(ad 43, .inl (y 0, 8, .inl (fun _ => 0))), (ad 74, .inl (y 0, 13, .inl f)), (ad 75, .inl (y 0, 13, .inl (fun _ => 0)))]) [0, 2, 5] [1, 3, 4] rfl rfl (by decide) (by decide) (by decide) (As := []) (rest := []) rfl (nb rfl) rfl d_Model_rows_163 (fun _ _ => ?_)
    refine j_ws (ws' := [(ad 43, .inl (y 0, 8, .inl (fun _ => 0))), (ad 74, .inl (y 0, 13, .inl f)), (ad 75, .inl (y 0, 13, .inl (fun _ => 0))), MB mo ad 0 0 0 0 0 0 0 (-1) 0 0 0 0 0 0 0 0 0 0 1 0, (ad 62, .inl (y 0, 63, .inl (dayF 0))), (ad 68, .inl (y 0, 63, .inl (dayF 0)))]) rfl ?_
    refine j_iload_n (pc := 166) C d_Model_rows_166 rfl 2 rfl ?_
    exact j_iret (pc := 167) C hr rfl () (by (first | rw [if_pos (by omega)] | rw [if_neg (by omega)])) [] rfl (by decide) (by decide) (by decide) d_Model_rows_167
  · rw [if_neg g2] at hr1
    subst hr1
    refine j_if_eqT (pc := 9) C (tgt := 26) d_Model_rows_9 (by decide) (by decide) ?_
    refine j_iconst (pc := 26) C (v := (-1)) d_Model_rows_26 (by decide) ?_
    exact j_iret (pc := 27) C hr rfl () (by (first | rw [if_pos (by omega)] | rw [if_neg (by omega)])) [] rfl (by decide) (by decide) (by decide) d_Model_rows_27
theorem d_Model_placeOf_0 : decode prog_13_method_85_code 0 = .ok (.aload_n 0, 1) := by decide +kernel
theorem d_Model_placeOf_1 : decode prog_13_method_85_code 1 = .ok (.getfield 179, 3) := by decide +kernel
theorem gf_Model_179 : GF "NineBoardsModel" 179 10 72 := ⟨_, _, _, rfl, ci_Model, by decide, (mt_5 (List.mem_of_getElem? (i := 160) rfl) rfl)⟩
theorem d_Model_placeOf_4 : decode prog_13_method_85_code 4 = .ok (.iload_n 1, 1) := by decide +kernel
theorem d_Model_placeOf_5 : decode prog_13_method_85_code 5 = .ok (.iaload, 1) := by decide +kernel
theorem d_Model_placeOf_6 : decode prog_13_method_85_code 6 = .ok (.iconst 1, 1) := by decide +kernel
theorem d_Model_placeOf_7 : decode prog_13_method_85_code 7 = .ok (.isub, 1) := by decide +kernel
theorem d_Model_placeOf_8 : decode prog_13_method_85_code 8 = .ok (.iconst 2, 1) := by decide +kernel
theorem d_Model_placeOf_9 : decode prog_13_method_85_code 9 = .ok (.idiv, 1) := by decide +kernel
theorem d_Model_placeOf_10 : decode prog_13_method_85_code 10 = .ok (.iload_n 2, 1) := by decide +kernel
theorem d_Model_placeOf_11 : decode prog_13_method_85_code 11 = .ok (.iadd, 1) := by decide +kernel
theorem d_Model_placeOf_12 : decode prog_13_method_85_code 12 = .ok (.ireturn, 1) := by decide +kernel
set_option maxHeartbeats 4000000 in
set_option maxRecDepth 100000 in
theorem c_M_placeOf (l : Launch) (D : va_G) (y : Nat → ClassId) (mo : Nat) (ad : Nat → Nat) (a : Nat) (b : Nat) (ha : a ≤ 6) : CT l D y ⟨"NineBoardsModel", "placeOf", "(II)I"⟩ prog_13_method_85_code 3 (some .int) ({ frames := 0, cells := 0, slots := 0, locals := 0 } : Room) [.ref mo, .int (nI a), .int (nI b)] [MB mo ad 0 0 0 0 0 0 0 (-1) 0 0 0 0 0 0 0 0 0 0 1 0, (ad 72, .inl (y 0, 7, .inl powF))] (QI D [MB mo ad 0 0 0 0 0 0 0 (-1) 0 0 0 0 0 0 0 0 0 0 1 0, (ad 72, .inl (y 0, 7, .inl powF))] (fun (r : Int32) (_ : Unit) => r = nI ((3 ^ a - 1) / 2 + b)) (fun _ => [MB mo ad 0 0 0 0 0 0 0 (-1) 0 0 0 0 0 0 0 0 0 0 1 0, (ad 72, .inl (y 0, 7, .inl powF))])) := by
  refine CT.of (by decide) (nb rfl) ?_
  intro p e s m args below meth c C hr
  refine j_lv (lv' := [(0, .ref mo), (1, .int (nI a)), (2, .int (nI b))]) rfl ?_
  refine j_aload_n (pc := 0) C d_Model_placeOf_0 rfl 0 rfl ?_
  refine j_get (pc := 1) C gf_Model_179 0 rfl rfl d_Model_placeOf_1 ?_
  refine j_iload_n (pc := 4) C d_Model_placeOf_4 rfl 1 rfl ?_
  refine j_iald (pc := 5) C 1 rfl (v := nI (3 ^ a)) (vp_in_nI (by omega) (by decide)) (by rw [nI_clamp (by omega)]; rfl) d_Model_placeOf_5 ?_
  refine j_iconst (pc := 6) C (v := 1) d_Model_placeOf_6 (by decide) ?_
  refine j_isub (pc := 7) C (v := nI (3 ^ a - 1)) d_Model_placeOf_7 (show nI (3 ^ a) - nI 1 = nI (3 ^ a - 1) from pk_sub (p3_pos a)) ?_
  refine j_iconst (pc := 8) C (v := 2) d_Model_placeOf_8 (by decide) ?_
  refine j_idiv (pc := 9) C (v := nI ((3 ^ a - 1) / 2)) d_Model_placeOf_9 (by decide) (show nI (3 ^ a - 1) / nI 2 = nI ((3 ^ a - 1) / 2) from pk_div (by have := p3_le ha; omega) (by decide) (by decide)) ?_
  refine j_iload_n (pc := 10) C d_Model_placeOf_10 rfl 2 rfl ?_
  refine j_iadd (pc := 11) C (v := nI ((3 ^ a - 1) / 2 + b)) d_Model_placeOf_11 (nI_add _ _) ?_
  exact j_iret (pc := 12) C hr rfl () rfl [0, 1] rfl (by decide) (by decide) (by decide) d_Model_placeOf_12
theorem d_Model_isBegun_8 : decode prog_13_method_86_code 8 = .ok (.iload_n 3, 1) := by decide +kernel
theorem d_Model_isBegun_9 : decode prog_13_method_86_code 9 = .ok (.ifCond .lt 44, 3) := by decide +kernel
theorem d_Model_isBegun_12 : decode prog_13_method_86_code 12 = .ok (.iload_n 2, 1) := by decide +kernel
theorem d_Model_isBegun_13 : decode prog_13_method_86_code 13 = .ok (.aload_n 0, 1) := by decide +kernel
theorem d_Model_isBegun_14 : decode prog_13_method_86_code 14 = .ok (.getfield 179, 3) := by decide +kernel
theorem d_Model_isBegun_17 : decode prog_13_method_86_code 17 = .ok (.iload_n 3, 1) := by decide +kernel
theorem d_Model_isBegun_18 : decode prog_13_method_86_code 18 = .ok (.iaload, 1) := by decide +kernel
theorem d_Model_isBegun_19 : decode prog_13_method_86_code 19 = .ok (.idiv, 1) := by decide +kernel
theorem d_Model_isBegun_20 : decode prog_13_method_86_code 20 = .ok (.iconst 3, 1) := by decide +kernel
theorem d_Model_isBegun_21 : decode prog_13_method_86_code 21 = .ok (.irem, 1) := by decide +kernel
theorem d_Model_isBegun_22 : decode prog_13_method_86_code 22 = .ok (.istore 4, 2) := by decide +kernel
theorem d_Model_isBegun_24 : decode prog_13_method_86_code 24 = .ok (.aload_n 0, 1) := by decide +kernel
theorem d_Model_isBegun_25 : decode prog_13_method_86_code 25 = .ok (.iconst 0, 1) := by decide +kernel
theorem d_Model_isBegun_26 : decode prog_13_method_86_code 26 = .ok (.iload 4, 2) := by decide +kernel
theorem d_Model_isBegun_28 : decode prog_13_method_86_code 28 = .ok (.invokevirtual 478, 3) := by decide +kernel
theorem d_Model_isBegun_31 : decode prog_13_method_86_code 31 = .ok (.ifCond .ne 5, 3) := by decide +kernel
theorem d_Model_isBegun_36 : decode prog_13_method_86_code 36 = .ok (.aload_n 0, 1) := by decide +kernel
theorem d_Model_isBegun_37 : decode prog_13_method_86_code 37 = .ok (.iload 4, 2) := by decide +kernel
theorem d_Model_isBegun_39 : decode prog_13_method_86_code 39 = .ok (.invokevirtual 485, 3) := by decide +kernel
theorem d_Model_isBegun_42 : decode prog_13_method_86_code 42 = .ok (.aload_n 0, 1) := by decide +kernel
theorem d_Model_isBegun_43 : decode prog_13_method_86_code 43 = .ok (.iconst 0, 1) := by decide +kernel
theorem d_Model_isBegun_44 : decode prog_13_method_86_code 44 = .ok (.invokevirtual 488, 3) := by decide +kernel
theorem d_Model_isBegun_47 : decode prog_13_method_86_code 47 = .ok (.iinc 3 (-1), 3) := by decide +kernel
theorem d_Model_isBegun_50 : decode prog_13_method_86_code 50 = .ok (.goto (-42), 3) := by decide +kernel
theorem d_Model_isBegun_0 : decode prog_13_method_86_code 0 = .ok (.aload_n 0, 1) := by decide +kernel
theorem d_Model_isBegun_1 : decode prog_13_method_86_code 1 = .ok (.invokevirtual 495, 3) := by decide +kernel
theorem d_Model_isBegun_4 : decode prog_13_method_86_code 4 = .ok (.iload_n 1, 1) := by decide +kernel
theorem d_Model_isBegun_5 : decode prog_13_method_86_code 5 = .ok (.iconst 1, 1) := by decide +kernel
theorem d_Model_isBegun_6 : decode prog_13_method_86_code 6 = .ok (.isub, 1) := by decide +kernel
theorem d_Model_isBegun_7 : decode prog_13_method_86_code 7 = .ok (.istore_n 3, 1) := by decide +kernel
theorem d_Model_isBegun_53 : decode prog_13_method_86_code 53 = .ok (.iconst 1, 1) := by decide +kernel
theorem d_Model_isBegun_54 : decode prog_13_method_86_code 54 = .ok (.ireturn, 1) := by decide +kernel
theorem d_Model_isBegun_34 : decode prog_13_method_86_code 34 = .ok (.iconst 0, 1) := by decide +kernel
theorem d_Model_isBegun_35 : decode prog_13_method_86_code 35 = .ok (.ireturn, 1) := by decide +kernel
set_option maxHeartbeats 4000000 in
set_option maxRecDepth 100000 in
theorem lp_M_begun {p : Program} {l : Launch} {e : Env} {s : State} {m : MethodId} {args : Array Value} {below : List Frame} {meth : Method} {c : Code} {Q : State → Prop} {D : va_G} {y : Nat → ClassId} {A : Nat → Prop} (C : Cx p s m args meth c D y A prog_13_method_86_code 5 "NineBoardsModel" "isBegun") (mo : Nat) (ad : Nat → Nat) (va : Int32) (vb : Int32) (kx0 : ∀ d : Int32, J p l e ({ frames := 3, cells := 0, slots := 0, locals := 71 } : Room) s m args below meth c Q D A 5 [MB mo ad 0 0 0 0 0 0 0 (-1) 0 0 0 0 0 0 0 0 0 0 1 0, (ad 43, .inl (y 0, 8, .inl (fun _ => 0))), (ad 62, .inl (y 0, 63, .inl (dayF d))), (ad 45, .inl (y 0, 14, .inl lakeF)), (ad 68, .inl (y 0, 63, .inl (dayF 0))), (ad 72, .inl (y 0, 7, .inl powF))] [(0, .ref mo)] 0 0 34 []) (kx1 : ∀ d : Int32, J p l e ({ frames := 3, cells := 0, slots := 0, locals := 71 } : Room) s m args below meth c Q D A 5 [MB mo ad 0 0 0 0 0 0 0 (-1) 0 0 0 0 0 0 0 0 0 0 1 0, (ad 43, .inl (y 0, 8, .inl (fun _ => 0))), (ad 62, .inl (y 0, 63, .inl (dayF d))), (ad 45, .inl (y 0, 14, .inl lakeF)), (ad 68, .inl (y 0, 63, .inl (dayF 0))), (ad 72, .inl (y 0, 7, .inl powF))] [(0, .ref mo)] 0 0 53 []) : ∀ (n : Nat) (d : Int32), (n ≤ 5) → J p l e ({ frames := 3, cells := 0, slots := 0, locals := 71 } : Room) s m args below meth c Q D A 5 [MB mo ad 0 0 0 0 0 0 0 (-1) 0 0 0 0 0 0 0 0 0 0 1 0, (ad 43, .inl (y 0, 8, .inl (fun _ => 0))), (ad 62, .inl (y 0, 63, .inl (dayF d))), (ad 45, .inl (y 0, 14, .inl lakeF)), (ad 68, .inl (y 0, 63, .inl (dayF 0))), (ad 72, .inl (y 0, 7, .inl powF))] [(0, .ref mo), (1, .int va), (2, .int vb), (3, .int (nI n))] 0 0 8 [] := by
  intro n
  induction n with
  | zero =>
    intro d hk
    refine j_iload_n (pc := 8) C d_Model_isBegun_8 rfl 3 rfl ?_
    refine j_if_ltF (pc := 9) C (tgt := 53) d_Model_isBegun_9 (by decide) (by decide) ?_
    refine j_iload_n (pc := 12) C d_Model_isBegun_12 rfl 2 rfl ?_
    refine j_aload_n (pc := 13) C d_Model_isBegun_13 rfl 0 rfl ?_
    refine j_get (pc := 14) C gf_Model_179 0 rfl rfl d_Model_isBegun_14 ?_
    refine j_iload_n (pc := 17) C d_Model_isBegun_17 rfl 3 rfl ?_
    refine j_iald (pc := 18) C 5 rfl (v := nI (3 ^ 0)) (vp_in_nI (by omega) (by decide)) (by rw [nI_clamp (by omega)]; rfl) d_Model_isBegun_18 ?_
    refine j_idiv (pc := 19) C (v := vb / (nI (3 ^ 0))) d_Model_isBegun_19 (nI_ne0 (p3_pos _) (by have := p3_le (a := 0) (by omega); omega)) rfl ?_
    refine j_iconst (pc := 20) C (v := 3) d_Model_isBegun_20 (by decide) ?_
    refine j_irem (pc := 21) C (v := (vb / (nI (3 ^ 0))) - (vb / (nI (3 ^ 0))) / 3 * 3) d_Model_isBegun_21 (by decide) rfl ?_
    refine j_istore (pc := 22) C (lv' := [(4, .int ((vb / (nI (3 ^ 0))) - (vb / (nI (3 ^ 0))) / 3 * 3)), (0, .ref mo), (1, .int va), (2, .int vb), (3, .int (nI 0))]) d_Model_isBegun_22 (by decide) rfl ?_
    generalize (vb / (nI (3 ^ 0))) - (vb / (nI (3 ^ 0))) / 3 * 3 = z
    by_cases hz : z = 0
    · subst hz
      refine j_aload_n (pc := 24) C d_Model_isBegun_24 rfl 1 rfl ?_
      refine j_iconst (pc := 25) C (v := 0) d_Model_isBegun_25 (by decide) ?_
      refine j_iload (pc := 26) C d_Model_isBegun_26 0 rfl ?_
      refine j_callVi (pc := 28) C (c_M_mayDo_0 l D y mo ad 0 0 1 0) kw_Model_478 kv_Model_mayDo 0 10 rfl rfl ⟨by decide, by decide⟩ ⟨by decide, by decide⟩ (wr := [(ad 43, .inl (y 0, 8, .inl (fun _ => 0))), (ad 62, .inl (y 0, 63, .inl (dayF d))), (ad 45, .inl (y 0, 14, .inl lakeF)), (ad 68, .inl (y 0, 63, .inl (dayF 0))), (ad 72, .inl (y 0, 7, .inl powF))]) [0] [1, 2, 3, 4, 5] rfl rfl (by decide) (by decide) (by decide) (As := [.int 0, .int 0]) (rest := []) rfl (nb rfl) rfl d_Model_isBegun_28 (fun r1 _ hr1 => ?_)
      subst hr1
      refine j_ws (ws' := [(ad 43, .inl (y 0, 8, .inl (fun _ => 0))), (ad 62, .inl (y 0, 63, .inl (dayF d))), (ad 45, .inl (y 0, 14, .inl lakeF)), (ad 68, .inl (y 0, 63, .inl (dayF 0))), (ad 72, .inl (y 0, 7, .inl powF)), MB mo ad 0 0 0 0 0 0 0 (-1) 0 0 0 0 0 0 0 0 0 0 1 0]) rfl ?_
      refine j_st (st' := [.int 1]) rfl ?_
      refine j_if_neT (pc := 31) C (tgt := 36) d_Model_isBegun_31 (by decide) (by decide) ?_
      refine j_aload_n (pc := 36) C d_Model_isBegun_36 rfl 1 rfl ?_
      refine j_iload (pc := 37) C d_Model_isBegun_37 0 rfl ?_
      refine j_callVv (pc := 39) C (c_M_acts l D y mo ad 0 0 1) kw_Model_485 kv_Model_acts 0 10 rfl rfl ⟨by decide, by decide⟩ ⟨by decide, by decide⟩ (wr := [(ad 43, .inl (y 0, 8, .inl (fun _ => 0))), (ad 62, .inl (y 0, 63, .inl (dayF d))), (ad 45, .inl (y 0, 14, .inl lakeF)), (ad 68, .inl (y 0, 63, .inl (dayF 0))), (ad 72, .inl (y 0, 7, .inl powF))]) [5] [0, 1, 2, 3, 4] rfl rfl (by decide) (by decide) (by decide) (As := [.int 0]) (rest := []) rfl (nb rfl) rfl d_Model_isBegun_39 (fun _ _ => ?_)
      refine j_ws (ws' := [(ad 43, .inl (y 0, 8, .inl (fun _ => 0))), (ad 62, .inl (y 0, 63, .inl (dayF d))), (ad 45, .inl (y 0, 14, .inl lakeF)), (ad 68, .inl (y 0, 63, .inl (dayF 0))), (ad 72, .inl (y 0, 7, .inl powF)), MB mo ad 0 0 0 0 0 0 0 (-1) 0 0 0 0 0 0 0 0 0 0 1 0]) rfl ?_
      refine j_aload_n (pc := 42) C d_Model_isBegun_42 rfl 1 rfl ?_
      refine j_iconst (pc := 43) C (v := 0) d_Model_isBegun_43 (by decide) ?_
      refine j_callVv (pc := 44) C (c_M_goesBy l D y mo ad 0 0 1 d) kw_Model_488 kv_Model_goesBy 0 10 rfl rfl ⟨by decide, by decide⟩ ⟨by decide, by decide⟩ (wr := [(ad 68, .inl (y 0, 63, .inl (dayF 0))), (ad 72, .inl (y 0, 7, .inl powF))]) [5, 0, 1, 2] [3, 4] rfl rfl (by decide) (by decide) (by decide) (As := [.int 0]) (rest := []) rfl (nb rfl) rfl d_Model_isBegun_44 (fun _ _ => ?_)
      refine j_ws (ws' := [(ad 68, .inl (y 0, 63, .inl (dayF 0))), (ad 72, .inl (y 0, 7, .inl powF)), MB mo ad 0 0 0 0 0 0 0 (-1) 0 0 0 0 0 0 0 0 0 0 1 0, (ad 43, .inl (y 0, 8, .inl (fun _ => 0))), (ad 62, .inl (y 0, 63, .inl (dayF (d + 1)))), (ad 45, .inl (y 0, 14, .inl lakeF))]) rfl ?_
      refine j_iinc (pc := 47) C (v := (-1)) (lv' := [(3, .int (-1)), (4, .int 0), (0, .ref mo), (1, .int va), (2, .int vb)]) d_Model_isBegun_47 4 rfl (by decide) (by decide) rfl ?_
      refine j_goto (pc := 50) C (tgt := 8) d_Model_isBegun_50 (by decide) ?_
      refine j_iload_n (pc := 8) C d_Model_isBegun_8 rfl 0 rfl ?_
      refine j_if_ltT (pc := 9) C (tgt := 53) d_Model_isBegun_9 (by decide) (by decide) ?_
      refine j_sub (ws' := [MB mo ad 0 0 0 0 0 0 0 (-1) 0 0 0 0 0 0 0 0 0 0 1 0, (ad 43, .inl (y 0, 8, .inl (fun _ => 0))), (ad 62, .inl (y 0, 63, .inl (dayF (d + 1)))), (ad 45, .inl (y 0, 14, .inl lakeF)), (ad 68, .inl (y 0, 63, .inl (dayF 0))), (ad 72, .inl (y 0, 7, .inl powF))]) [2, 3, 4, 5, 0, 1] rfl (by decide) ?_
      refine j_locs (lv' := [(0, .ref mo)]) [2] rfl ?_
      exact kx1 _
    · refine j_aload_n (pc := 24) C d_Model_isBegun_24 rfl 1 rfl ?_
      refine j_iconst (pc := 25) C (v := 0) d_Model_isBegun_25 (by decide) ?_
      refine j_iload (pc := 26) C d_Model_isBegun_26 0 rfl ?_
      refine j_callVi (pc := 28) C (c_M_mayDo_n l D y mo ad 0 0 1 0 z hz) kw_Model_478 kv_Model_mayDo 0 10 rfl rfl ⟨by decide, by decide⟩ ⟨by decide, by decide⟩ (wr := [(ad 62, .inl (y 0, 63, .inl (dayF d))), (ad 45, .inl (y 0, 14, .inl lakeF)), (ad 68, .inl (y 0, 63, .inl (dayF 0))), (ad 72, .inl (y 0, 7, .inl powF))]) [0, 1] [2, 3, 4, 5] rfl rfl (by decide) (by decide) (by decide) (As := [.int 0, .int z]) (rest := []) rfl (nb rfl) rfl d_Model_isBegun_28 (fun r2 _ hr2 => ?_)
      subst hr2
      refine j_ws (ws' := [(ad 62, .inl (y 0, 63, .inl (dayF d))), (ad 45, .inl (y 0, 14, .inl lakeF)), (ad 68, .inl (y 0, 63, .inl (dayF 0))), (ad 72, .inl (y 0, 7, .inl powF)), MB mo ad 0 0 0 0 0 0 0 (-1) 0 0 0 0 0 0 0 0 0 0 1 0, (ad 43, .inl (y 0, 8, .inl (fun _ => 0)))]) rfl ?_
      refine j_st (st' := [.int 0]) rfl ?_
      refine j_if_neF (pc := 31) C (tgt := 36) d_Model_isBegun_31 (by decide) (by decide) ?_
      refine j_sub (ws' := [MB mo ad 0 0 0 0 0 0 0 (-1) 0 0 0 0 0 0 0 0 0 0 1 0, (ad 43, .inl (y 0, 8, .inl (fun _ => 0))), (ad 62, .inl (y 0, 63, .inl (dayF d))), (ad 45, .inl (y 0, 14, .inl lakeF)), (ad 68, .inl (y 0, 63, .inl (dayF 0))), (ad 72, .inl (y 0, 7, .inl powF))]) [4, 5, 0, 1, 2, 3] rfl (by decide) ?_
      refine j_locs (lv' := [(0, .ref mo)]) [1] rfl ?_
      exact kx0 _
  | succ n ih =>
    intro d hk
    refine j_iload_n (pc := 8) C d_Model_isBegun_8 rfl 3 rfl ?_
    refine j_if_ltF (pc := 9) C (tgt := 53) d_Model_isBegun_9 (by decide) (nI_pos (by omega)) ?_
    refine j_iload_n (pc := 12) C d_Model_isBegun_12 rfl 2 rfl ?_
    refine j_aload_n (pc := 13) C d_Model_isBegun_13 rfl 0 rfl ?_
    refine j_get (pc := 14) C gf_Model_179 0 rfl rfl d_Model_isBegun_14 ?_
    refine j_iload_n (pc := 17) C d_Model_isBegun_17 rfl 3 rfl ?_
    refine j_iald (pc := 18) C 5 rfl (v := nI (3 ^ (n + 1))) (vp_in_nI (by omega) (by decide)) (by rw [nI_clamp (by omega)]; rfl) d_Model_isBegun_18 ?_
    refine j_idiv (pc := 19) C (v := vb / (nI (3 ^ (n + 1)))) d_Model_isBegun_19 (nI_ne0 (p3_pos _) (by have := p3_le (a := (n + 1)) (by omega); omega)) rfl ?_
    refine j_iconst (pc := 20) C (v := 3) d_Model_isBegun_20 (by decide) ?_
    refine j_irem (pc := 21) C (v := (vb / (nI (3 ^ (n + 1)))) - (vb / (nI (3 ^ (n + 1)))) / 3 * 3) d_Model_isBegun_21 (by decide) rfl ?_
    refine j_istore (pc := 22) C (lv' := [(4, .int ((vb / (nI (3 ^ (n + 1)))) - (vb / (nI (3 ^ (n + 1)))) / 3 * 3)), (0, .ref mo), (1, .int va), (2, .int vb), (3, .int (nI (n + 1)))]) d_Model_isBegun_22 (by decide) rfl ?_
    generalize (vb / (nI (3 ^ (n + 1)))) - (vb / (nI (3 ^ (n + 1)))) / 3 * 3 = z
    by_cases hz : z = 0
    · subst hz
      refine j_aload_n (pc := 24) C d_Model_isBegun_24 rfl 1 rfl ?_
      refine j_iconst (pc := 25) C (v := 0) d_Model_isBegun_25 (by decide) ?_
      refine j_iload (pc := 26) C d_Model_isBegun_26 0 rfl ?_
      refine j_callVi (pc := 28) C (c_M_mayDo_0 l D y mo ad 0 0 1 0) kw_Model_478 kv_Model_mayDo 0 10 rfl rfl ⟨by decide, by decide⟩ ⟨by decide, by decide⟩ (wr := [(ad 43, .inl (y 0, 8, .inl (fun _ => 0))), (ad 62, .inl (y 0, 63, .inl (dayF d))), (ad 45, .inl (y 0, 14, .inl lakeF)), (ad 68, .inl (y 0, 63, .inl (dayF 0))), (ad 72, .inl (y 0, 7, .inl powF))]) [0] [1, 2, 3, 4, 5] rfl rfl (by decide) (by decide) (by decide) (As := [.int 0, .int 0]) (rest := []) rfl (nb rfl) rfl d_Model_isBegun_28 (fun r1 _ hr1 => ?_)
      subst hr1
      refine j_ws (ws' := [(ad 43, .inl (y 0, 8, .inl (fun _ => 0))), (ad 62, .inl (y 0, 63, .inl (dayF d))), (ad 45, .inl (y 0, 14, .inl lakeF)), (ad 68, .inl (y 0, 63, .inl (dayF 0))), (ad 72, .inl (y 0, 7, .inl powF)), MB mo ad 0 0 0 0 0 0 0 (-1) 0 0 0 0 0 0 0 0 0 0 1 0]) rfl ?_
      refine j_st (st' := [.int 1]) rfl ?_
      refine j_if_neT (pc := 31) C (tgt := 36) d_Model_isBegun_31 (by decide) (by decide) ?_
      refine j_aload_n (pc := 36) C d_Model_isBegun_36 rfl 1 rfl ?_
      refine j_iload (pc := 37) C d_Model_isBegun_37 0 rfl ?_
      refine j_callVv (pc := 39) C (c_M_acts l D y mo ad 0 0 1) kw_Model_485 kv_Model_acts 0 10 rfl rfl ⟨by decide, by decide⟩ ⟨by decide, by decide⟩ (wr := [(ad 43, .inl (y 0, 8, .inl (fun _ => 0))), (ad 62, .inl (y 0, 63, .inl (dayF d))), (ad 45, .inl (y 0, 14, .inl lakeF)), (ad 68, .inl (y 0, 63, .inl (dayF 0))), (ad 72, .inl (y 0, 7, .inl powF))]) [5] [0, 1, 2, 3, 4] rfl rfl (by decide) (by decide) (by decide) (As := [.int 0]) (rest := []) rfl (nb rfl) rfl d_Model_isBegun_39 (fun _ _ => ?_)
      refine j_ws (ws' := [(ad 43, .inl (y 0, 8, .inl (fun _ => 0))), (ad 62, .inl (y 0, 63, .inl (dayF d))), (ad 45, .inl (y 0, 14, .inl lakeF)), (ad 68, .inl (y 0, 63, .inl (dayF 0))), (ad 72, .inl (y 0, 7, .inl powF)), MB mo ad 0 0 0 0 0 0 0 (-1) 0 0 0 0 0 0 0 0 0 0 1 0]) rfl ?_
      refine j_aload_n (pc := 42) C d_Model_isBegun_42 rfl 1 rfl ?_
      refine j_iconst (pc := 43) C (v := 0) d_Model_isBegun_43 (by decide) ?_
      refine j_callVv (pc := 44) C (c_M_goesBy l D y mo ad 0 0 1 d) kw_Model_488 kv_Model_goesBy 0 10 rfl rfl ⟨by decide, by decide⟩ ⟨by decide, by decide⟩ (wr := [(ad 68, .inl (y 0, 63, .inl (dayF 0))), (ad 72, .inl (y 0, 7, .inl powF))]) [5, 0, 1, 2] [3, 4] rfl rfl (by decide) (by decide) (by decide) (As := [.int 0]) (rest := []) rfl (nb rfl) rfl d_Model_isBegun_44 (fun _ _ => ?_)
      refine j_ws (ws' := [(ad 68, .inl (y 0, 63, .inl (dayF 0))), (ad 72, .inl (y 0, 7, .inl powF)), MB mo ad 0 0 0 0 0 0 0 (-1) 0 0 0 0 0 0 0 0 0 0 1 0, (ad 43, .inl (y 0, 8, .inl (fun _ => 0))), (ad 62, .inl (y 0, 63, .inl (dayF (d + 1)))), (ad 45, .inl (y 0, 14, .inl lakeF))]) rfl ?_
      refine j_iinc (pc := 47) C (v := nI n) (lv' := [(3, .int (nI n)), (4, .int 0), (0, .ref mo), (1, .int va), (2, .int vb)]) d_Model_isBegun_47 4 rfl (pk_m1 n) (by decide) rfl ?_
      refine j_goto (pc := 50) C (tgt := 8) d_Model_isBegun_50 (by decide) ?_
      refine j_sub (ws' := [MB mo ad 0 0 0 0 0 0 0 (-1) 0 0 0 0 0 0 0 0 0 0 1 0, (ad 43, .inl (y 0, 8, .inl (fun _ => 0))), (ad 62, .inl (y 0, 63, .inl (dayF (d + 1)))), (ad 45, .inl (y 0, 14, .inl lakeF)), (ad 68, .inl (y 0, 63, .inl (dayF 0))), (ad 72, .inl (y 0, 7, .inl powF))]) [2, 3, 4, 5, 0, 1] rfl (by decide) ?_
      refine j_locs (lv' := [(0, .ref mo), (1, .int va), (2, .int vb), (3, .int (nI n))]) [2, 3, 4, 0] rfl ?_
      exact ih _ (by omega)
    · refine j_aload_n (pc := 24) C d_Model_isBegun_24 rfl 1 rfl ?_
      refine j_iconst (pc := 25) C (v := 0) d_Model_isBegun_25 (by decide) ?_
      refine j_iload (pc := 26) C d_Model_isBegun_26 0 rfl ?_
      refine j_callVi (pc := 28) C (c_M_mayDo_n l D y mo ad 0 0 1 0 z hz) kw_Model_478 kv_Model_mayDo 0 10 rfl rfl ⟨by decide, by decide⟩ ⟨by decide, by decide⟩ (wr := [(ad 62, .inl (y 0, 63, .inl (dayF d))), (ad 45, .inl (y 0, 14, .inl lakeF)), (ad 68, .inl (y 0, 63, .inl (dayF 0))), (ad 72, .inl (y 0, 7, .inl powF))]) [0, 1] [2, 3, 4, 5] rfl rfl (by decide) (by decide) (by decide) (As := [.int 0, .int z]) (rest := []) rfl (nb rfl) rfl d_Model_isBegun_28 (fun r2 _ hr2 => ?_)
      subst hr2
      refine j_ws (ws' := [(ad 62, .inl (y 0, 63, .inl (dayF d))), (ad 45, .inl (y 0, 14, .inl lakeF)), (ad 68, .inl (y 0, 63, .inl (dayF 0))), (ad 72, .inl (y 0, 7, .inl powF)), MB mo ad 0 0 0 0 0 0 0 (-1) 0 0 0 0 0 0 0 0 0 0 1 0, (ad 43, .inl (y 0, 8, .inl (fun _ => 0)))]) rfl ?_
      refine j_st (st' := [.int 0]) rfl ?_
      refine j_if_neF (pc := 31) C (tgt := 36) d_Model_isBegun_31 (by decide) (by decide) ?_
      refine j_sub (ws' := [MB mo ad 0 0 0 0 0 0 0 (-1) 0 0 0 0 0 0 0 0 0 0 1 0, (ad 43, .inl (y 0, 8, .inl (fun _ => 0))), (ad 62, .inl (y 0, 63, .inl (dayF d))), (ad 45, .inl (y 0, 14, .inl lakeF)), (ad 68, .inl (y 0, 63, .inl (dayF 0))), (ad 72, .inl (y 0, 7, .inl powF))]) [4, 5, 0, 1, 2, 3] rfl (by decide) ?_
      refine j_locs (lv' := [(0, .ref mo)]) [1] rfl ?_
      exact kx0 _
set_option maxHeartbeats 4000000 in
set_option maxRecDepth 100000 in
theorem c_M_isBegun (l : Launch) (D : va_G) (y : Nat → ClassId) (mo : Nat) (ad : Nat → Nat) (a : Nat) (b : Nat) (d : Int32) (ha : a ≤ 6) : CT l D y ⟨"NineBoardsModel", "isBegun", "(II)Z"⟩ prog_13_method_86_code 5 (some .boolean) ({ frames := 3, cells := 0, slots := 0, locals := 71 } : Room) [.ref mo, .int (nI a), .int (nI b)] [MB mo ad 0 0 0 0 0 0 0 (-1) 0 0 0 0 0 0 0 0 0 0 1 0, (ad 43, .inl (y 0, 8, .inl (fun _ => 0))), (ad 62, .inl (y 0, 63, .inl (dayF d))), (ad 45, .inl (y 0, 14, .inl lakeF)), (ad 68, .inl (y 0, 63, .inl (dayF 0))), (ad 72, .inl (y 0, 7, .inl powF))] (QI D [MB mo ad 0 0 0 0 0 0 0 (-1) 0 0 0 0 0 0 0 0 0 0 1 0, (ad 43, .inl (y 0, 8, .inl (fun _ => 0))), (ad 62, .inl (y 0, 63, .inl (dayF d))), (ad 45, .inl (y 0, 14, .inl lakeF)), (ad 68, .inl (y 0, 63, .inl (dayF 0))), (ad 72, .inl (y 0, 7, .inl powF))] (fun (r : Int32) (u : Int32) => r = 0 ∨ r = 1) (fun u => [MB mo ad 0 0 0 0 0 0 0 (-1) 0 0 0 0 0 0 0 0 0 0 1 0, (ad 43, .inl (y 0, 8, .inl (fun _ => 0))), (ad 62, .inl (y 0, 63, .inl (dayF u))), (ad 45, .inl (y 0, 14, .inl lakeF)), (ad 68, .inl (y 0, 63, .inl (dayF 0))), (ad 72, .inl (y 0, 7, .inl powF))])) := by
  refine CT.of (by decide) (nb rfl) ?_
  intro p e s m args below meth c C hr
  refine j_lv (lv' := [(0, .ref mo), (1, .int (nI a)), (2, .int (nI b))]) rfl ?_
  refine j_aload_n (pc := 0) C d_Model_isBegun_0 rfl 0 rfl ?_
  refine j_callVv (pc := 1) C (c_M_takesBack l D y mo ad 0 0 1 (dayF d) (dayF 0)) kw_Model_495 kv_Model_takesBack 0 10 rfl rfl ⟨by decide, by decide⟩ ⟨by decide, by decide⟩ (wr := [(ad 43, .inl (y 0, 8, .inl (fun _ => 0))), (ad 45, .inl (y 0, 14, .inl lakeF)), (ad 72, .inl (y 0, 7, .inl powF))]) [0, 2, 4] [1, 3, 5] rfl rfl (by decide) (by decide) (by decide) (As := []) (rest := []) rfl (nb rfl) rfl d_Model_isBegun_1 (fun _ _ => ?_)
  refine j_ws (ws' := [(ad 43, .inl (y 0, 8, .inl (fun _ => 0))), (ad 45, .inl (y 0, 14, .inl lakeF)), (ad 72, .inl (y 0, 7, .inl powF)), MB mo ad 0 0 0 0 0 0 0 (-1) 0 0 0 0 0 0 0 0 0 0 1 0, (ad 62, .inl (y 0, 63, .inl (dayF 0))), (ad 68, .inl (y 0, 63, .inl (dayF 0)))]) rfl ?_
  by_cases h0 : a = 0
  · subst h0
    refine j_iload_n (pc := 4) C d_Model_isBegun_4 rfl 1 rfl ?_
    refine j_iconst (pc := 5) C (v := 1) d_Model_isBegun_5 (by decide) ?_
    refine j_isub (pc := 6) C (v := (-1)) d_Model_isBegun_6 (by decide) ?_
    refine j_istore_n (pc := 7) C (lv' := [(3, .int (-1)), (0, .ref mo), (1, .int (nI 0)), (2, .int (nI b))]) d_Model_isBegun_7 rfl (by decide) rfl ?_
    refine j_iload_n (pc := 8) C d_Model_isBegun_8 rfl 0 rfl ?_
    refine j_if_ltT (pc := 9) C (tgt := 53) d_Model_isBegun_9 (by decide) (by decide) ?_
    refine j_iconst (pc := 53) C (v := 1) d_Model_isBegun_53 (by decide) ?_
    exact j_iret (pc := 54) C hr (by decide) 0 (by decide) [3, 0, 4, 1, 5, 2] rfl (by decide) (by decide) (by decide) d_Model_isBegun_54
  · obtain ⟨q, rfl⟩ : ∃ q, a = q + 1 := ⟨a - 1, by omega⟩
    refine j_iload_n (pc := 4) C d_Model_isBegun_4 rfl 1 rfl ?_
    refine j_iconst (pc := 5) C (v := 1) d_Model_isBegun_5 (by decide) ?_
    refine j_isub (pc := 6) C (v := nI q) d_Model_isBegun_6 (nI_pred q) ?_
    refine j_istore_n (pc := 7) C (lv' := [(3, .int (nI q)), (0, .ref mo), (1, .int (nI (q + 1))), (2, .int (nI b))]) d_Model_isBegun_7 rfl (by decide) rfl ?_
    refine j_sub (ws' := [MB mo ad 0 0 0 0 0 0 0 (-1) 0 0 0 0 0 0 0 0 0 0 1 0, (ad 43, .inl (y 0, 8, .inl (fun _ => 0))), (ad 62, .inl (y 0, 63, .inl (dayF 0))), (ad 45, .inl (y 0, 14, .inl lakeF)), (ad 68, .inl (y 0, 63, .inl (dayF 0))), (ad 72, .inl (y 0, 7, .inl powF))]) [3, 0, 4, 1, 5, 2] rfl (by decide) ?_
    refine j_locs (lv' := [(0, .ref mo), (1, .int (nI (q + 1))), (2, .int (nI b)), (3, .int (nI q))]) [1, 2, 3, 0] rfl ?_
    refine lp_M_begun C mo ad (nI (q + 1)) (nI b) (fun d => ?_) (fun d => ?_) q 0 (by omega)
    · refine j_iconst (pc := 34) C (v := 0) d_Model_isBegun_34 (by decide) ?_
      exact j_iret (pc := 35) C hr (by decide) d (by decide) [0, 1, 2, 3, 4, 5] rfl (by decide) (by decide) (by decide) d_Model_isBegun_35
    · refine j_iconst (pc := 53) C (v := 1) d_Model_isBegun_53 (by decide) ?_
      exact j_iret (pc := 54) C hr (by decide) d (by decide) [0, 1, 2, 3, 4, 5] rfl (by decide) (by decide) (by decide) d_Model_isBegun_54
theorem d_Model_isGot_0 : decode prog_13_method_87_code 0 = .ok (.aload_n 0, 1) := by decide +kernel
theorem d_Model_isGot_1 : decode prog_13_method_87_code 1 = .ok (.iload_n 1, 1) := by decide +kernel
theorem d_Model_isGot_2 : decode prog_13_method_87_code 2 = .ok (.iload_n 2, 1) := by decide +kernel
theorem d_Model_isGot_3 : decode prog_13_method_87_code 3 = .ok (.invokevirtual 498, 3) := by decide +kernel
theorem kw_Model_498 : KW "NineBoardsModel" 498 ⟨"NineBoardsModel", "isBegun", "(II)Z"⟩ prog_13_method_86_code 5 (some .boolean) 2 := ⟨(mt_7 (List.mem_of_getElem? (i := 206) rfl) rfl), (mt_1 (List.mem_of_getElem? (i := 16) rfl) rfl), (mt_7 (List.mem_of_getElem? (i := 209) rfl) rfl), by decide +kernel⟩
theorem kv_Model_isBegun : Cond.instanceMethod ⟨"NineBoardsModel", "isBegun", "(II)Z"⟩ ∈ TB ∧ Cond.selects "NineBoardsModel" ⟨"NineBoardsModel", "isBegun", "(II)Z"⟩ ⟨"NineBoardsModel", "isBegun", "(II)Z"⟩ ∈ TB := ⟨(mt_7 (List.mem_of_getElem? (i := 208) rfl) rfl), (ms_0 (List.mem_map.mpr ⟨(⟨"NineBoardsModel", "isBegun", "(II)Z"⟩, 79), List.mem_of_getElem? (i := 115) (by decide +kernel), rfl⟩) rfl)⟩
theorem d_Model_isGot_6 : decode prog_13_method_87_code 6 = .ok (.ifCond .eq 12, 3) := by decide +kernel
theorem d_Model_isGot_18 : decode prog_13_method_87_code 18 = .ok (.iconst 0, 1) := by decide +kernel
theorem d_Model_isGot_19 : decode prog_13_method_87_code 19 = .ok (.ireturn, 1) := by decide +kernel
theorem d_Model_isGot_9 : decode prog_13_method_87_code 9 = .ok (.aload_n 0, 1) := by decide +kernel
theorem d_Model_isGot_10 : decode prog_13_method_87_code 10 = .ok (.iconst 0, 1) := by decide +kernel
theorem d_Model_isGot_11 : decode prog_13_method_87_code 11 = .ok (.iload_n 3, 1) := by decide +kernel
theorem d_Model_isGot_12 : decode prog_13_method_87_code 12 = .ok (.invokevirtual 478, 3) := by decide +kernel
theorem d_Model_isGot_15 : decode prog_13_method_87_code 15 = .ok (.ifCond .ne 5, 3) := by decide +kernel
theorem d_Model_isGot_20 : decode prog_13_method_87_code 20 = .ok (.aload_n 0, 1) := by decide +kernel
theorem d_Model_isGot_21 : decode prog_13_method_87_code 21 = .ok (.iload_n 3, 1) := by decide +kernel
theorem d_Model_isGot_22 : decode prog_13_method_87_code 22 = .ok (.invokevirtual 485, 3) := by decide +kernel
theorem d_Model_isGot_25 : decode prog_13_method_87_code 25 = .ok (.aload_n 0, 1) := by decide +kernel
theorem d_Model_isGot_26 : decode prog_13_method_87_code 26 = .ok (.iconst 0, 1) := by decide +kernel
theorem d_Model_isGot_27 : decode prog_13_method_87_code 27 = .ok (.invokevirtual 488, 3) := by decide +kernel
theorem d_Model_isGot_30 : decode prog_13_method_87_code 30 = .ok (.bipush 6, 2) := by decide +kernel
theorem d_Model_isGot_32 : decode prog_13_method_87_code 32 = .ok (.aload_n 0, 1) := by decide +kernel
theorem d_Model_isGot_33 : decode prog_13_method_87_code 33 = .ok (.iload_n 1, 1) := by decide +kernel
theorem d_Model_isGot_34 : decode prog_13_method_87_code 34 = .ok (.iconst 1, 1) := by decide +kernel
theorem d_Model_isGot_35 : decode prog_13_method_87_code 35 = .ok (.iadd, 1) := by decide +kernel
theorem d_Model_isGot_36 : decode prog_13_method_87_code 36 = .ok (.iconst 3, 1) := by decide +kernel
theorem d_Model_isGot_37 : decode prog_13_method_87_code 37 = .ok (.iload_n 2, 1) := by decide +kernel
theorem d_Model_isGot_38 : decode prog_13_method_87_code 38 = .ok (.imul, 1) := by decide +kernel
theorem d_Model_isGot_39 : decode prog_13_method_87_code 39 = .ok (.iload_n 3, 1) := by decide +kernel
theorem d_Model_isGot_40 : decode prog_13_method_87_code 40 = .ok (.iadd, 1) := by decide +kernel
theorem d_Model_isGot_41 : decode prog_13_method_87_code 41 = .ok (.invokevirtual 501, 3) := by decide +kernel
theorem kw_Model_501 : KW "NineBoardsModel" 501 ⟨"NineBoardsModel", "placeOf", "(II)I"⟩ prog_13_method_85_code 3 (some .int) 2 := ⟨(mt_7 (List.mem_of_getElem? (i := 198) rfl) rfl), (mt_1 (List.mem_of_getElem? (i := 16) rfl) rfl), (mt_7 (List.mem_of_getElem? (i := 201) rfl) rfl), by decide +kernel⟩
theorem kv_Model_placeOf : Cond.instanceMethod ⟨"NineBoardsModel", "placeOf", "(II)I"⟩ ∈ TB ∧ Cond.selects "NineBoardsModel" ⟨"NineBoardsModel", "placeOf", "(II)I"⟩ ⟨"NineBoardsModel", "placeOf", "(II)I"⟩ ∈ TB := ⟨(mt_7 (List.mem_of_getElem? (i := 200) rfl) rfl), (ms_0 (List.mem_map.mpr ⟨(⟨"NineBoardsModel", "placeOf", "(II)I"⟩, 79), List.mem_of_getElem? (i := 113) (by decide +kernel), rfl⟩) rfl)⟩
theorem d_Model_isGot_44 : decode prog_13_method_87_code 44 = .ok (.imul, 1) := by decide +kernel
theorem d_Model_isGot_45 : decode prog_13_method_87_code 45 = .ok (.istore 4, 2) := by decide +kernel
theorem d_Model_isGot_47 : decode prog_13_method_87_code 47 = .ok (.iconst 0, 1) := by decide +kernel
theorem d_Model_isGot_48 : decode prog_13_method_87_code 48 = .ok (.istore 5, 2) := by decide +kernel
theorem d_Model_isGot_50 : decode prog_13_method_87_code 50 = .ok (.iload 5, 2) := by decide +kernel
theorem d_Model_isGot_52 : decode prog_13_method_87_code 52 = .ok (.aload_n 0, 1) := by decide +kernel
theorem d_Model_isGot_53 : decode prog_13_method_87_code 53 = .ok (.invokevirtual 448, 3) := by decide +kernel
theorem d_Model_isGot_56 : decode prog_13_method_87_code 56 = .ok (.if_icmp .ge 37, 3) := by decide +kernel
theorem d_Model_isGot_93 : decode prog_13_method_87_code 93 = .ok (.iconst 1, 1) := by decide +kernel
theorem d_Model_isGot_94 : decode prog_13_method_87_code 94 = .ok (.ireturn, 1) := by decide +kernel
set_option maxHeartbeats 4000000 in
set_option maxRecDepth 100000 in
theorem c_M_isGot_0 (l : Launch) (D : va_G) (y : Nat → ClassId) (mo : Nat) (ad : Nat → Nat) (a : Nat) (b : Nat) (d : Int32) (ha : a ≤ 5) : CT l D y ⟨"NineBoardsModel", "isGot", "(III)Z"⟩ prog_13_method_87_code 6 (some .boolean) ({ frames := 4, cells := 0, slots := 0, locals := 95 } : Room) [.ref mo, .int (nI a), .int (nI b), .int 0] [MB mo ad 0 0 0 0 0 0 0 (-1) 0 0 0 0 0 0 0 0 0 0 1 0, (ad 43, .inl (y 0, 8, .inl (fun _ => 0))), (ad 62, .inl (y 0, 63, .inl (dayF d))), (ad 45, .inl (y 0, 14, .inl lakeF)), (ad 68, .inl (y 0, 63, .inl (dayF 0))), (ad 72, .inl (y 0, 7, .inl powF))] (QI D [MB mo ad 0 0 0 0 0 0 0 (-1) 0 0 0 0 0 0 0 0 0 0 1 0, (ad 43, .inl (y 0, 8, .inl (fun _ => 0))), (ad 62, .inl (y 0, 63, .inl (dayF d))), (ad 45, .inl (y 0, 14, .inl lakeF)), (ad 68, .inl (y 0, 63, .inl (dayF 0))), (ad 72, .inl (y 0, 7, .inl powF))] (fun (r : Int32) (u : Int32) => r = 0 ∨ r = 1) (fun u => [MB mo ad 0 0 0 0 0 0 0 (-1) 0 0 0 0 0 0 0 0 0 0 1 0, (ad 43, .inl (y 0, 8, .inl (fun _ => 0))), (ad 62, .inl (y 0, 63, .inl (dayF u))), (ad 45, .inl (y 0, 14, .inl lakeF)), (ad 68, .inl (y 0, 63, .inl (dayF 0))), (ad 72, .inl (y 0, 7, .inl powF))])) := by
  refine CT.of (by decide) (nb rfl) ?_
  intro p e s m args below meth c C hr
  refine j_lv (lv' := [(0, .ref mo), (1, .int (nI a)), (2, .int (nI b)), (3, .int 0)]) rfl ?_
  refine j_aload_n (pc := 0) C d_Model_isGot_0 rfl 0 rfl ?_
  refine j_iload_n (pc := 1) C d_Model_isGot_1 rfl 1 rfl ?_
  refine j_iload_n (pc := 2) C d_Model_isGot_2 rfl 2 rfl ?_
  refine j_callVi (pc := 3) C (c_M_isBegun l D y mo ad a b d (by omega)) kw_Model_498 kv_Model_isBegun 0 10 rfl rfl ⟨by decide, by decide⟩ ⟨by decide, by decide⟩ (wr := []) [0, 1, 2, 3, 4, 5] [] rfl rfl (by decide) (by decide) (by decide) (As := [.int (nI a), .int (nI b)]) (rest := []) rfl (nb rfl) rfl d_Model_isGot_3 (fun r1 u2 hr1 => ?_)
  refine j_ws (ws' := [MB mo ad 0 0 0 0 0 0 0 (-1) 0 0 0 0 0 0 0 0 0 0 1 0, (ad 43, .inl (y 0, 8, .inl (fun _ => 0))), (ad 62, .inl (y 0, 63, .inl (dayF u2))), (ad 45, .inl (y 0, 14, .inl lakeF)), (ad 68, .inl (y 0, 63, .inl (dayF 0))), (ad 72, .inl (y 0, 7, .inl powF))]) rfl ?_
  refine j_if_eq (pc := 6) C (tgt := 18) d_Model_isGot_6 (by decide) (fun c3 => ?_) (fun c3 => ?_)
  · refine j_iconst (pc := 18) C (v := 0) d_Model_isGot_18 (by decide) ?_
    exact j_iret (pc := 19) C hr (by decide) u2 (by decide) [0, 1, 2, 3, 4, 5] rfl (by decide) (by decide) (by decide) d_Model_isGot_19
  · refine j_aload_n (pc := 9) C d_Model_isGot_9 rfl 0 rfl ?_
    refine j_iconst (pc := 10) C (v := 0) d_Model_isGot_10 (by decide) ?_
    refine j_iload_n (pc := 11) C d_Model_isGot_11 rfl 3 rfl ?_
    refine j_callVi (pc := 12) C (c_M_mayDo_0 l D y mo ad 0 0 1 0) kw_Model_478 kv_Model_mayDo 0 10 rfl rfl ⟨by decide, by decide⟩ ⟨by decide, by decide⟩ (wr := [(ad 43, .inl (y 0, 8, .inl (fun _ => 0))), (ad 62, .inl (y 0, 63, .inl (dayF u2))), (ad 45, .inl (y 0, 14, .inl lakeF)), (ad 68, .inl (y 0, 63, .inl (dayF 0))), (ad 72, .inl (y 0, 7, .inl powF))]) [0] [1, 2, 3, 4, 5] rfl rfl (by decide) (by decide) (by decide) (As := [.int 0, .int 0]) (rest := []) rfl (nb rfl) rfl d_Model_isGot_12 (fun r4 _ hr4 => ?_)
    subst hr4
    refine j_ws (ws' := [(ad 43, .inl (y 0, 8, .inl (fun _ => 0))), (ad 62, .inl (y 0, 63, .inl (dayF u2))), (ad 45, .inl (y 0, 14, .inl lakeF)), (ad 68, .inl (y 0, 63, .inl (dayF 0))), (ad 72, .inl (y 0, 7, .inl powF)), MB mo ad 0 0 0 0 0 0 0 (-1) 0 0 0 0 0 0 0 0 0 0 1 0]) rfl ?_
    refine j_st (st' := [.int 1]) rfl ?_
    refine j_if_neT (pc := 15) C (tgt := 20) d_Model_isGot_15 (by decide) (by decide) ?_
    refine j_aload_n (pc := 20) C d_Model_isGot_20 rfl 0 rfl ?_
    refine j_iload_n (pc := 21) C d_Model_isGot_21 rfl 3 rfl ?_
    refine j_callVv (pc := 22) C (c_M_acts l D y mo ad 0 0 1) kw_Model_485 kv_Model_acts 0 10 rfl rfl ⟨by decide, by decide⟩ ⟨by decide, by decide⟩ (wr := [(ad 43, .inl (y 0, 8, .inl (fun _ => 0))), (ad 62, .inl (y 0, 63, .inl (dayF u2))), (ad 45, .inl (y 0, 14, .inl lakeF)), (ad 68, .inl (y 0, 63, .inl (dayF 0))), (ad 72, .inl (y 0, 7, .inl powF))]) [5] [0, 1, 2, 3, 4] rfl rfl (by decide) (by decide) (by decide) (As := [.int 0]) (rest := []) rfl (nb rfl) rfl d_Model_isGot_22 (fun _ _ => ?_)
    refine j_ws (ws' := [(ad 43, .inl (y 0, 8, .inl (fun _ => 0))), (ad 62, .inl (y 0, 63, .inl (dayF u2))), (ad 45, .inl (y 0, 14, .inl lakeF)), (ad 68, .inl (y 0, 63, .inl (dayF 0))), (ad 72, .inl (y 0, 7, .inl powF)), MB mo ad 0 0 0 0 0 0 0 (-1) 0 0 0 0 0 0 0 0 0 0 1 0]) rfl ?_
    refine j_aload_n (pc := 25) C d_Model_isGot_25 rfl 0 rfl ?_
    refine j_iconst (pc := 26) C (v := 0) d_Model_isGot_26 (by decide) ?_
    refine j_callVv (pc := 27) C (c_M_goesBy l D y mo ad 0 0 1 u2) kw_Model_488 kv_Model_goesBy 0 10 rfl rfl ⟨by decide, by decide⟩ ⟨by decide, by decide⟩ (wr := [(ad 68, .inl (y 0, 63, .inl (dayF 0))), (ad 72, .inl (y 0, 7, .inl powF))]) [5, 0, 1, 2] [3, 4] rfl rfl (by decide) (by decide) (by decide) (As := [.int 0]) (rest := []) rfl (nb rfl) rfl d_Model_isGot_27 (fun _ _ => ?_)
    refine j_ws (ws' := [(ad 68, .inl (y 0, 63, .inl (dayF 0))), (ad 72, .inl (y 0, 7, .inl powF)), MB mo ad 0 0 0 0 0 0 0 (-1) 0 0 0 0 0 0 0 0 0 0 1 0, (ad 43, .inl (y 0, 8, .inl (fun _ => 0))), (ad 62, .inl (y 0, 63, .inl (dayF (u2 + 1)))), (ad 45, .inl (y 0, 14, .inl lakeF))]) rfl ?_
    refine j_bipush (pc := 30) C (v := 6) d_Model_isGot_30 (by decide) ?_
    refine j_aload_n (pc := 32) C d_Model_isGot_32 rfl 0 rfl ?_
    refine j_iload_n (pc := 33) C d_Model_isGot_33 rfl 1 rfl ?_
    refine j_iconst (pc := 34) C (v := 1) d_Model_isGot_34 (by decide) ?_
    refine j_iadd (pc := 35) C (v := nI (a + 1)) d_Model_isGot_35 (nI_1 _) ?_
    refine j_iconst (pc := 36) C (v := 3) d_Model_isGot_36 (by decide) ?_
    refine j_iload_n (pc := 37) C d_Model_isGot_37 rfl 2 rfl ?_
    refine j_imul (pc := 38) C (v := nI (3 * b)) d_Model_isGot_38 (pk_mul 3 b) ?_
    refine j_iload_n (pc := 39) C d_Model_isGot_39 rfl 3 rfl ?_
    refine j_iadd (pc := 40) C (v := nI (3 * b + 0)) d_Model_isGot_40 (show nI (3 * b) + nI 0 = nI (3 * b + 0) from nI_add _ _) ?_
    refine j_callVi (pc := 41) C (c_M_placeOf l D y mo ad (a + 1) (3 * b + 0) (by omega)) kw_Model_501 kv_Model_placeOf 0 10 rfl rfl ⟨by decide, by decide⟩ ⟨by decide, by decide⟩ (wr := [(ad 68, .inl (y 0, 63, .inl (dayF 0))), (ad 43, .inl (y 0, 8, .inl (fun _ => 0))), (ad 62, .inl (y 0, 63, .inl (dayF (u2 + 1)))), (ad 45, .inl (y 0, 14, .inl lakeF))]) [2, 1] [0, 3, 4, 5] rfl rfl (by decide) (by decide) (by decide) (As := [.int (nI (a + 1)), .int (nI (3 * b + 0))]) (rest := [.int 6]) rfl (nb rfl) rfl d_Model_isGot_41 (fun r5 _ hr5 => ?_)
    subst hr5
    refine j_ws (ws' := [(ad 68, .inl (y 0, 63, .inl (dayF 0))), (ad 43, .inl (y 0, 8, .inl (fun _ => 0))), (ad 62, .inl (y 0, 63, .inl (dayF (u2 + 1)))), (ad 45, .inl (y 0, 14, .inl lakeF)), MB mo ad 0 0 0 0 0 0 0 (-1) 0 0 0 0 0 0 0 0 0 0 1 0, (ad 72, .inl (y 0, 7, .inl powF))]) rfl ?_
    refine j_st (st' := [.int (nI ((3 ^ (a + 1) - 1) / 2 + (3 * b + 0))), .int 6]) rfl ?_
    refine j_imul (pc := 44) C (v := 6 * (nI ((3 ^ (a + 1) - 1) / 2 + (3 * b + 0)))) d_Model_isGot_44 rfl ?_
    refine j_istore (pc := 45) C (lv' := [(4, .int (6 * (nI ((3 ^ (a + 1) - 1) / 2 + (3 * b + 0))))), (0, .ref mo), (1, .int (nI a)), (2, .int (nI b)), (3, .int 0)]) d_Model_isGot_45 (by decide) rfl ?_
    refine j_iconst (pc := 47) C (v := 0) d_Model_isGot_47 (by decide) ?_
    refine j_istore (pc := 48) C (lv' := [(5, .int 0), (4, .int (6 * (nI ((3 ^ (a + 1) - 1) / 2 + (3 * b + 0))))), (0, .ref mo), (1, .int (nI a)), (2, .int (nI b)), (3, .int 0)]) d_Model_isGot_48 (by decide) rfl ?_
    refine j_iload (pc := 50) C d_Model_isGot_50 0 rfl ?_
    refine j_aload_n (pc := 52) C d_Model_isGot_52 rfl 2 rfl ?_
    refine j_callVi (pc := 53) C (c_M_villages l D y mo ad 0 0 1) kw_Model_448 kv_Model_villages 0 10 rfl rfl ⟨by decide, by decide⟩ ⟨by decide, by decide⟩ (wr := [(ad 68, .inl (y 0, 63, .inl (dayF 0))), (ad 62, .inl (y 0, 63, .inl (dayF (u2 + 1)))), (ad 45, .inl (y 0, 14, .inl lakeF)), (ad 72, .inl (y 0, 7, .inl powF))]) [4, 1] [0, 2, 3, 5] rfl rfl (by decide) (by decide) (by decide) (As := []) (rest := [.int 0]) rfl (nb rfl) rfl d_Model_isGot_53 (fun r6 _ hr6 => ?_)
    subst hr6
    refine j_ws (ws' := [(ad 68, .inl (y 0, 63, .inl (dayF 0))), (ad 62, .inl (y 0, 63, .inl (dayF (u2 + 1)))), (ad 45, .inl (y 0, 14, .inl lakeF)), (ad 72, .inl (y 0, 7, .inl powF)), MB mo ad 0 0 0 0 0 0 0 (-1) 0 0 0 0 0 0 0 0 0 0 1 0, (ad 43, .inl (y 0, 8, .inl (fun _ => 0)))]) rfl ?_
    refine j_st (st' := [.int 0, .int 0]) rfl ?_
    refine j_icmp_geT (pc := 56) C (tgt := 93) d_Model_isGot_56 (by decide) (by decide) ?_
    refine j_iconst (pc := 93) C (v := 1) d_Model_isGot_93 (by decide) ?_
    exact j_iret (pc := 94) C hr (by decide) (u2 + 1) (by decide) [4, 5, 1, 2, 0, 3] rfl (by decide) (by decide) (by decide) d_Model_isGot_94
set_option maxHeartbeats 4000000 in
set_option maxRecDepth 100000 in
theorem c_M_isGot_n (l : Launch) (D : va_G) (y : Nat → ClassId) (mo : Nat) (ad : Nat → Nat) (a : Nat) (b : Nat) (d : Int32) (v : Int32) (ha : a ≤ 5) (hv : ¬ v = 0) : CT l D y ⟨"NineBoardsModel", "isGot", "(III)Z"⟩ prog_13_method_87_code 6 (some .boolean) ({ frames := 4, cells := 0, slots := 0, locals := 95 } : Room) [.ref mo, .int (nI a), .int (nI b), .int v] [MB mo ad 0 0 0 0 0 0 0 (-1) 0 0 0 0 0 0 0 0 0 0 1 0, (ad 43, .inl (y 0, 8, .inl (fun _ => 0))), (ad 62, .inl (y 0, 63, .inl (dayF d))), (ad 45, .inl (y 0, 14, .inl lakeF)), (ad 68, .inl (y 0, 63, .inl (dayF 0))), (ad 72, .inl (y 0, 7, .inl powF))] (QI D [MB mo ad 0 0 0 0 0 0 0 (-1) 0 0 0 0 0 0 0 0 0 0 1 0, (ad 43, .inl (y 0, 8, .inl (fun _ => 0))), (ad 62, .inl (y 0, 63, .inl (dayF d))), (ad 45, .inl (y 0, 14, .inl lakeF)), (ad 68, .inl (y 0, 63, .inl (dayF 0))), (ad 72, .inl (y 0, 7, .inl powF))] (fun (r : Int32) (u : Int32) => r = 0) (fun u => [MB mo ad 0 0 0 0 0 0 0 (-1) 0 0 0 0 0 0 0 0 0 0 1 0, (ad 43, .inl (y 0, 8, .inl (fun _ => 0))), (ad 62, .inl (y 0, 63, .inl (dayF u))), (ad 45, .inl (y 0, 14, .inl lakeF)), (ad 68, .inl (y 0, 63, .inl (dayF 0))), (ad 72, .inl (y 0, 7, .inl powF))])) := by
  refine CT.of (by decide) (nb rfl) ?_
  intro p e s m args below meth c C hr
  refine j_lv (lv' := [(0, .ref mo), (1, .int (nI a)), (2, .int (nI b)), (3, .int v)]) rfl ?_
  refine j_aload_n (pc := 0) C d_Model_isGot_0 rfl 0 rfl ?_
  refine j_iload_n (pc := 1) C d_Model_isGot_1 rfl 1 rfl ?_
  refine j_iload_n (pc := 2) C d_Model_isGot_2 rfl 2 rfl ?_
  refine j_callVi (pc := 3) C (c_M_isBegun l D y mo ad a b d (by omega)) kw_Model_498 kv_Model_isBegun 0 10 rfl rfl ⟨by decide, by decide⟩ ⟨by decide, by decide⟩ (wr := []) [0, 1, 2, 3, 4, 5] [] rfl rfl (by decide) (by decide) (by decide) (As := [.int (nI a), .int (nI b)]) (rest := []) rfl (nb rfl) rfl d_Model_isGot_3 (fun r1 u2 hr1 => ?_)
  refine j_ws (ws' := [MB mo ad 0 0 0 0 0 0 0 (-1) 0 0 0 0 0 0 0 0 0 0 1 0, (ad 43, .inl (y 0, 8, .inl (fun _ => 0))), (ad 62, .inl (y 0, 63, .inl (dayF u2))), (ad 45, .inl (y 0, 14, .inl lakeF)), (ad 68, .inl (y 0, 63, .inl (dayF 0))), (ad 72, .inl (y 0, 7, .inl powF))]) rfl ?_
  refine j_if_eq (pc := 6) C (tgt := 18) d_Model_isGot_6 (by decide) (fun c3 => ?_) (fun c3 => ?_)
  · refine j_iconst (pc := 18) C (v := 0) d_Model_isGot_18 (by decide) ?_
    exact j_iret (pc := 19) C hr (by decide) u2 (show (0 : Int32) = 0 from rfl) [0, 1, 2, 3, 4, 5] rfl (by decide) (by decide) (by decide) d_Model_isGot_19
  · refine j_aload_n (pc := 9) C d_Model_isGot_9 rfl 0 rfl ?_
    refine j_iconst (pc := 10) C (v := 0) d_Model_isGot_10 (by decide) ?_
    refine j_iload_n (pc := 11) C d_Model_isGot_11 rfl 3 rfl ?_
    refine j_callVi (pc := 12) C (c_M_mayDo_n l D y mo ad 0 0 1 0 v hv) kw_Model_478 kv_Model_mayDo 0 10 rfl rfl ⟨by decide, by decide⟩ ⟨by decide, by decide⟩ (wr := [(ad 62, .inl (y 0, 63, .inl (dayF u2))), (ad 45, .inl (y 0, 14, .inl lakeF)), (ad 68, .inl (y 0, 63, .inl (dayF 0))), (ad 72, .inl (y 0, 7, .inl powF))]) [0, 1] [2, 3, 4, 5] rfl rfl (by decide) (by decide) (by decide) (As := [.int 0, .int v]) (rest := []) rfl (nb rfl) rfl d_Model_isGot_12 (fun r4 _ hr4 => ?_)
    subst hr4
    refine j_ws (ws' := [(ad 62, .inl (y 0, 63, .inl (dayF u2))), (ad 45, .inl (y 0, 14, .inl lakeF)), (ad 68, .inl (y 0, 63, .inl (dayF 0))), (ad 72, .inl (y 0, 7, .inl powF)), MB mo ad 0 0 0 0 0 0 0 (-1) 0 0 0 0 0 0 0 0 0 0 1 0, (ad 43, .inl (y 0, 8, .inl (fun _ => 0)))]) rfl ?_
    refine j_st (st' := [.int 0]) rfl ?_
    refine j_if_neF (pc := 15) C (tgt := 20) d_Model_isGot_15 (by decide) (by decide) ?_
    refine j_iconst (pc := 18) C (v := 0) d_Model_isGot_18 (by decide) ?_
    exact j_iret (pc := 19) C hr (by decide) u2 (show (0 : Int32) = 0 from rfl) [4, 5, 0, 1, 2, 3] rfl (by decide) (by decide) (by decide) d_Model_isGot_19
theorem d_Model_takesBest_0 : decode prog_13_method_89_code 0 = .ok (.aload_n 0, 1) := by decide +kernel
theorem d_Model_takesBest_1 : decode prog_13_method_89_code 1 = .ok (.iload_n 1, 1) := by decide +kernel
theorem d_Model_takesBest_2 : decode prog_13_method_89_code 2 = .ok (.iload_n 2, 1) := by decide +kernel
theorem d_Model_takesBest_3 : decode prog_13_method_89_code 3 = .ok (.invokevirtual 501, 3) := by decide +kernel
theorem d_Model_takesBest_6 : decode prog_13_method_89_code 6 = .ok (.istore 4, 2) := by decide +kernel
theorem d_Model_takesBest_8 : decode prog_13_method_89_code 8 = .ok (.aload_n 0, 1) := by decide +kernel
theorem d_Model_takesBest_9 : decode prog_13_method_89_code 9 = .ok (.getfield 176, 3) := by decide +kernel
theorem gf_Model_176 : GF "NineBoardsModel" 176 10 71 := ⟨_, _, _, rfl, ci_Model, by decide, (mt_5 (List.mem_of_getElem? (i := 159) rfl) rfl)⟩
theorem d_Model_takesBest_12 : decode prog_13_method_89_code 12 = .ok (.iload 4, 2) := by decide +kernel
theorem d_Model_takesBest_14 : decode prog_13_method_89_code 14 = .ok (.iconst 0, 1) := by decide +kernel
theorem d_Model_takesBest_15 : decode prog_13_method_89_code 15 = .ok (.iastore, 1) := by decide +kernel
theorem d_Model_takesBest_16 : decode prog_13_method_89_code 16 = .ok (.aload_n 0, 1) := by decide +kernel
theorem d_Model_takesBest_17 : decode prog_13_method_89_code 17 = .ok (.iload_n 1, 1) := by decide +kernel
theorem d_Model_takesBest_18 : decode prog_13_method_89_code 18 = .ok (.iload_n 2, 1) := by decide +kernel
theorem d_Model_takesBest_19 : decode prog_13_method_89_code 19 = .ok (.invokevirtual 498, 3) := by decide +kernel
theorem d_Model_takesBest_22 : decode prog_13_method_89_code 22 = .ok (.ifCond .ne 4, 3) := by decide +kernel
theorem d_Model_takesBest_26 : decode prog_13_method_89_code 26 = .ok (.aload_n 0, 1) := by decide +kernel
theorem d_Model_takesBest_27 : decode prog_13_method_89_code 27 = .ok (.invokevirtual 451, 3) := by decide +kernel
theorem kw_Model_451 : KW "NineBoardsModel" 451 ⟨"NineBoardsModel", "todays", "()I"⟩ prog_13_method_66_code 1 (some .int) 0 := ⟨(mt_7 (List.mem_of_getElem? (i := 95) rfl) rfl), (mt_1 (List.mem_of_getElem? (i := 16) rfl) rfl), (mt_7 (List.mem_of_getElem? (i := 98) rfl) rfl), by decide +kernel⟩
theorem kv_Model_todays : Cond.instanceMethod ⟨"NineBoardsModel", "todays", "()I"⟩ ∈ TB ∧ Cond.selects "NineBoardsModel" ⟨"NineBoardsModel", "todays", "()I"⟩ ⟨"NineBoardsModel", "todays", "()I"⟩ ∈ TB := ⟨(mt_7 (List.mem_of_getElem? (i := 97) rfl) rfl), (ms_0 (List.mem_map.mpr ⟨(⟨"NineBoardsModel", "todays", "()I"⟩, 79), List.mem_of_getElem? (i := 97) (by decide +kernel), rfl⟩) rfl)⟩
theorem d_Model_takesBest_30 : decode prog_13_method_89_code 30 = .ok (.istore 5, 2) := by decide +kernel
theorem d_Model_takesBest_32 : decode prog_13_method_89_code 32 = .ok (.iconst 0, 1) := by decide +kernel
theorem d_Model_takesBest_33 : decode prog_13_method_89_code 33 = .ok (.istore 6, 2) := by decide +kernel
theorem d_Model_takesBest_35 : decode prog_13_method_89_code 35 = .ok (.iconst 0, 1) := by decide +kernel
theorem d_Model_takesBest_36 : decode prog_13_method_89_code 36 = .ok (.istore 7, 2) := by decide +kernel
theorem d_Model_takesBest_38 : decode prog_13_method_89_code 38 = .ok (.iconst 0, 1) := by decide +kernel
theorem d_Model_takesBest_39 : decode prog_13_method_89_code 39 = .ok (.istore 8, 2) := by decide +kernel
theorem d_Model_takesBest_41 : decode prog_13_method_89_code 41 = .ok (.iload 8, 2) := by decide +kernel
theorem d_Model_takesBest_43 : decode prog_13_method_89_code 43 = .ok (.iconst 2, 1) := by decide +kernel
theorem d_Model_takesBest_44 : decode prog_13_method_89_code 44 = .ok (.if_icmp .gt 123, 3) := by decide +kernel
theorem d_Model_takesBest_47 : decode prog_13_method_89_code 47 = .ok (.aload_n 0, 1) := by decide +kernel
theorem d_Model_takesBest_48 : decode prog_13_method_89_code 48 = .ok (.iload_n 1, 1) := by decide +kernel
theorem d_Model_takesBest_49 : decode prog_13_method_89_code 49 = .ok (.iload_n 2, 1) := by decide +kernel
theorem d_Model_takesBest_50 : decode prog_13_method_89_code 50 = .ok (.iload 8, 2) := by decide +kernel
theorem d_Model_takesBest_52 : decode prog_13_method_89_code 52 = .ok (.invokevirtual 504, 3) := by decide +kernel
theorem kw_Model_504 : KW "NineBoardsModel" 504 ⟨"NineBoardsModel", "isGot", "(III)Z"⟩ prog_13_method_87_code 6 (some .boolean) 3 := ⟨(mt_7 (List.mem_of_getElem? (i := 214) rfl) rfl), (mt_1 (List.mem_of_getElem? (i := 16) rfl) rfl), (mt_7 (List.mem_of_getElem? (i := 217) rfl) rfl), by decide +kernel⟩
theorem kv_Model_isGot : Cond.instanceMethod ⟨"NineBoardsModel", "isGot", "(III)Z"⟩ ∈ TB ∧ Cond.selects "NineBoardsModel" ⟨"NineBoardsModel", "isGot", "(III)Z"⟩ ⟨"NineBoardsModel", "isGot", "(III)Z"⟩ ∈ TB := ⟨(mt_7 (List.mem_of_getElem? (i := 216) rfl) rfl), (ms_0 (List.mem_map.mpr ⟨(⟨"NineBoardsModel", "isGot", "(III)Z"⟩, 79), List.mem_of_getElem? (i := 117) (by decide +kernel), rfl⟩) rfl)⟩
theorem d_Model_takesBest_55 : decode prog_13_method_89_code 55 = .ok (.ifCond .ne 6, 3) := by decide +kernel
theorem d_Model_takesBest_61 : decode prog_13_method_89_code 61 = .ok (.aload_n 0, 1) := by decide +kernel
theorem d_Model_takesBest_62 : decode prog_13_method_89_code 62 = .ok (.invokevirtual 448, 3) := by decide +kernel
theorem d_Model_takesBest_65 : decode prog_13_method_89_code 65 = .ok (.ifCond .ne 7, 3) := by decide +kernel
theorem d_Model_takesBest_68 : decode prog_13_method_89_code 68 = .ok (.iconst 0, 1) := by decide +kernel
theorem d_Model_takesBest_69 : decode prog_13_method_89_code 69 = .ok (.goto 21, 3) := by decide +kernel
theorem d_Model_takesBest_90 : decode prog_13_method_89_code 90 = .ok (.istore 9, 2) := by decide +kernel
theorem d_Model_takesBest_92 : decode prog_13_method_89_code 92 = .ok (.iload 7, 2) := by decide +kernel
theorem d_Model_takesBest_94 : decode prog_13_method_89_code 94 = .ok (.ifCond .eq 13, 3) := by decide +kernel
theorem d_Model_takesBest_107 : decode prog_13_method_89_code 107 = .ok (.iconst 1, 1) := by decide +kernel
theorem d_Model_takesBest_108 : decode prog_13_method_89_code 108 = .ok (.istore 7, 2) := by decide +kernel
theorem d_Model_takesBest_110 : decode prog_13_method_89_code 110 = .ok (.iload 9, 2) := by decide +kernel
theorem d_Model_takesBest_112 : decode prog_13_method_89_code 112 = .ok (.istore 6, 2) := by decide +kernel
theorem d_Model_takesBest_114 : decode prog_13_method_89_code 114 = .ok (.aload_n 0, 1) := by decide +kernel
theorem d_Model_takesBest_115 : decode prog_13_method_89_code 115 = .ok (.getfield 176, 3) := by decide +kernel
theorem d_Model_takesBest_118 : decode prog_13_method_89_code 118 = .ok (.iload 4, 2) := by decide +kernel
theorem d_Model_takesBest_120 : decode prog_13_method_89_code 120 = .ok (.iload 8, 2) := by decide +kernel
theorem d_Model_takesBest_122 : decode prog_13_method_89_code 122 = .ok (.iastore, 1) := by decide +kernel
theorem d_Model_takesBest_123 : decode prog_13_method_89_code 123 = .ok (.iconst 0, 1) := by decide +kernel
theorem d_Model_takesBest_124 : decode prog_13_method_89_code 124 = .ok (.istore 10, 2) := by decide +kernel
theorem d_Model_takesBest_126 : decode prog_13_method_89_code 126 = .ok (.iload 10, 2) := by decide +kernel
theorem d_Model_takesBest_128 : decode prog_13_method_89_code 128 = .ok (.aload_n 0, 1) := by decide +kernel
theorem d_Model_takesBest_129 : decode prog_13_method_89_code 129 = .ok (.invokevirtual 448, 3) := by decide +kernel
theorem d_Model_takesBest_132 : decode prog_13_method_89_code 132 = .ok (.if_icmp .ge 29, 3) := by decide +kernel
theorem d_Model_takesBest_161 : decode prog_13_method_89_code 161 = .ok (.iinc 8 1, 3) := by decide +kernel
theorem d_Model_takesBest_164 : decode prog_13_method_89_code 164 = .ok (.goto (-123), 3) := by decide +kernel
theorem d_Model_takesBest_58 : decode prog_13_method_89_code 58 = .ok (.goto 103, 3) := by decide +kernel
theorem d_Model_takesBest_167 : decode prog_13_method_89_code 167 = .ok (.return_, 1) := by decide +kernel
theorem d_Model_takesBest_25 : decode prog_13_method_89_code 25 = .ok (.return_, 1) := by decide +kernel
set_option maxHeartbeats 4000000 in
set_option maxRecDepth 100000 in
theorem c_M_takesBest (l : Launch) (D : va_G) (y : Nat → ClassId) (mo : Nat) (ad : Nat → Nat) (a : Nat) (b : Nat) (d : Int32) (tg : Int32) (ha : a ≤ 5) (hb : b < 3 ^ a) : CT l D y ⟨"NineBoardsModel", "takesBest", "(IIZ)V"⟩ prog_13_method_89_code 11 none ({ frames := 5, cells := 0, slots := 0, locals := 120 } : Room) [.ref mo, .int (nI a), .int (nI b), .int tg] [MB mo ad 0 0 0 0 0 0 0 (-1) 0 0 0 0 0 0 0 0 0 0 1 0, (ad 43, .inl (y 0, 8, .inl (fun _ => 0))), (ad 62, .inl (y 0, 63, .inl (dayF d))), (ad 45, .inl (y 0, 14, .inl lakeF)), (ad 68, .inl (y 0, 63, .inl (dayF 0))), (ad 72, .inl (y 0, 7, .inl powF)), (ad 71, .inl (y 0, 1093, .inl (fun _ => 0)))] (QV D [MB mo ad 0 0 0 0 0 0 0 (-1) 0 0 0 0 0 0 0 0 0 0 1 0, (ad 43, .inl (y 0, 8, .inl (fun _ => 0))), (ad 62, .inl (y 0, 63, .inl (dayF d))), (ad 45, .inl (y 0, 14, .inl lakeF)), (ad 68, .inl (y 0, 63, .inl (dayF 0))), (ad 72, .inl (y 0, 7, .inl powF)), (ad 71, .inl (y 0, 1093, .inl (fun _ => 0)))] (fun (_ : Int32) => True) (fun u => [MB mo ad 0 0 0 0 0 0 0 (-1) 0 0 0 0 0 0 0 0 0 0 1 0, (ad 43, .inl (y 0, 8, .inl (fun _ => 0))), (ad 62, .inl (y 0, 63, .inl (dayF u))), (ad 45, .inl (y 0, 14, .inl lakeF)), (ad 68, .inl (y 0, 63, .inl (dayF 0))), (ad 72, .inl (y 0, 7, .inl powF)), (ad 71, .inl (y 0, 1093, .inl (fun _ => 0)))])) := by
  refine CT.of (by decide) (nb rfl) ?_
  intro p e s m args below meth c C hr
  refine j_lv (lv' := [(0, .ref mo), (1, .int (nI a)), (2, .int (nI b)), (3, .int tg)]) rfl ?_
  refine j_aload_n (pc := 0) C d_Model_takesBest_0 rfl 0 rfl ?_
  refine j_iload_n (pc := 1) C d_Model_takesBest_1 rfl 1 rfl ?_
  refine j_iload_n (pc := 2) C d_Model_takesBest_2 rfl 2 rfl ?_
  refine j_callVi (pc := 3) C (c_M_placeOf l D y mo ad a b (by omega)) kw_Model_501 kv_Model_placeOf 0 10 rfl rfl ⟨by decide, by decide⟩ ⟨by decide, by decide⟩ (wr := [(ad 43, .inl (y 0, 8, .inl (fun _ => 0))), (ad 62, .inl (y 0, 63, .inl (dayF d))), (ad 45, .inl (y 0, 14, .inl lakeF)), (ad 68, .inl (y 0, 63, .inl (dayF 0))), (ad 71, .inl (y 0, 1093, .inl (fun _ => 0)))]) [0, 5] [1, 2, 3, 4, 6] rfl rfl (by decide) (by decide) (by decide) (As := [.int (nI a), .int (nI b)]) (rest := []) rfl (nb rfl) rfl d_Model_takesBest_3 (fun r1 _ hr1 => ?_)
  subst hr1
  refine j_ws (ws' := [(ad 43, .inl (y 0, 8, .inl (fun _ => 0))), (ad 62, .inl (y 0, 63, .inl (dayF d))), (ad 45, .inl (y 0, 14, .inl lakeF)), (ad 68, .inl (y 0, 63, .inl (dayF 0))), (ad 71, .inl (y 0, 1093, .inl (fun _ => 0))), MB mo ad 0 0 0 0 0 0 0 (-1) 0 0 0 0 0 0 0 0 0 0 1 0, (ad 72, .inl (y 0, 7, .inl powF))]) rfl ?_
  refine j_st (st' := [.int (nI ((3 ^ a - 1) / 2 + b))]) rfl ?_
  refine j_istore (pc := 6) C (lv' := [(4, .int (nI ((3 ^ a - 1) / 2 + b))), (0, .ref mo), (1, .int (nI a)), (2, .int (nI b)), (3, .int tg)]) d_Model_takesBest_6 (by decide) rfl ?_
  refine j_aload_n (pc := 8) C d_Model_takesBest_8 rfl 1 rfl ?_
  refine j_get (pc := 9) C gf_Model_176 5 rfl rfl d_Model_takesBest_9 ?_
  refine j_iload (pc := 12) C d_Model_takesBest_12 0 rfl ?_
  refine j_iconst (pc := 14) C (v := 0) d_Model_takesBest_14 (by decide) ?_
  refine j_iast (pc := 15) C 4 rfl (ws' := [(ad 43, .inl (y 0, 8, .inl (fun _ => 0))), (ad 62, .inl (y 0, 63, .inl (dayF d))), (ad 45, .inl (y 0, 14, .inl lakeF)), (ad 68, .inl (y 0, 63, .inl (dayF 0))), (ad 71, .inl (y 0, 1093, .inl (fun _ => 0))), MB mo ad 0 0 0 0 0 0 0 (-1) 0 0 0 0 0 0 0 0 0 0 1 0, (ad 72, .inl (y 0, 7, .inl powF))]) (vp_in_nI (pl_lt (by omega) hb) (by decide)) (by rw [up_z0]; rfl) d_Model_takesBest_15 ?_
  refine j_aload_n (pc := 16) C d_Model_takesBest_16 rfl 1 rfl ?_
  refine j_iload_n (pc := 17) C d_Model_takesBest_17 rfl 2 rfl ?_
  refine j_iload_n (pc := 18) C d_Model_takesBest_18 rfl 3 rfl ?_
  refine j_callVi (pc := 19) C (c_M_isBegun l D y mo ad a b d (by omega)) kw_Model_498 kv_Model_isBegun 0 10 rfl rfl ⟨by decide, by decide⟩ ⟨by decide, by decide⟩ (wr := [(ad 71, .inl (y 0, 1093, .inl (fun _ => 0)))]) [5, 0, 1, 2, 3, 6] [4] rfl rfl (by decide) (by decide) (by decide) (As := [.int (nI a), .int (nI b)]) (rest := []) rfl (nb rfl) rfl d_Model_takesBest_19 (fun r2 u3 hr2 => ?_)
  refine j_ws (ws' := [(ad 71, .inl (y 0, 1093, .inl (fun _ => 0))), MB mo ad 0 0 0 0 0 0 0 (-1) 0 0 0 0 0 0 0 0 0 0 1 0, (ad 43, .inl (y 0, 8, .inl (fun _ => 0))), (ad 62, .inl (y 0, 63, .inl (dayF u3))), (ad 45, .inl (y 0, 14, .inl lakeF)), (ad 68, .inl (y 0, 63, .inl (dayF 0))), (ad 72, .inl (y 0, 7, .inl powF))]) rfl ?_
  refine j_if_ne (pc := 22) C (tgt := 26) d_Model_takesBest_22 (by decide) (fun c4 => ?_) (fun c4 => ?_)
  · refine j_aload_n (pc := 26) C d_Model_takesBest_26 rfl 1 rfl ?_
    refine j_callVi (pc := 27) C (c_M_todays l D y mo ad 0 0 1) kw_Model_451 kv_Model_todays 0 10 rfl rfl ⟨by decide, by decide⟩ ⟨by decide, by decide⟩ (wr := [(ad 71, .inl (y 0, 1093, .inl (fun _ => 0))), (ad 62, .inl (y 0, 63, .inl (dayF u3))), (ad 45, .inl (y 0, 14, .inl lakeF)), (ad 68, .inl (y 0, 63, .inl (dayF 0))), (ad 72, .inl (y 0, 7, .inl powF))]) [1, 2] [0, 3, 4, 5, 6] rfl rfl (by decide) (by decide) (by decide) (As := []) (rest := []) rfl (nb rfl) rfl d_Model_takesBest_27 (fun r5 _ hr5 => ?_)
    subst hr5
    refine j_ws (ws' := [(ad 71, .inl (y 0, 1093, .inl (fun _ => 0))), (ad 62, .inl (y 0, 63, .inl (dayF u3))), (ad 45, .inl (y 0, 14, .inl lakeF)), (ad 68, .inl (y 0, 63, .inl (dayF 0))), (ad 72, .inl (y 0, 7, .inl powF)), MB mo ad 0 0 0 0 0 0 0 (-1) 0 0 0 0 0 0 0 0 0 0 1 0, (ad 43, .inl (y 0, 8, .inl (fun _ => 0)))]) rfl ?_
    refine j_st (st' := [.int (-1)]) rfl ?_
    refine j_istore (pc := 30) C (lv' := [(5, .int (-1)), (4, .int (nI ((3 ^ a - 1) / 2 + b))), (0, .ref mo), (1, .int (nI a)), (2, .int (nI b)), (3, .int tg)]) d_Model_takesBest_30 (by decide) rfl ?_
    refine j_iconst (pc := 32) C (v := 0) d_Model_takesBest_32 (by decide) ?_
    refine j_istore (pc := 33) C (lv' := [(6, .int 0), (5, .int (-1)), (4, .int (nI ((3 ^ a - 1) / 2 + b))), (0, .ref mo), (1, .int (nI a)), (2, .int (nI b)), (3, .int tg)]) d_Model_takesBest_33 (by decide) rfl ?_
    refine j_iconst (pc := 35) C (v := 0) d_Model_takesBest_35 (by decide) ?_
    refine j_istore (pc := 36) C (lv' := [(7, .int 0), (6, .int 0), (5, .int (-1)), (4, .int (nI ((3 ^ a - 1) / 2 + b))), (0, .ref mo), (1, .int (nI a)), (2, .int (nI b)), (3, .int tg)]) d_Model_takesBest_36 (by decide) rfl ?_
    refine j_iconst (pc := 38) C (v := 0) d_Model_takesBest_38 (by decide) ?_
    refine j_istore (pc := 39) C (lv' := [(8, .int 0), (7, .int 0), (6, .int 0), (5, .int (-1)), (4, .int (nI ((3 ^ a - 1) / 2 + b))), (0, .ref mo), (1, .int (nI a)), (2, .int (nI b)), (3, .int tg)]) d_Model_takesBest_39 (by decide) rfl ?_
    refine j_iload (pc := 41) C d_Model_takesBest_41 0 rfl ?_
    refine j_iconst (pc := 43) C (v := 2) d_Model_takesBest_43 (by decide) ?_
    refine j_icmp_gtF (pc := 44) C (tgt := 167) d_Model_takesBest_44 (by decide) (by decide) ?_
    refine j_aload_n (pc := 47) C d_Model_takesBest_47 rfl 5 rfl ?_
    refine j_iload_n (pc := 48) C d_Model_takesBest_48 rfl 6 rfl ?_
    refine j_iload_n (pc := 49) C d_Model_takesBest_49 rfl 7 rfl ?_
    refine j_iload (pc := 50) C d_Model_takesBest_50 0 rfl ?_
    refine j_callVi (pc := 52) C (c_M_isGot_0 l D y mo ad a b u3 (by omega)) kw_Model_504 kv_Model_isGot 0 10 rfl rfl ⟨by decide, by decide⟩ ⟨by decide, by decide⟩ (wr := [(ad 71, .inl (y 0, 1093, .inl (fun _ => 0)))]) [5, 6, 1, 2, 3, 4] [0] rfl rfl (by decide) (by decide) (by decide) (As := [.int (nI a), .int (nI b), .int 0]) (rest := []) rfl (nb rfl) rfl d_Model_takesBest_52 (fun r6 u7 hr6 => ?_)
    refine j_ws (ws' := [(ad 71, .inl (y 0, 1093, .inl (fun _ => 0))), MB mo ad 0 0 0 0 0 0 0 (-1) 0 0 0 0 0 0 0 0 0 0 1 0, (ad 43, .inl (y 0, 8, .inl (fun _ => 0))), (ad 62, .inl (y 0, 63, .inl (dayF u7))), (ad 45, .inl (y 0, 14, .inl lakeF)), (ad 68, .inl (y 0, 63, .inl (dayF 0))), (ad 72, .inl (y 0, 7, .inl powF))]) rfl ?_
    refine j_if_ne (pc := 55) C (tgt := 61) d_Model_takesBest_55 (by decide) (fun c8 => ?_) (fun c8 => ?_)
    · refine j_aload_n (pc := 61) C d_Model_takesBest_61 rfl 5 rfl ?_
      refine j_callVi (pc := 62) C (c_M_villages l D y mo ad 0 0 1) kw_Model_448 kv_Model_villages 0 10 rfl rfl ⟨by decide, by decide⟩ ⟨by decide, by decide⟩ (wr := [(ad 71, .inl (y 0, 1093, .inl (fun _ => 0))), (ad 62, .inl (y 0, 63, .inl (dayF u7))), (ad 45, .inl (y 0, 14, .inl lakeF)), (ad 68, .inl (y 0, 63, .inl (dayF 0))), (ad 72, .inl (y 0, 7, .inl powF))]) [1, 2] [0, 3, 4, 5, 6] rfl rfl (by decide) (by decide) (by decide) (As := []) (rest := []) rfl (nb rfl) rfl d_Model_takesBest_62 (fun r9 _ hr9 => ?_)
      subst hr9
      refine j_ws (ws' := [(ad 71, .inl (y 0, 1093, .inl (fun _ => 0))), (ad 62, .inl (y 0, 63, .inl (dayF u7))), (ad 45, .inl (y 0, 14, .inl lakeF)), (ad 68, .inl (y 0, 63, .inl (dayF 0))), (ad 72, .inl (y 0, 7, .inl powF)), MB mo ad 0 0 0 0 0 0 0 (-1) 0 0 0 0 0 0 0 0 0 0 1 0, (ad 43, .inl (y 0, 8, .inl (fun _ => 0)))]) rfl ?_
      refine j_st (st' := [.int 0]) rfl ?_
      refine j_if_neF (pc := 65) C (tgt := 72) d_Model_takesBest_65 (by decide) (by decide) ?_
      refine j_iconst (pc := 68) C (v := 0) d_Model_takesBest_68 (by decide) ?_
      refine j_goto (pc := 69) C (tgt := 90) d_Model_takesBest_69 (by decide) ?_
      refine j_istore (pc := 90) C (lv' := [(9, .int 0), (8, .int 0), (7, .int 0), (6, .int 0), (5, .int (-1)), (4, .int (nI ((3 ^ a - 1) / 2 + b))), (0, .ref mo), (1, .int (nI a)), (2, .int (nI b)), (3, .int tg)]) d_Model_takesBest_90 (by decide) rfl ?_
      refine j_iload (pc := 92) C d_Model_takesBest_92 2 rfl ?_
      refine j_if_eqT (pc := 94) C (tgt := 107) d_Model_takesBest_94 (by decide) (by decide) ?_
      refine j_iconst (pc := 107) C (v := 1) d_Model_takesBest_107 (by decide) ?_
      refine j_istore (pc := 108) C (lv' := [(7, .int 1), (9, .int 0), (8, .int 0), (6, .int 0), (5, .int (-1)), (4, .int (nI ((3 ^ a - 1) / 2 + b))), (0, .ref mo), (1, .int (nI a)), (2, .int (nI b)), (3, .int tg)]) d_Model_takesBest_108 (by decide) rfl ?_
      refine j_iload (pc := 110) C d_Model_takesBest_110 1 rfl ?_
      refine j_istore (pc := 112) C (lv' := [(6, .int 0), (7, .int 1), (9, .int 0), (8, .int 0), (5, .int (-1)), (4, .int (nI ((3 ^ a - 1) / 2 + b))), (0, .ref mo), (1, .int (nI a)), (2, .int (nI b)), (3, .int tg)]) d_Model_takesBest_112 (by decide) rfl ?_
      refine j_aload_n (pc := 114) C d_Model_takesBest_114 rfl 6 rfl ?_
      refine j_get (pc := 115) C gf_Model_176 5 rfl rfl d_Model_takesBest_115 ?_
      refine j_iload (pc := 118) C d_Model_takesBest_118 5 rfl ?_
      refine j_iload (pc := 120) C d_Model_takesBest_120 3 rfl ?_
      refine j_iast (pc := 122) C 0 rfl (ws' := [(ad 71, .inl (y 0, 1093, .inl (fun _ => 0))), (ad 62, .inl (y 0, 63, .inl (dayF u7))), (ad 45, .inl (y 0, 14, .inl lakeF)), (ad 68, .inl (y 0, 63, .inl (dayF 0))), (ad 72, .inl (y 0, 7, .inl powF)), MB mo ad 0 0 0 0 0 0 0 (-1) 0 0 0 0 0 0 0 0 0 0 1 0, (ad 43, .inl (y 0, 8, .inl (fun _ => 0)))]) (vp_in_nI (pl_lt (by omega) hb) (by decide)) (by rw [up_z0]; rfl) d_Model_takesBest_122 ?_
      refine j_iconst (pc := 123) C (v := 0) d_Model_takesBest_123 (by decide) ?_
      refine j_istore (pc := 124) C (lv' := [(10, .int 0), (6, .int 0), (7, .int 1), (9, .int 0), (8, .int 0), (5, .int (-1)), (4, .int (nI ((3 ^ a - 1) / 2 + b))), (0, .ref mo), (1, .int (nI a)), (2, .int (nI b)), (3, .int tg)]) d_Model_takesBest_124 (by decide) rfl ?_
      refine j_iload (pc := 126) C d_Model_takesBest_126 0 rfl ?_
      refine j_aload_n (pc := 128) C d_Model_takesBest_128 rfl 7 rfl ?_
      refine j_callVi (pc := 129) C (c_M_villages l D y mo ad 0 0 1) kw_Model_448 kv_Model_villages 0 10 rfl rfl ⟨by decide, by decide⟩ ⟨by decide, by decide⟩ (wr := [(ad 71, .inl (y 0, 1093, .inl (fun _ => 0))), (ad 62, .inl (y 0, 63, .inl (dayF u7))), (ad 45, .inl (y 0, 14, .inl lakeF)), (ad 68, .inl (y 0, 63, .inl (dayF 0))), (ad 72, .inl (y 0, 7, .inl powF))]) [5, 6] [0, 1, 2, 3, 4] rfl rfl (by decide) (by decide) (by decide) (As := []) (rest := [.int 0]) rfl (nb rfl) rfl d_Model_takesBest_129 (fun r10 _ hr10 => ?_)
      subst hr10
      refine j_ws (ws' := [(ad 71, .inl (y 0, 1093, .inl (fun _ => 0))), (ad 62, .inl (y 0, 63, .inl (dayF u7))), (ad 45, .inl (y 0, 14, .inl lakeF)), (ad 68, .inl (y 0, 63, .inl (dayF 0))), (ad 72, .inl (y 0, 7, .inl powF)), MB mo ad 0 0 0 0 0 0 0 (-1) 0 0 0 0 0 0 0 0 0 0 1 0, (ad 43, .inl (y 0, 8, .inl (fun _ => 0)))]) rfl ?_
      refine j_st (st' := [.int 0, .int 0]) rfl ?_
      refine j_icmp_geT (pc := 132) C (tgt := 161) d_Model_takesBest_132 (by decide) (by decide) ?_
      refine j_iinc (pc := 161) C (v := 1) (lv' := [(8, .int 1), (10, .int 0), (6, .int 0), (7, .int 1), (9, .int 0), (5, .int (-1)), (4, .int (nI ((3 ^ a - 1) / 2 + b))), (0, .ref mo), (1, .int (nI a)), (2, .int (nI b)), (3, .int tg)]) d_Model_takesBest_161 4 rfl (by decide) (by decide) rfl ?_
      refine j_goto (pc := 164) C (tgt := 41) d_Model_takesBest_164 (by decide) ?_
      refine j_iload (pc := 41) C d_Model_takesBest_41 0 rfl ?_
      refine j_iconst (pc := 43) C (v := 2) d_Model_takesBest_43 (by decide) ?_
      refine j_icmp_gtF (pc := 44) C (tgt := 167) d_Model_takesBest_44 (by decide) (by decide) ?_
      refine j_aload_n (pc := 47) C d_Model_takesBest_47 rfl 7 rfl ?_
      refine j_iload_n (pc := 48) C d_Model_takesBest_48 rfl 8 rfl ?_
      refine j_iload_n (pc := 49) C d_Model_takesBest_49 rfl 9 rfl ?_
      refine j_iload (pc := 50) C d_Model_takesBest_50 0 rfl ?_
      refine j_callVi (pc := 52) C (c_M_isGot_n l D y mo ad a b u7 1 (by omega) (by decide)) kw_Model_504 kv_Model_isGot 0 10 rfl rfl ⟨by decide, by decide⟩ ⟨by decide, by decide⟩ (wr := [(ad 71, .inl (y 0, 1093, .inl (fun _ => 0)))]) [5, 6, 1, 2, 3, 4] [0] rfl rfl (by decide) (by decide) (by decide) (As := [.int (nI a), .int (nI b), .int 1]) (rest := []) rfl (nb rfl) rfl d_Model_takesBest_52 (fun r11 u12 hr11 => ?_)
      subst hr11
      refine j_ws (ws' := [(ad 71, .inl (y 0, 1093, .inl (fun _ => 0))), MB mo ad 0 0 0 0 0 0 0 (-1) 0 0 0 0 0 0 0 0 0 0 1 0, (ad 43, .inl (y 0, 8, .inl (fun _ => 0))), (ad 62, .inl (y 0, 63, .inl (dayF u12))), (ad 45, .inl (y 0, 14, .inl lakeF)), (ad 68, .inl (y 0, 63, .inl (dayF 0))), (ad 72, .inl (y 0, 7, .inl powF))]) rfl ?_
      refine j_if_neF (pc := 55) C (tgt := 61) d_Model_takesBest_55 (by decide) (by decide) ?_
      refine j_goto (pc := 58) C (tgt := 161) d_Model_takesBest_58 (by decide) ?_
      refine j_iinc (pc := 161) C (v := 2) (lv' := [(8, .int 2), (10, .int 0), (6, .int 0), (7, .int 1), (9, .int 0), (5, .int (-1)), (4, .int (nI ((3 ^ a - 1) / 2 + b))), (0, .ref mo), (1, .int (nI a)), (2, .int (nI b)), (3, .int tg)]) d_Model_takesBest_161 0 rfl (by decide) (by decide) rfl ?_
      refine j_goto (pc := 164) C (tgt := 41) d_Model_takesBest_164 (by decide) ?_
      refine j_iload (pc := 41) C d_Model_takesBest_41 0 rfl ?_
      refine j_iconst (pc := 43) C (v := 2) d_Model_takesBest_43 (by decide) ?_
      refine j_icmp_gtF (pc := 44) C (tgt := 167) d_Model_takesBest_44 (by decide) (by decide) ?_
      refine j_aload_n (pc := 47) C d_Model_takesBest_47 rfl 7 rfl ?_
      refine j_iload_n (pc := 48) C d_Model_takesBest_48 rfl 8 rfl ?_
      refine j_iload_n (pc := 49) C d_Model_takesBest_49 rfl 9 rfl ?_
      refine j_iload (pc := 50) C d_Model_takesBest_50 0 rfl ?_
      refine j_callVi (pc := 52) C (c_M_isGot_n l D y mo ad a b u12 2 (by omega) (by decide)) kw_Model_504 kv_Model_isGot 0 10 rfl rfl ⟨by decide, by decide⟩ ⟨by decide, by decide⟩ (wr := [(ad 71, .inl (y 0, 1093, .inl (fun _ => 0)))]) [1, 2, 3, 4, 5, 6] [0] rfl rfl (by decide) (by decide) (by decide) (As := [.int (nI a), .int (nI b), .int 2]) (rest := []) rfl (nb rfl) rfl d_Model_takesBest_52 (fun r13 u14 hr13 => ?_)
      subst hr13
      refine j_ws (ws' := [(ad 71, .inl (y 0, 1093, .inl (fun _ => 0))), MB mo ad 0 0 0 0 0 0 0 (-1) 0 0 0 0 0 0 0 0 0 0 1 0, (ad 43, .inl (y 0, 8, .inl (fun _ => 0))), (ad 62, .inl (y 0, 63, .inl (dayF u14))), (ad 45, .inl (y 0, 14, .inl lakeF)), (ad 68, .inl (y 0, 63, .inl (dayF 0))), (ad 72, .inl (y 0, 7, .inl powF))]) rfl ?_
      refine j_if_neF (pc := 55) C (tgt := 61) d_Model_takesBest_55 (by decide) (by decide) ?_
      refine j_goto (pc := 58) C (tgt := 161) d_Model_takesBest_58 (by decide) ?_
      refine j_iinc (pc := 161) C (v := 3) (lv' := [(8, .int 3), (10, .int 0), (6, .int 0), (7, .int 1), (9, .int 0), (5, .int (-1)), (4, .int (nI ((3 ^ a - 1) / 2 + b))), (0, .ref mo), (1, .int (nI a)), (2, .int (nI b)), (3, .int tg)]) d_Model_takesBest_161 0 rfl (by decide) (by decide) rfl ?_
      refine j_goto (pc := 164) C (tgt := 41) d_Model_takesBest_164 (by decide) ?_
      refine j_iload (pc := 41) C d_Model_takesBest_41 0 rfl ?_
      refine j_iconst (pc := 43) C (v := 2) d_Model_takesBest_43 (by decide) ?_
      refine j_icmp_gtT (pc := 44) C (tgt := 167) d_Model_takesBest_44 (by decide) (by decide) ?_
      exact j_vret (pc := 167) C hr u14 trivial [1, 2, 3, 4, 5, 6, 0] rfl (by decide) (by decide) (by decide) d_Model_takesBest_167
    · refine j_goto (pc := 58) C (tgt := 161) d_Model_takesBest_58 (by decide) ?_
      refine j_iinc (pc := 161) C (v := 1) (lv' := [(8, .int 1), (7, .int 0), (6, .int 0), (5, .int (-1)), (4, .int (nI ((3 ^ a - 1) / 2 + b))), (0, .ref mo), (1, .int (nI a)), (2, .int (nI b)), (3, .int tg)]) d_Model_takesBest_161 0 rfl (by decide) (by decide) rfl ?_
      refine j_goto (pc := 164) C (tgt := 41) d_Model_takesBest_164 (by decide) ?_
      refine j_iload (pc := 41) C d_Model_takesBest_41 0 rfl ?_
      refine j_iconst (pc := 43) C (v := 2) d_Model_takesBest_43 (by decide) ?_
      refine j_icmp_gtF (pc := 44) C (tgt := 167) d_Model_takesBest_44 (by decide) (by decide) ?_
      refine j_aload_n (pc := 47) C d_Model_takesBest_47 rfl 5 rfl ?_
      refine j_iload_n (pc := 48) C d_Model_takesBest_48 rfl 6 rfl ?_
      refine j_iload_n (pc := 49) C d_Model_takesBest_49 rfl 7 rfl ?_
      refine j_iload (pc := 50) C d_Model_takesBest_50 0 rfl ?_
      refine j_callVi (pc := 52) C (c_M_isGot_n l D y mo ad a b u7 1 (by omega) (by decide)) kw_Model_504 kv_Model_isGot 0 10 rfl rfl ⟨by decide, by decide⟩ ⟨by decide, by decide⟩ (wr := [(ad 71, .inl (y 0, 1093, .inl (fun _ => 0)))]) [1, 2, 3, 4, 5, 6] [0] rfl rfl (by decide) (by decide) (by decide) (As := [.int (nI a), .int (nI b), .int 1]) (rest := []) rfl (nb rfl) rfl d_Model_takesBest_52 (fun r15 u16 hr15 => ?_)
      subst hr15
      refine j_ws (ws' := [(ad 71, .inl (y 0, 1093, .inl (fun _ => 0))), MB mo ad 0 0 0 0 0 0 0 (-1) 0 0 0 0 0 0 0 0 0 0 1 0, (ad 43, .inl (y 0, 8, .inl (fun _ => 0))), (ad 62, .inl (y 0, 63, .inl (dayF u16))), (ad 45, .inl (y 0, 14, .inl lakeF)), (ad 68, .inl (y 0, 63, .inl (dayF 0))), (ad 72, .inl (y 0, 7, .inl powF))]) rfl ?_
      refine j_if_neF (pc := 55) C (tgt := 61) d_Model_takesBest_55 (by decide) (by decide) ?_
      refine j_goto (pc := 58) C (tgt := 161) d_Model_takesBest_58 (by decide) ?_
      refine j_iinc (pc := 161) C (v := 2) (lv' := [(8, .int 2), (7, .int 0), (6, .int 0), (5, .int (-1)), (4, .int (nI ((3 ^ a - 1) / 2 + b))), (0, .ref mo), (1, .int (nI a)), (2, .int (nI b)), (3, .int tg)]) d_Model_takesBest_161 0 rfl (by decide) (by decide) rfl ?_
      refine j_goto (pc := 164) C (tgt := 41) d_Model_takesBest_164 (by decide) ?_
      refine j_iload (pc := 41) C d_Model_takesBest_41 0 rfl ?_
      refine j_iconst (pc := 43) C (v := 2) d_Model_takesBest_43 (by decide) ?_
      refine j_icmp_gtF (pc := 44) C (tgt := 167) d_Model_takesBest_44 (by decide) (by decide) ?_
      refine j_aload_n (pc := 47) C d_Model_takesBest_47 rfl 5 rfl ?_
      refine j_iload_n (pc := 48) C d_Model_takesBest_48 rfl 6 rfl ?_
      refine j_iload_n (pc := 49) C d_Model_takesBest_49 rfl 7 rfl ?_
      refine j_iload (pc := 50) C d_Model_takesBest_50 0 rfl ?_
      refine j_callVi (pc := 52) C (c_M_isGot_n l D y mo ad a b u16 2 (by omega) (by decide)) kw_Model_504 kv_Model_isGot 0 10 rfl rfl ⟨by decide, by decide⟩ ⟨by decide, by decide⟩ (wr := [(ad 71, .inl (y 0, 1093, .inl (fun _ => 0)))]) [1, 2, 3, 4, 5, 6] [0] rfl rfl (by decide) (by decide) (by decide) (As := [.int (nI a), .int (nI b), .int 2]) (rest := []) rfl (nb rfl) rfl d_Model_takesBest_52 (fun r17 u18 hr17 => ?_)
      subst hr17
      refine j_ws (ws' := [(ad 71, .inl (y 0, 1093, .inl (fun _ => 0))), MB mo ad 0 0 0 0 0 0 0 (-1) 0 0 0 0 0 0 0 0 0 0 1 0, (ad 43, .inl (y 0, 8, .inl (fun _ => 0))), (ad 62, .inl (y 0, 63, .inl (dayF u18))), (ad 45, .inl (y 0, 14, .inl lakeF)), (ad 68, .inl (y 0, 63, .inl (dayF 0))), (ad 72, .inl (y 0, 7, .inl powF))]) rfl ?_
      refine j_if_neF (pc := 55) C (tgt := 61) d_Model_takesBest_55 (by decide) (by decide) ?_
      refine j_goto (pc := 58) C (tgt := 161) d_Model_takesBest_58 (by decide) ?_
      refine j_iinc (pc := 161) C (v := 3) (lv' := [(8, .int 3), (7, .int 0), (6, .int 0), (5, .int (-1)), (4, .int (nI ((3 ^ a - 1) / 2 + b))), (0, .ref mo), (1, .int (nI a)), (2, .int (nI b)), (3, .int tg)]) d_Model_takesBest_161 0 rfl (by decide) (by decide) rfl ?_
      refine j_goto (pc := 164) C (tgt := 41) d_Model_takesBest_164 (by decide) ?_
      refine j_iload (pc := 41) C d_Model_takesBest_41 0 rfl ?_
      refine j_iconst (pc := 43) C (v := 2) d_Model_takesBest_43 (by decide) ?_
      refine j_icmp_gtT (pc := 44) C (tgt := 167) d_Model_takesBest_44 (by decide) (by decide) ?_
      exact j_vret (pc := 167) C hr u18 trivial [1, 2, 3, 4, 5, 6, 0] rfl (by decide) (by decide) (by decide) d_Model_takesBest_167
  · exact j_vret (pc := 25) C hr u3 trivial [1, 2, 3, 4, 5, 6, 0] rfl (by decide) (by decide) (by decide) d_Model_takesBest_25
theorem d_Model_plans_6 : decode prog_13_method_90_code 6 = .ok (.iload_n 3, 1) := by decide +kernel
theorem d_Model_plans_7 : decode prog_13_method_90_code 7 = .ok (.aload_n 0, 1) := by decide +kernel
theorem d_Model_plans_8 : decode prog_13_method_90_code 8 = .ok (.getfield 179, 3) := by decide +kernel
theorem d_Model_plans_11 : decode prog_13_method_90_code 11 = .ok (.iload_n 1, 1) := by decide +kernel
theorem d_Model_plans_12 : decode prog_13_method_90_code 12 = .ok (.iaload, 1) := by decide +kernel
theorem d_Model_plans_13 : decode prog_13_method_90_code 13 = .ok (.if_icmp .ge 43, 3) := by decide +kernel
theorem d_Model_plans_16 : decode prog_13_method_90_code 16 = .ok (.iconst 0, 1) := by decide +kernel
theorem d_Model_plans_17 : decode prog_13_method_90_code 17 = .ok (.istore 4, 2) := by decide +kernel
theorem d_Model_plans_19 : decode prog_13_method_90_code 19 = .ok (.iload 4, 2) := by decide +kernel
theorem d_Model_plans_21 : decode prog_13_method_90_code 21 = .ok (.bipush 6, 2) := by decide +kernel
theorem d_Model_plans_23 : decode prog_13_method_90_code 23 = .ok (.if_icmp .ge 27, 3) := by decide +kernel
theorem d_Model_plans_26 : decode prog_13_method_90_code 26 = .ok (.aload_n 0, 1) := by decide +kernel
theorem d_Model_plans_27 : decode prog_13_method_90_code 27 = .ok (.getfield 173, 3) := by decide +kernel
theorem gf_Model_173 : GF "NineBoardsModel" 173 10 70 := ⟨_, _, _, rfl, ci_Model, by decide, (mt_5 (List.mem_of_getElem? (i := 158) rfl) rfl)⟩
theorem d_Model_plans_30 : decode prog_13_method_90_code 30 = .ok (.bipush 6, 2) := by decide +kernel
theorem d_Model_plans_32 : decode prog_13_method_90_code 32 = .ok (.aload_n 0, 1) := by decide +kernel
theorem d_Model_plans_33 : decode prog_13_method_90_code 33 = .ok (.iload_n 1, 1) := by decide +kernel
theorem d_Model_plans_34 : decode prog_13_method_90_code 34 = .ok (.iload_n 3, 1) := by decide +kernel
theorem d_Model_plans_35 : decode prog_13_method_90_code 35 = .ok (.invokevirtual 501, 3) := by decide +kernel
theorem d_Model_plans_38 : decode prog_13_method_90_code 38 = .ok (.imul, 1) := by decide +kernel
theorem d_Model_plans_39 : decode prog_13_method_90_code 39 = .ok (.iload 4, 2) := by decide +kernel
theorem d_Model_plans_41 : decode prog_13_method_90_code 41 = .ok (.iadd, 1) := by decide +kernel
theorem d_Model_plans_42 : decode prog_13_method_90_code 42 = .ok (.iconst 0, 1) := by decide +kernel
theorem d_Model_plans_43 : decode prog_13_method_90_code 43 = .ok (.iastore, 1) := by decide +kernel
theorem d_Model_plans_44 : decode prog_13_method_90_code 44 = .ok (.iinc 4 1, 3) := by decide +kernel
theorem d_Model_plans_47 : decode prog_13_method_90_code 47 = .ok (.goto (-28), 3) := by decide +kernel
theorem d_Model_plans_50 : decode prog_13_method_90_code 50 = .ok (.iinc 3 1, 3) := by decide +kernel
theorem d_Model_plans_53 : decode prog_13_method_90_code 53 = .ok (.goto (-47), 3) := by decide +kernel
theorem d_Model_plans_67 : decode prog_13_method_90_code 67 = .ok (.iload 4, 2) := by decide +kernel
theorem d_Model_plans_69 : decode prog_13_method_90_code 69 = .ok (.aload_n 0, 1) := by decide +kernel
theorem d_Model_plans_70 : decode prog_13_method_90_code 70 = .ok (.getfield 179, 3) := by decide +kernel
theorem d_Model_plans_73 : decode prog_13_method_90_code 73 = .ok (.iload_n 3, 1) := by decide +kernel
theorem d_Model_plans_74 : decode prog_13_method_90_code 74 = .ok (.iaload, 1) := by decide +kernel
theorem d_Model_plans_75 : decode prog_13_method_90_code 75 = .ok (.if_icmp .ge 17, 3) := by decide +kernel
theorem d_Model_plans_78 : decode prog_13_method_90_code 78 = .ok (.aload_n 0, 1) := by decide +kernel
theorem d_Model_plans_79 : decode prog_13_method_90_code 79 = .ok (.iload_n 3, 1) := by decide +kernel
theorem d_Model_plans_80 : decode prog_13_method_90_code 80 = .ok (.iload 4, 2) := by decide +kernel
theorem d_Model_plans_82 : decode prog_13_method_90_code 82 = .ok (.iload_n 2, 1) := by decide +kernel
theorem d_Model_plans_83 : decode prog_13_method_90_code 83 = .ok (.invokevirtual 513, 3) := by decide +kernel
theorem kw_Model_513 : KW "NineBoardsModel" 513 ⟨"NineBoardsModel", "takesBest", "(IIZ)V"⟩ prog_13_method_89_code 11 none 3 := ⟨(mt_7 (List.mem_of_getElem? (i := 202) rfl) rfl), (mt_1 (List.mem_of_getElem? (i := 16) rfl) rfl), (mt_7 (List.mem_of_getElem? (i := 205) rfl) rfl), by decide +kernel⟩
theorem kv_Model_takesBest : Cond.instanceMethod ⟨"NineBoardsModel", "takesBest", "(IIZ)V"⟩ ∈ TB ∧ Cond.selects "NineBoardsModel" ⟨"NineBoardsModel", "takesBest", "(IIZ)V"⟩ ⟨"NineBoardsModel", "takesBest", "(IIZ)V"⟩ ∈ TB := ⟨(mt_7 (List.mem_of_getElem? (i := 204) rfl) rfl), (ms_0 (List.mem_map.mpr ⟨(⟨"NineBoardsModel", "takesBest", "(IIZ)V"⟩, 79), List.mem_of_getElem? (i := 114) (by decide +kernel), rfl⟩) rfl)⟩
theorem d_Model_plans_86 : decode prog_13_method_90_code 86 = .ok (.iinc 4 1, 3) := by decide +kernel
theorem d_Model_plans_89 : decode prog_13_method_90_code 89 = .ok (.goto (-22), 3) := by decide +kernel
theorem d_Model_plans_60 : decode prog_13_method_90_code 60 = .ok (.iload_n 3, 1) := by decide +kernel
theorem d_Model_plans_61 : decode prog_13_method_90_code 61 = .ok (.ifCond .lt 37, 3) := by decide +kernel
theorem d_Model_plans_64 : decode prog_13_method_90_code 64 = .ok (.iconst 0, 1) := by decide +kernel
theorem d_Model_plans_65 : decode prog_13_method_90_code 65 = .ok (.istore 4, 2) := by decide +kernel
theorem d_Model_plans_92 : decode prog_13_method_90_code 92 = .ok (.iinc 3 (-1), 3) := by decide +kernel
theorem d_Model_plans_95 : decode prog_13_method_90_code 95 = .ok (.goto (-35), 3) := by decide +kernel
theorem d_Model_plans_0 : decode prog_13_method_90_code 0 = .ok (.aload_n 0, 1) := by decide +kernel
theorem d_Model_plans_1 : decode prog_13_method_90_code 1 = .ok (.invokevirtual 510, 3) := by decide +kernel
theorem d_Model_plans_4 : decode prog_13_method_90_code 4 = .ok (.iconst 0, 1) := by decide +kernel
theorem d_Model_plans_5 : decode prog_13_method_90_code 5 = .ok (.istore_n 3, 1) := by decide +kernel
theorem d_Model_plans_56 : decode prog_13_method_90_code 56 = .ok (.iload_n 1, 1) := by decide +kernel
theorem d_Model_plans_57 : decode prog_13_method_90_code 57 = .ok (.iconst 1, 1) := by decide +kernel
theorem d_Model_plans_58 : decode prog_13_method_90_code 58 = .ok (.isub, 1) := by decide +kernel
theorem d_Model_plans_59 : decode prog_13_method_90_code 59 = .ok (.istore_n 3, 1) := by decide +kernel
theorem d_Model_plans_98 : decode prog_13_method_90_code 98 = .ok (.aload_n 0, 1) := by decide +kernel
theorem d_Model_plans_99 : decode prog_13_method_90_code 99 = .ok (.invokevirtual 495, 3) := by decide +kernel
theorem d_Model_plans_102 : decode prog_13_method_90_code 102 = .ok (.return_, 1) := by decide +kernel
set_option maxHeartbeats 4000000 in
set_option maxRecDepth 100000 in
theorem lp_M_p1 {p : Program} {l : Launch} {e : Env} {s : State} {m : MethodId} {args : Array Value} {below : List Frame} {meth : Method} {c : Code} {Q : State → Prop} {D : va_G} {y : Nat → ClassId} {A : Nat → Prop} (C : Cx p s m args meth c D y A prog_13_method_90_code 5 "NineBoardsModel" "plans") (mo : Nat) (ad : Nat → Nat) (N : Nat) (hN : N ≤ 6) (tg : Int32) (kx : J p l e ({ frames := 6, cells := 0, slots := 0, locals := 150 } : Room) s m args below meth c Q D A 5 [MB mo ad 0 0 0 0 0 0 0 (-1) 0 0 0 0 0 0 0 0 0 0 1 0, (ad 43, .inl (y 0, 8, .inl (fun _ => 0))), (ad 62, .inl (y 0, 63, .inl (dayF 0))), (ad 45, .inl (y 0, 14, .inl lakeF)), (ad 68, .inl (y 0, 63, .inl (dayF 0))), (ad 72, .inl (y 0, 7, .inl powF)), (ad 71, .inl (y 0, 1093, .inl (fun _ => 0))), (ad 70, .inl (y 0, 6558, .inl (fun _ => 0)))] [(0, .ref mo), (1, .int (nI N)), (2, .int tg)] 0 0 56 []) : ∀ (n : Nat) (b : Nat), (b + n = 3 ^ N) → J p l e ({ frames := 6, cells := 0, slots := 0, locals := 150 } : Room) s m args below meth c Q D A 5 [MB mo ad 0 0 0 0 0 0 0 (-1) 0 0 0 0 0 0 0 0 0 0 1 0, (ad 43, .inl (y 0, 8, .inl (fun _ => 0))), (ad 62, .inl (y 0, 63, .inl (dayF 0))), (ad 45, .inl (y 0, 14, .inl lakeF)), (ad 68, .inl (y 0, 63, .inl (dayF 0))), (ad 72, .inl (y 0, 7, .inl powF)), (ad 71, .inl (y 0, 1093, .inl (fun _ => 0))), (ad 70, .inl (y 0, 6558, .inl (fun _ => 0)))] [(0, .ref mo), (1, .int (nI N)), (2, .int tg), (3, .int (nI b))] 0 0 6 [] := by
  intro n
  induction n with
  | zero =>
    intro b hb
    obtain rfl : b = 3 ^ N := by omega
    refine j_iload_n (pc := 6) C d_Model_plans_6 rfl 3 rfl ?_
    refine j_aload_n (pc := 7) C d_Model_plans_7 rfl 0 rfl ?_
    refine j_get (pc := 8) C gf_Model_179 0 rfl rfl d_Model_plans_8 ?_
    refine j_iload_n (pc := 11) C d_Model_plans_11 rfl 1 rfl ?_
    refine j_iald (pc := 12) C 5 rfl (v := nI (3 ^ N)) (vp_in_nI (by omega) (by decide)) (by rw [nI_clamp (by omega)]; rfl) d_Model_plans_12 ?_
    refine j_icmp_geT (pc := 13) C (tgt := 56) d_Model_plans_13 (by decide) (Int32.le_refl _) ?_
    refine j_locs (lv' := [(0, .ref mo), (1, .int (nI N)), (2, .int tg)]) [0, 1, 2] rfl ?_
    exact kx
  | succ n ih =>
    intro b hb
    have h3 := p3_le hN
    refine j_iload_n (pc := 6) C d_Model_plans_6 rfl 3 rfl ?_
    refine j_aload_n (pc := 7) C d_Model_plans_7 rfl 0 rfl ?_
    refine j_get (pc := 8) C gf_Model_179 0 rfl rfl d_Model_plans_8 ?_
    refine j_iload_n (pc := 11) C d_Model_plans_11 rfl 1 rfl ?_
    refine j_iald (pc := 12) C 5 rfl (v := nI (3 ^ N)) (vp_in_nI (by omega) (by decide)) (by rw [nI_clamp (by omega)]; rfl) d_Model_plans_12 ?_
    refine j_icmp_geF (pc := 13) C (tgt := 56) d_Model_plans_13 (by decide) (nI_ge (by omega) (by omega)) ?_
    refine j_iconst (pc := 16) C (v := 0) d_Model_plans_16 (by decide) ?_
    refine j_istore (pc := 17) C (lv' := [(4, .int 0), (0, .ref mo), (1, .int (nI N)), (2, .int tg), (3, .int (nI b))]) d_Model_plans_17 (by decide) rfl ?_
    refine j_iload (pc := 19) C d_Model_plans_19 0 rfl ?_
    refine j_bipush (pc := 21) C (v := 6) d_Model_plans_21 (by decide) ?_
    refine j_icmp_geF (pc := 23) C (tgt := 50) d_Model_plans_23 (by decide) (by decide) ?_
    refine j_aload_n (pc := 26) C d_Model_plans_26 rfl 1 rfl ?_
    refine j_get (pc := 27) C gf_Model_173 0 rfl rfl d_Model_plans_27 ?_
    refine j_bipush (pc := 30) C (v := 6) d_Model_plans_30 (by decide) ?_
    refine j_aload_n (pc := 32) C d_Model_plans_32 rfl 1 rfl ?_
    refine j_iload_n (pc := 33) C d_Model_plans_33 rfl 2 rfl ?_
    refine j_iload_n (pc := 34) C d_Model_plans_34 rfl 4 rfl ?_
    refine j_callVi (pc := 35) C (c_M_placeOf l D y mo ad N b hN) kw_Model_501 kv_Model_placeOf 0 10 rfl rfl ⟨by decide, by decide⟩ ⟨by decide, by decide⟩ (wr := [(ad 43, .inl (y 0, 8, .inl (fun _ => 0))), (ad 62, .inl (y 0, 63, .inl (dayF 0))), (ad 45, .inl (y 0, 14, .inl lakeF)), (ad 68, .inl (y 0, 63, .inl (dayF 0))), (ad 71, .inl (y 0, 1093, .inl (fun _ => 0))), (ad 70, .inl (y 0, 6558, .inl (fun _ => 0)))]) [0, 5] [1, 2, 3, 4, 6, 7] rfl rfl (by decide) (by decide) (by decide) (As := [.int (nI N), .int (nI b)]) (rest := [.int 6, .ref (ad 70)]) rfl (nb rfl) rfl d_Model_plans_35 (fun r1 _ hr1 => ?_)
    subst hr1
    refine j_ws (ws' := [(ad 43, .inl (y 0, 8, .inl (fun _ => 0))), (ad 62, .inl (y 0, 63, .inl (dayF 0))), (ad 45, .inl (y 0, 14, .inl lakeF)), (ad 68, .inl (y 0, 63, .inl (dayF 0))), (ad 71, .inl (y 0, 1093, .inl (fun _ => 0))), (ad 70, .inl (y 0, 6558, .inl (fun _ => 0))), MB mo ad 0 0 0 0 0 0 0 (-1) 0 0 0 0 0 0 0 0 0 0 1 0, (ad 72, .inl (y 0, 7, .inl powF))]) rfl ?_
    refine j_st (st' := [.int (nI ((3 ^ N - 1) / 2 + b)), .int 6, .ref (ad 70)]) rfl ?_
    refine j_imul (pc := 38) C (v := nI (6 * ((3 ^ N - 1) / 2 + b))) d_Model_plans_38 (pk_mul 6 _) ?_
    refine j_iload (pc := 39) C d_Model_plans_39 0 rfl ?_
    refine j_iadd (pc := 41) C (v := nI (6 * ((3 ^ N - 1) / 2 + b) + 0)) d_Model_plans_41 (show nI _ + nI 0 = nI (_ + 0) from nI_add _ _) ?_
    refine j_iconst (pc := 42) C (v := 0) d_Model_plans_42 (by decide) ?_
    refine j_iast (pc := 43) C 5 rfl (ws' := [(ad 43, .inl (y 0, 8, .inl (fun _ => 0))), (ad 62, .inl (y 0, 63, .inl (dayF 0))), (ad 45, .inl (y 0, 14, .inl lakeF)), (ad 68, .inl (y 0, 63, .inl (dayF 0))), (ad 71, .inl (y 0, 1093, .inl (fun _ => 0))), (ad 70, .inl (y 0, 6558, .inl (fun _ => 0))), MB mo ad 0 0 0 0 0 0 0 (-1) 0 0 0 0 0 0 0 0 0 0 1 0, (ad 72, .inl (y 0, 7, .inl powF))]) (vp_in_nI (by have := pl_lt hN (show b < 3 ^ N by omega); omega) (by decide)) (by rw [up_z0]; rfl) d_Model_plans_43 ?_
    refine j_iinc (pc := 44) C (v := 1) (lv' := [(4, .int 1), (0, .ref mo), (1, .int (nI N)), (2, .int tg), (3, .int (nI b))]) d_Model_plans_44 0 rfl (by decide) (by decide) rfl ?_
    refine j_goto (pc := 47) C (tgt := 19) d_Model_plans_47 (by decide) ?_
    refine j_iload (pc := 19) C d_Model_plans_19 0 rfl ?_
    refine j_bipush (pc := 21) C (v := 6) d_Model_plans_21 (by decide) ?_
    refine j_icmp_geF (pc := 23) C (tgt := 50) d_Model_plans_23 (by decide) (by decide) ?_
    refine j_aload_n (pc := 26) C d_Model_plans_26 rfl 1 rfl ?_
    refine j_get (pc := 27) C gf_Model_173 6 rfl rfl d_Model_plans_27 ?_
    refine j_bipush (pc := 30) C (v := 6) d_Model_plans_30 (by decide) ?_
    refine j_aload_n (pc := 32) C d_Model_plans_32 rfl 1 rfl ?_
    refine j_iload_n (pc := 33) C d_Model_plans_33 rfl 2 rfl ?_
    refine j_iload_n (pc := 34) C d_Model_plans_34 rfl 4 rfl ?_
    refine j_callVi (pc := 35) C (c_M_placeOf l D y mo ad N b hN) kw_Model_501 kv_Model_placeOf 0 10 rfl rfl ⟨by decide, by decide⟩ ⟨by decide, by decide⟩ (wr := [(ad 43, .inl (y 0, 8, .inl (fun _ => 0))), (ad 62, .inl (y 0, 63, .inl (dayF 0))), (ad 45, .inl (y 0, 14, .inl lakeF)), (ad 68, .inl (y 0, 63, .inl (dayF 0))), (ad 71, .inl (y 0, 1093, .inl (fun _ => 0))), (ad 70, .inl (y 0, 6558, .inl (fun _ => 0)))]) [6, 7] [0, 1, 2, 3, 4, 5] rfl rfl (by decide) (by decide) (by decide) (As := [.int (nI N), .int (nI b)]) (rest := [.int 6, .ref (ad 70)]) rfl (nb rfl) rfl d_Model_plans_35 (fun r2 _ hr2 => ?_)
    subst hr2
    refine j_ws (ws' := [(ad 43, .inl (y 0, 8, .inl (fun _ => 0))), (ad 62, .inl (y 0, 63, .inl (dayF 0))), (ad 45, .inl (y 0, 14, .inl lakeF)), (ad 68, .inl (y 0, 63, .inl (dayF 0))), (ad 71, .inl (y 0, 1093, .inl (fun _ => 0))), (ad 70, .inl (y 0, 6558, .inl (fun _ => 0))), MB mo ad 0 0 0 0 0 0 0 (-1) 0 0 0 0 0 0 0 0 0 0 1 0, (ad 72, .inl (y 0, 7, .inl powF))]) rfl ?_
    refine j_st (st' := [.int (nI ((3 ^ N - 1) / 2 + b)), .int 6, .ref (ad 70)]) rfl ?_
    refine j_imul (pc := 38) C (v := nI (6 * ((3 ^ N - 1) / 2 + b))) d_Model_plans_38 (pk_mul 6 _) ?_
    refine j_iload (pc := 39) C d_Model_plans_39 0 rfl ?_
    refine j_iadd (pc := 41) C (v := nI (6 * ((3 ^ N - 1) / 2 + b) + 1)) d_Model_plans_41 (show nI _ + nI 1 = nI (_ + 1) from nI_add _ _) ?_
    refine j_iconst (pc := 42) C (v := 0) d_Model_plans_42 (by decide) ?_
    refine j_iast (pc := 43) C 5 rfl (ws' := [(ad 43, .inl (y 0, 8, .inl (fun _ => 0))), (ad 62, .inl (y 0, 63, .inl (dayF 0))), (ad 45, .inl (y 0, 14, .inl lakeF)), (ad 68, .inl (y 0, 63, .inl (dayF 0))), (ad 71, .inl (y 0, 1093, .inl (fun _ => 0))), (ad 70, .inl (y 0, 6558, .inl (fun _ => 0))), MB mo ad 0 0 0 0 0 0 0 (-1) 0 0 0 0 0 0 0 0 0 0 1 0, (ad 72, .inl (y 0, 7, .inl powF))]) (vp_in_nI (by have := pl_lt hN (show b < 3 ^ N by omega); omega) (by decide)) (by rw [up_z0]; rfl) d_Model_plans_43 ?_
    refine j_iinc (pc := 44) C (v := 2) (lv' := [(4, .int 2), (0, .ref mo), (1, .int (nI N)), (2, .int tg), (3, .int (nI b))]) d_Model_plans_44 0 rfl (by decide) (by decide) rfl ?_
    refine j_goto (pc := 47) C (tgt := 19) d_Model_plans_47 (by decide) ?_
    refine j_iload (pc := 19) C d_Model_plans_19 0 rfl ?_
    refine j_bipush (pc := 21) C (v := 6) d_Model_plans_21 (by decide) ?_
    refine j_icmp_geF (pc := 23) C (tgt := 50) d_Model_plans_23 (by decide) (by decide) ?_
    refine j_aload_n (pc := 26) C d_Model_plans_26 rfl 1 rfl ?_
    refine j_get (pc := 27) C gf_Model_173 6 rfl rfl d_Model_plans_27 ?_
    refine j_bipush (pc := 30) C (v := 6) d_Model_plans_30 (by decide) ?_
    refine j_aload_n (pc := 32) C d_Model_plans_32 rfl 1 rfl ?_
    refine j_iload_n (pc := 33) C d_Model_plans_33 rfl 2 rfl ?_
    refine j_iload_n (pc := 34) C d_Model_plans_34 rfl 4 rfl ?_
    refine j_callVi (pc := 35) C (c_M_placeOf l D y mo ad N b hN) kw_Model_501 kv_Model_placeOf 0 10 rfl rfl ⟨by decide, by decide⟩ ⟨by decide, by decide⟩ (wr := [(ad 43, .inl (y 0, 8, .inl (fun _ => 0))), (ad 62, .inl (y 0, 63, .inl (dayF 0))), (ad 45, .inl (y 0, 14, .inl lakeF)), (ad 68, .inl (y 0, 63, .inl (dayF 0))), (ad 71, .inl (y 0, 1093, .inl (fun _ => 0))), (ad 70, .inl (y 0, 6558, .inl (fun _ => 0)))]) [6, 7] [0, 1, 2, 3, 4, 5] rfl rfl (by decide) (by decide) (by decide) (As := [.int (nI N), .int (nI b)]) (rest := [.int 6, .ref (ad 70)]) rfl (nb rfl) rfl d_Model_plans_35 (fun r3 _ hr3 => ?_)
    subst hr3
    refine j_ws (ws' := [(ad 43, .inl (y 0, 8, .inl (fun _ => 0))), (ad 62, .inl (y 0, 63, .inl (dayF 0))), (ad 45, .inl (y 0, 14, .inl lakeF)), (ad 68, .inl (y 0, 63, .inl (dayF 0))), (ad 71, .inl (y 0, 1093, .inl (fun _ => 0))), (ad 70, .inl (y 0, 6558, .inl (fun _ => 0))), MB mo ad 0 0 0 0 0 0 0 (-1) 0 0 0 0 0 0 0 0 0 0 1 0, (ad 72, .inl (y 0, 7, .inl powF))]) rfl ?_
    refine j_st (st' := [.int (nI ((3 ^ N - 1) / 2 + b)), .int 6, .ref (ad 70)]) rfl ?_
    refine j_imul (pc := 38) C (v := nI (6 * ((3 ^ N - 1) / 2 + b))) d_Model_plans_38 (pk_mul 6 _) ?_
    refine j_iload (pc := 39) C d_Model_plans_39 0 rfl ?_
    refine j_iadd (pc := 41) C (v := nI (6 * ((3 ^ N - 1) / 2 + b) + 2)) d_Model_plans_41 (show nI _ + nI 2 = nI (_ + 2) from nI_add _ _) ?_
    refine j_iconst (pc := 42) C (v := 0) d_Model_plans_42 (by decide) ?_
    refine j_iast (pc := 43) C 5 rfl (ws' := [(ad 43, .inl (y 0, 8, .inl (fun _ => 0))), (ad 62, .inl (y 0, 63, .inl (dayF 0))), (ad 45, .inl (y 0, 14, .inl lakeF)), (ad 68, .inl (y 0, 63, .inl (dayF 0))), (ad 71, .inl (y 0, 1093, .inl (fun _ => 0))), (ad 70, .inl (y 0, 6558, .inl (fun _ => 0))), MB mo ad 0 0 0 0 0 0 0 (-1) 0 0 0 0 0 0 0 0 0 0 1 0, (ad 72, .inl (y 0, 7, .inl powF))]) (vp_in_nI (by have := pl_lt hN (show b < 3 ^ N by omega); omega) (by decide)) (by rw [up_z0]; rfl) d_Model_plans_43 ?_
    refine j_iinc (pc := 44) C (v := 3) (lv' := [(4, .int 3), (0, .ref mo), (1, .int (nI N)), (2, .int tg), (3, .int (nI b))]) d_Model_plans_44 0 rfl (by decide) (by decide) rfl ?_
    refine j_goto (pc := 47) C (tgt := 19) d_Model_plans_47 (by decide) ?_
    refine j_iload (pc := 19) C d_Model_plans_19 0 rfl ?_
    refine j_bipush (pc := 21) C (v := 6) d_Model_plans_21 (by decide) ?_
    refine j_icmp_geF (pc := 23) C (tgt := 50) d_Model_plans_23 (by decide) (by decide) ?_
    refine j_aload_n (pc := 26) C d_Model_plans_26 rfl 1 rfl ?_
    refine j_get (pc := 27) C gf_Model_173 6 rfl rfl d_Model_plans_27 ?_
    refine j_bipush (pc := 30) C (v := 6) d_Model_plans_30 (by decide) ?_
    refine j_aload_n (pc := 32) C d_Model_plans_32 rfl 1 rfl ?_
    refine j_iload_n (pc := 33) C d_Model_plans_33 rfl 2 rfl ?_
    refine j_iload_n (pc := 34) C d_Model_plans_34 rfl 4 rfl ?_
    refine j_callVi (pc := 35) C (c_M_placeOf l D y mo ad N b hN) kw_Model_501 kv_Model_placeOf 0 10 rfl rfl ⟨by decide, by decide⟩ ⟨by decide, by decide⟩ (wr := [(ad 43, .inl (y 0, 8, .inl (fun _ => 0))), (ad 62, .inl (y 0, 63, .inl (dayF 0))), (ad 45, .inl (y 0, 14, .inl lakeF)), (ad 68, .inl (y 0, 63, .inl (dayF 0))), (ad 71, .inl (y 0, 1093, .inl (fun _ => 0))), (ad 70, .inl (y 0, 6558, .inl (fun _ => 0)))]) [6, 7] [0, 1, 2, 3, 4, 5] rfl rfl (by decide) (by decide) (by decide) (As := [.int (nI N), .int (nI b)]) (rest := [.int 6, .ref (ad 70)]) rfl (nb rfl) rfl d_Model_plans_35 (fun r4 _ hr4 => ?_)
    subst hr4
    refine j_ws (ws' := [(ad 43, .inl (y 0, 8, .inl (fun _ => 0))), (ad 62, .inl (y 0, 63, .inl (dayF 0))), (ad 45, .inl (y 0, 14, .inl lakeF)), (ad 68, .inl (y 0, 63, .inl (dayF 0))), (ad 71, .inl (y 0, 1093, .inl (fun _ => 0))), (ad 70, .inl (y 0, 6558, .inl (fun _ => 0))), MB mo ad 0 0 0 0 0 0 0 (-1) 0 0 0 0 0 0 0 0 0 0 1 0, (ad 72, .inl (y 0, 7, .inl powF))]) rfl ?_
    refine j_st (st' := [.int (nI ((3 ^ N - 1) / 2 + b)), .int 6, .ref (ad 70)]) rfl ?_
    refine j_imul (pc := 38) C (v := nI (6 * ((3 ^ N - 1) / 2 + b))) d_Model_plans_38 (pk_mul 6 _) ?_
    refine j_iload (pc := 39) C d_Model_plans_39 0 rfl ?_
    refine j_iadd (pc := 41) C (v := nI (6 * ((3 ^ N - 1) / 2 + b) + 3)) d_Model_plans_41 (show nI _ + nI 3 = nI (_ + 3) from nI_add _ _) ?_
    refine j_iconst (pc := 42) C (v := 0) d_Model_plans_42 (by decide) ?_
    refine j_iast (pc := 43) C 5 rfl (ws' := [(ad 43, .inl (y 0, 8, .inl (fun _ => 0))), (ad 62, .inl (y 0, 63, .inl (dayF 0))), (ad 45, .inl (y 0, 14, .inl lakeF)), (ad 68, .inl (y 0, 63, .inl (dayF 0))), (ad 71, .inl (y 0, 1093, .inl (fun _ => 0))), (ad 70, .inl (y 0, 6558, .inl (fun _ => 0))), MB mo ad 0 0 0 0 0 0 0 (-1) 0 0 0 0 0 0 0 0 0 0 1 0, (ad 72, .inl (y 0, 7, .inl powF))]) (vp_in_nI (by have := pl_lt hN (show b < 3 ^ N by omega); omega) (by decide)) (by rw [up_z0]; rfl) d_Model_plans_43 ?_
    refine j_iinc (pc := 44) C (v := 4) (lv' := [(4, .int 4), (0, .ref mo), (1, .int (nI N)), (2, .int tg), (3, .int (nI b))]) d_Model_plans_44 0 rfl (by decide) (by decide) rfl ?_
    refine j_goto (pc := 47) C (tgt := 19) d_Model_plans_47 (by decide) ?_
    refine j_iload (pc := 19) C d_Model_plans_19 0 rfl ?_
    refine j_bipush (pc := 21) C (v := 6) d_Model_plans_21 (by decide) ?_
    refine j_icmp_geF (pc := 23) C (tgt := 50) d_Model_plans_23 (by decide) (by decide) ?_
    refine j_aload_n (pc := 26) C d_Model_plans_26 rfl 1 rfl ?_
    refine j_get (pc := 27) C gf_Model_173 6 rfl rfl d_Model_plans_27 ?_
    refine j_bipush (pc := 30) C (v := 6) d_Model_plans_30 (by decide) ?_
    refine j_aload_n (pc := 32) C d_Model_plans_32 rfl 1 rfl ?_
    refine j_iload_n (pc := 33) C d_Model_plans_33 rfl 2 rfl ?_
    refine j_iload_n (pc := 34) C d_Model_plans_34 rfl 4 rfl ?_
    refine j_callVi (pc := 35) C (c_M_placeOf l D y mo ad N b hN) kw_Model_501 kv_Model_placeOf 0 10 rfl rfl ⟨by decide, by decide⟩ ⟨by decide, by decide⟩ (wr := [(ad 43, .inl (y 0, 8, .inl (fun _ => 0))), (ad 62, .inl (y 0, 63, .inl (dayF 0))), (ad 45, .inl (y 0, 14, .inl lakeF)), (ad 68, .inl (y 0, 63, .inl (dayF 0))), (ad 71, .inl (y 0, 1093, .inl (fun _ => 0))), (ad 70, .inl (y 0, 6558, .inl (fun _ => 0)))]) [6, 7] [0, 1, 2, 3, 4, 5] rfl rfl (by decide) (by decide) (by decide) (As := [.int (nI N), .int (nI b)]) (rest := [.int 6, .ref (ad 70)]) rfl (nb rfl) rfl d_Model_plans_35 (fun r5 _ hr5 => ?_)
    subst hr5
    refine j_ws (ws' := [(ad 43, .inl (y 0, 8, .inl (fun _ => 0))), (ad 62, .inl (y 0, 63, .inl (dayF 0))), (ad 45, .inl (y 0, 14, .inl lakeF)), (ad 68, .inl (y 0, 63, .inl (dayF 0))), (ad 71, .inl (y 0, 1093, .inl (fun _ => 0))), (ad 70, .inl (y 0, 6558, .inl (fun _ => 0))), MB mo ad 0 0 0 0 0 0 0 (-1) 0 0 0 0 0 0 0 0 0 0 1 0, (ad 72, .inl (y 0, 7, .inl powF))]) rfl ?_
    refine j_st (st' := [.int (nI ((3 ^ N - 1) / 2 + b)), .int 6, .ref (ad 70)]) rfl ?_
    refine j_imul (pc := 38) C (v := nI (6 * ((3 ^ N - 1) / 2 + b))) d_Model_plans_38 (pk_mul 6 _) ?_
    refine j_iload (pc := 39) C d_Model_plans_39 0 rfl ?_
    refine j_iadd (pc := 41) C (v := nI (6 * ((3 ^ N - 1) / 2 + b) + 4)) d_Model_plans_41 (show nI _ + nI 4 = nI (_ + 4) from nI_add _ _) ?_
    refine j_iconst (pc := 42) C (v := 0) d_Model_plans_42 (by decide) ?_
    refine j_iast (pc := 43) C 5 rfl (ws' := [(ad 43, .inl (y 0, 8, .inl (fun _ => 0))), (ad 62, .inl (y 0, 63, .inl (dayF 0))), (ad 45, .inl (y 0, 14, .inl lakeF)), (ad 68, .inl (y 0, 63, .inl (dayF 0))), (ad 71, .inl (y 0, 1093, .inl (fun _ => 0))), (ad 70, .inl (y 0, 6558, .inl (fun _ => 0))), MB mo ad 0 0 0 0 0 0 0 (-1) 0 0 0 0 0 0 0 0 0 0 1 0, (ad 72, .inl (y 0, 7, .inl powF))]) (vp_in_nI (by have := pl_lt hN (show b < 3 ^ N by omega); omega) (by decide)) (by rw [up_z0]; rfl) d_Model_plans_43 ?_
    refine j_iinc (pc := 44) C (v := 5) (lv' := [(4, .int 5), (0, .ref mo), (1, .int (nI N)), (2, .int tg), (3, .int (nI b))]) d_Model_plans_44 0 rfl (by decide) (by decide) rfl ?_
    refine j_goto (pc := 47) C (tgt := 19) d_Model_plans_47 (by decide) ?_
    refine j_iload (pc := 19) C d_Model_plans_19 0 rfl ?_
    refine j_bipush (pc := 21) C (v := 6) d_Model_plans_21 (by decide) ?_
    refine j_icmp_geF (pc := 23) C (tgt := 50) d_Model_plans_23 (by decide) (by decide) ?_
    refine j_aload_n (pc := 26) C d_Model_plans_26 rfl 1 rfl ?_
    refine j_get (pc := 27) C gf_Model_173 6 rfl rfl d_Model_plans_27 ?_
    refine j_bipush (pc := 30) C (v := 6) d_Model_plans_30 (by decide) ?_
    refine j_aload_n (pc := 32) C d_Model_plans_32 rfl 1 rfl ?_
    refine j_iload_n (pc := 33) C d_Model_plans_33 rfl 2 rfl ?_
    refine j_iload_n (pc := 34) C d_Model_plans_34 rfl 4 rfl ?_
    refine j_callVi (pc := 35) C (c_M_placeOf l D y mo ad N b hN) kw_Model_501 kv_Model_placeOf 0 10 rfl rfl ⟨by decide, by decide⟩ ⟨by decide, by decide⟩ (wr := [(ad 43, .inl (y 0, 8, .inl (fun _ => 0))), (ad 62, .inl (y 0, 63, .inl (dayF 0))), (ad 45, .inl (y 0, 14, .inl lakeF)), (ad 68, .inl (y 0, 63, .inl (dayF 0))), (ad 71, .inl (y 0, 1093, .inl (fun _ => 0))), (ad 70, .inl (y 0, 6558, .inl (fun _ => 0)))]) [6, 7] [0, 1, 2, 3, 4, 5] rfl rfl (by decide) (by decide) (by decide) (As := [.int (nI N), .int (nI b)]) (rest := [.int 6, .ref (ad 70)]) rfl (nb rfl) rfl d_Model_plans_35 (fun r6 _ hr6 => ?_)
    subst hr6
    refine j_ws (ws' := [(ad 43, .inl (y 0, 8, .inl (fun _ => 0))), (ad 62, .inl (y 0, 63, .inl (dayF 0))), (ad 45, .inl (y 0, 14, .inl lakeF)), (ad 68, .inl (y 0, 63, .inl (dayF 0))), (ad 71, .inl (y 0, 1093, .inl (fun _ => 0))), (ad 70, .inl (y 0, 6558, .inl (fun _ => 0))), MB mo ad 0 0 0 0 0 0 0 (-1) 0 0 0 0 0 0 0 0 0 0 1 0, (ad 72, .inl (y 0, 7, .inl powF))]) rfl ?_
    refine j_st (st' := [.int (nI ((3 ^ N - 1) / 2 + b)), .int 6, .ref (ad 70)]) rfl ?_
    refine j_imul (pc := 38) C (v := nI (6 * ((3 ^ N - 1) / 2 + b))) d_Model_plans_38 (pk_mul 6 _) ?_
    refine j_iload (pc := 39) C d_Model_plans_39 0 rfl ?_
    refine j_iadd (pc := 41) C (v := nI (6 * ((3 ^ N - 1) / 2 + b) + 5)) d_Model_plans_41 (show nI _ + nI 5 = nI (_ + 5) from nI_add _ _) ?_
    refine j_iconst (pc := 42) C (v := 0) d_Model_plans_42 (by decide) ?_
    refine j_iast (pc := 43) C 5 rfl (ws' := [(ad 43, .inl (y 0, 8, .inl (fun _ => 0))), (ad 62, .inl (y 0, 63, .inl (dayF 0))), (ad 45, .inl (y 0, 14, .inl lakeF)), (ad 68, .inl (y 0, 63, .inl (dayF 0))), (ad 71, .inl (y 0, 1093, .inl (fun _ => 0))), (ad 70, .inl (y 0, 6558, .inl (fun _ => 0))), MB mo ad 0 0 0 0 0 0 0 (-1) 0 0 0 0 0 0 0 0 0 0 1 0, (ad 72, .inl (y 0, 7, .inl powF))]) (vp_in_nI (by have := pl_lt hN (show b < 3 ^ N by omega); omega) (by decide)) (by rw [up_z0]; rfl) d_Model_plans_43 ?_
    refine j_iinc (pc := 44) C (v := 6) (lv' := [(4, .int 6), (0, .ref mo), (1, .int (nI N)), (2, .int tg), (3, .int (nI b))]) d_Model_plans_44 0 rfl (by decide) (by decide) rfl ?_
    refine j_goto (pc := 47) C (tgt := 19) d_Model_plans_47 (by decide) ?_
    refine j_iload (pc := 19) C d_Model_plans_19 0 rfl ?_
    refine j_bipush (pc := 21) C (v := 6) d_Model_plans_21 (by decide) ?_
    refine j_icmp_geT (pc := 23) C (tgt := 50) d_Model_plans_23 (by decide) (by decide) ?_
    refine j_iinc (pc := 50) C (v := nI (b + 1)) (lv' := [(3, .int (nI (b + 1))), (4, .int 6), (0, .ref mo), (1, .int (nI N)), (2, .int tg)]) d_Model_plans_50 4 rfl (nI_1 _) (by decide) rfl ?_
    refine j_goto (pc := 53) C (tgt := 6) d_Model_plans_53 (by decide) ?_
    refine j_sub (ws' := [MB mo ad 0 0 0 0 0 0 0 (-1) 0 0 0 0 0 0 0 0 0 0 1 0, (ad 43, .inl (y 0, 8, .inl (fun _ => 0))), (ad 62, .inl (y 0, 63, .inl (dayF 0))), (ad 45, .inl (y 0, 14, .inl lakeF)), (ad 68, .inl (y 0, 63, .inl (dayF 0))), (ad 72, .inl (y 0, 7, .inl powF)), (ad 71, .inl (y 0, 1093, .inl (fun _ => 0))), (ad 70, .inl (y 0, 6558, .inl (fun _ => 0)))]) [6, 0, 1, 2, 3, 7, 4, 5] rfl (by decide) ?_
    refine j_locs (lv' := [(0, .ref mo), (1, .int (nI N)), (2, .int tg), (3, .int (nI (b + 1)))]) [2, 3, 4, 0] rfl ?_
    exact ih (b + 1) (by omega)
set_option maxHeartbeats 4000000 in
set_option maxRecDepth 100000 in
theorem lp_M_p3 {p : Program} {l : Launch} {e : Env} {s : State} {m : MethodId} {args : Array Value} {below : List Frame} {meth : Method} {c : Code} {Q : State → Prop} {D : va_G} {y : Nat → ClassId} {A : Nat → Prop} (C : Cx p s m args meth c D y A prog_13_method_90_code 5 "NineBoardsModel" "plans") (mo : Nat) (ad : Nat → Nat) (N : Nat) (tg : Int32) (a : Nat) (ha : a ≤ 5) (kx : ∀ d : Int32, J p l e ({ frames := 6, cells := 0, slots := 0, locals := 150 } : Room) s m args below meth c Q D A 5 [MB mo ad 0 0 0 0 0 0 0 (-1) 0 0 0 0 0 0 0 0 0 0 1 0, (ad 43, .inl (y 0, 8, .inl (fun _ => 0))), (ad 62, .inl (y 0, 63, .inl (dayF d))), (ad 45, .inl (y 0, 14, .inl lakeF)), (ad 68, .inl (y 0, 63, .inl (dayF 0))), (ad 72, .inl (y 0, 7, .inl powF)), (ad 71, .inl (y 0, 1093, .inl (fun _ => 0))), (ad 70, .inl (y 0, 6558, .inl (fun _ => 0)))] [(0, .ref mo), (1, .int (nI N)), (2, .int tg), (3, .int (nI a))] 0 0 92 []) : ∀ (n : Nat) (b : Nat) (d : Int32), (b + n = 3 ^ a) → J p l e ({ frames := 6, cells := 0, slots := 0, locals := 150 } : Room) s m args below meth c Q D A 5 [MB mo ad 0 0 0 0 0 0 0 (-1) 0 0 0 0 0 0 0 0 0 0 1 0, (ad 43, .inl (y 0, 8, .inl (fun _ => 0))), (ad 62, .inl (y 0, 63, .inl (dayF d))), (ad 45, .inl (y 0, 14, .inl lakeF)), (ad 68, .inl (y 0, 63, .inl (dayF 0))), (ad 72, .inl (y 0, 7, .inl powF)), (ad 71, .inl (y 0, 1093, .inl (fun _ => 0))), (ad 70, .inl (y 0, 6558, .inl (fun _ => 0)))] [(0, .ref mo), (1, .int (nI N)), (2, .int tg), (3, .int (nI a)), (4, .int (nI b))] 0 0 67 [] := by
  intro n
  induction n with
  | zero =>
    intro b d hb
    obtain rfl : b = 3 ^ a := by omega
    refine j_iload (pc := 67) C d_Model_plans_67 4 rfl ?_
    refine j_aload_n (pc := 69) C d_Model_plans_69 rfl 0 rfl ?_
    refine j_get (pc := 70) C gf_Model_179 0 rfl rfl d_Model_plans_70 ?_
    refine j_iload_n (pc := 73) C d_Model_plans_73 rfl 3 rfl ?_
    refine j_iald (pc := 74) C 5 rfl (v := nI (3 ^ a)) (vp_in_nI (by omega) (by decide)) (by rw [nI_clamp (by omega)]; rfl) d_Model_plans_74 ?_
    refine j_icmp_geT (pc := 75) C (tgt := 92) d_Model_plans_75 (by decide) (Int32.le_refl _) ?_
    refine j_locs (lv' := [(0, .ref mo), (1, .int (nI N)), (2, .int tg), (3, .int (nI a))]) [0, 1, 2, 3] rfl ?_
    exact kx _
  | succ n ih =>
    intro b d hb
    have h3 := p3_le (a := a) (by omega)
    refine j_iload (pc := 67) C d_Model_plans_67 4 rfl ?_
    refine j_aload_n (pc := 69) C d_Model_plans_69 rfl 0 rfl ?_
    refine j_get (pc := 70) C gf_Model_179 0 rfl rfl d_Model_plans_70 ?_
    refine j_iload_n (pc := 73) C d_Model_plans_73 rfl 3 rfl ?_
    refine j_iald (pc := 74) C 5 rfl (v := nI (3 ^ a)) (vp_in_nI (by omega) (by decide)) (by rw [nI_clamp (by omega)]; rfl) d_Model_plans_74 ?_
    refine j_icmp_geF (pc := 75) C (tgt := 92) d_Model_plans_75 (by decide) (nI_ge (by omega) (by omega)) ?_
    refine j_aload_n (pc := 78) C d_Model_plans_78 rfl 0 rfl ?_
    refine j_iload_n (pc := 79) C d_Model_plans_79 rfl 3 rfl ?_
    refine j_iload (pc := 80) C d_Model_plans_80 4 rfl ?_
    refine j_iload_n (pc := 82) C d_Model_plans_82 rfl 2 rfl ?_
    refine j_callVv (pc := 83) C (c_M_takesBest l D y mo ad a b d tg ha (by omega)) kw_Model_513 kv_Model_takesBest 0 10 rfl rfl ⟨by decide, by decide⟩ ⟨by decide, by decide⟩ (wr := [(ad 70, .inl (y 0, 6558, .inl (fun _ => 0)))]) [0, 1, 2, 3, 4, 5, 6] [7] rfl rfl (by decide) (by decide) (by decide) (As := [.int (nI a), .int (nI b), .int tg]) (rest := []) rfl (nb rfl) rfl d_Model_plans_83 (fun u1 _ => ?_)
    refine j_ws (ws' := [(ad 70, .inl (y 0, 6558, .inl (fun _ => 0))), MB mo ad 0 0 0 0 0 0 0 (-1) 0 0 0 0 0 0 0 0 0 0 1 0, (ad 43, .inl (y 0, 8, .inl (fun _ => 0))), (ad 62, .inl (y 0, 63, .inl (dayF u1))), (ad 45, .inl (y 0, 14, .inl lakeF)), (ad 68, .inl (y 0, 63, .inl (dayF 0))), (ad 72, .inl (y 0, 7, .inl powF)), (ad 71, .inl (y 0, 1093, .inl (fun _ => 0)))]) rfl ?_
    refine j_iinc (pc := 86) C (v := nI (b + 1)) (lv' := [(4, .int (nI (b + 1))), (0, .ref mo), (1, .int (nI N)), (2, .int tg), (3, .int (nI a))]) d_Model_plans_86 4 rfl (nI_1 _) (by decide) rfl ?_
    refine j_goto (pc := 89) C (tgt := 67) d_Model_plans_89 (by decide) ?_
    refine j_sub (ws' := [MB mo ad 0 0 0 0 0 0 0 (-1) 0 0 0 0 0 0 0 0 0 0 1 0, (ad 43, .inl (y 0, 8, .inl (fun _ => 0))), (ad 62, .inl (y 0, 63, .inl (dayF u1))), (ad 45, .inl (y 0, 14, .inl lakeF)), (ad 68, .inl (y 0, 63, .inl (dayF 0))), (ad 72, .inl (y 0, 7, .inl powF)), (ad 71, .inl (y 0, 1093, .inl (fun _ => 0))), (ad 70, .inl (y 0, 6558, .inl (fun _ => 0)))]) [1, 2, 3, 4, 5, 6, 7, 0] rfl (by decide) ?_
    refine j_locs (lv' := [(0, .ref mo), (1, .int (nI N)), (2, .int tg), (3, .int (nI a)), (4, .int (nI (b + 1)))]) [1, 2, 3, 4, 0] rfl ?_
    exact ih (b + 1) _ (by omega)
set_option maxHeartbeats 4000000 in
set_option maxRecDepth 100000 in
theorem lp_M_p2 {p : Program} {l : Launch} {e : Env} {s : State} {m : MethodId} {args : Array Value} {below : List Frame} {meth : Method} {c : Code} {Q : State → Prop} {D : va_G} {y : Nat → ClassId} {A : Nat → Prop} (C : Cx p s m args meth c D y A prog_13_method_90_code 5 "NineBoardsModel" "plans") (mo : Nat) (ad : Nat → Nat) (N : Nat) (tg : Int32) (kx : ∀ d : Int32, J p l e ({ frames := 6, cells := 0, slots := 0, locals := 150 } : Room) s m args below meth c Q D A 5 [MB mo ad 0 0 0 0 0 0 0 (-1) 0 0 0 0 0 0 0 0 0 0 1 0, (ad 43, .inl (y 0, 8, .inl (fun _ => 0))), (ad 62, .inl (y 0, 63, .inl (dayF d))), (ad 45, .inl (y 0, 14, .inl lakeF)), (ad 68, .inl (y 0, 63, .inl (dayF 0))), (ad 72, .inl (y 0, 7, .inl powF)), (ad 71, .inl (y 0, 1093, .inl (fun _ => 0))), (ad 70, .inl (y 0, 6558, .inl (fun _ => 0)))] [(0, .ref mo), (1, .int (nI N)), (2, .int tg)] 0 0 98 []) : ∀ (n : Nat) (d : Int32), (n ≤ 5) → J p l e ({ frames := 6, cells := 0, slots := 0, locals := 150 } : Room) s m args below meth c Q D A 5 [MB mo ad 0 0 0 0 0 0 0 (-1) 0 0 0 0 0 0 0 0 0 0 1 0, (ad 43, .inl (y 0, 8, .inl (fun _ => 0))), (ad 62, .inl (y 0, 63, .inl (dayF d))), (ad 45, .inl (y 0, 14, .inl lakeF)), (ad 68, .inl (y 0, 63, .inl (dayF 0))), (ad 72, .inl (y 0, 7, .inl powF)), (ad 71, .inl (y 0, 1093, .inl (fun _ => 0))), (ad 70, .inl (y 0, 6558, .inl (fun _ => 0)))] [(0, .ref mo), (1, .int (nI N)), (2, .int tg), (3, .int (nI n))] 0 0 60 [] := by
  intro n
  induction n with
  | zero =>
    intro d hn
    refine j_iload_n (pc := 60) C d_Model_plans_60 rfl 3 rfl ?_
    refine j_if_ltF (pc := 61) C (tgt := 98) d_Model_plans_61 (by decide) (by decide) ?_
    refine j_iconst (pc := 64) C (v := 0) d_Model_plans_64 (by decide) ?_
    refine j_istore (pc := 65) C (lv' := [(4, .int 0), (0, .ref mo), (1, .int (nI N)), (2, .int tg), (3, .int (nI 0))]) d_Model_plans_65 (by decide) rfl ?_
    refine j_locs (lv' := [(0, .ref mo), (1, .int (nI N)), (2, .int tg), (3, .int (nI 0)), (4, .int 0)]) [1, 2, 3, 4, 0] rfl ?_
    refine j_lv (lv' := [(0, .ref mo), (1, .int (nI N)), (2, .int tg), (3, .int (nI 0)), (4, .int (nI 0))]) rfl ?_
    refine lp_M_p3 C mo ad N tg 0 (by omega) (fun d => ?_) (3 ^ 0) 0 d (by omega)
    refine j_iinc (pc := 92) C (v := (-1)) (lv' := [(3, .int (-1)), (0, .ref mo), (1, .int (nI N)), (2, .int tg)]) d_Model_plans_92 3 rfl (by decide) (by decide) rfl ?_
    refine j_goto (pc := 95) C (tgt := 60) d_Model_plans_95 (by decide) ?_
    refine j_iload_n (pc := 60) C d_Model_plans_60 rfl 0 rfl ?_
    refine j_if_ltT (pc := 61) C (tgt := 98) d_Model_plans_61 (by decide) (by decide) ?_
    refine j_locs (lv' := [(0, .ref mo), (1, .int (nI N)), (2, .int tg)]) [1, 2, 3] rfl ?_
    exact kx _
  | succ n ih =>
    intro d hn
    refine j_iload_n (pc := 60) C d_Model_plans_60 rfl 3 rfl ?_
    refine j_if_ltF (pc := 61) C (tgt := 98) d_Model_plans_61 (by decide) (nI_pos (by omega)) ?_
    refine j_iconst (pc := 64) C (v := 0) d_Model_plans_64 (by decide) ?_
    refine j_istore (pc := 65) C (lv' := [(4, .int 0), (0, .ref mo), (1, .int (nI N)), (2, .int tg), (3, .int (nI (n + 1)))]) d_Model_plans_65 (by decide) rfl ?_
    refine j_locs (lv' := [(0, .ref mo), (1, .int (nI N)), (2, .int tg), (3, .int (nI (n + 1))), (4, .int 0)]) [1, 2, 3, 4, 0] rfl ?_
    refine j_lv (lv' := [(0, .ref mo), (1, .int (nI N)), (2, .int tg), (3, .int (nI (n + 1))), (4, .int (nI 0))]) rfl ?_
    refine lp_M_p3 C mo ad N tg (n + 1) (by omega) (fun d => ?_) (3 ^ (n + 1)) 0 d (by omega)
    refine j_iinc (pc := 92) C (v := nI n) (lv' := [(3, .int (nI n)), (0, .ref mo), (1, .int (nI N)), (2, .int tg)]) d_Model_plans_92 3 rfl (pk_m1 n) (by decide) rfl ?_
    refine j_goto (pc := 95) C (tgt := 60) d_Model_plans_95 (by decide) ?_
    refine j_locs (lv' := [(0, .ref mo), (1, .int (nI N)), (2, .int tg), (3, .int (nI n))]) [1, 2, 3, 0] rfl ?_
    exact ih _ (by omega)
set_option maxHeartbeats 4000000 in
set_option maxRecDepth 100000 in
theorem c_M_plans (l : Launch) (D : va_G) (y : Nat → ClassId) (mo : Nat) (ad : Nat → Nat) (q : Nat) (tg : Int32) (f : Nat → Int32) (hq : q ≤ 5) : CT l D y ⟨"NineBoardsModel", "plans", "(IZ)V"⟩ prog_13_method_90_code 5 none ({ frames := 6, cells := 0, slots := 0, locals := 150 } : Room) [.ref mo, .int (nI (q + 1)), .int tg] [MB mo ad 0 0 0 0 0 0 0 (-1) 0 0 0 0 0 0 0 0 0 0 1 0, (ad 43, .inl (y 0, 8, .inl (fun _ => 0))), (ad 62, .inl (y 0, 63, .inl (dayF 0))), (ad 45, .inl (y 0, 14, .inl lakeF)), (ad 68, .inl (y 0, 63, .inl f)), (ad 72, .inl (y 0, 7, .inl powF)), (ad 71, .inl (y 0, 1093, .inl (fun _ => 0))), (ad 70, .inl (y 0, 6558, .inl (fun _ => 0)))] (QV D [MB mo ad 0 0 0 0 0 0 0 (-1) 0 0 0 0 0 0 0 0 0 0 1 0, (ad 43, .inl (y 0, 8, .inl (fun _ => 0))), (ad 62, .inl (y 0, 63, .inl (dayF 0))), (ad 45, .inl (y 0, 14, .inl lakeF)), (ad 68, .inl (y 0, 63, .inl f)), (ad 72, .inl (y 0, 7, .inl powF)), (ad 71, .inl (y 0, 1093, .inl (fun _ => 0))), (ad 70, .inl (y 0, 6558, .inl (fun _ => 0)))] (fun (_ : Unit) => True) (fun _ => [MB mo ad 0 0 0 0 0 0 0 (-1) 0 0 0 0 0 0 0 0 0 0 1 0, (ad 43, .inl (y 0, 8, .inl (fun _ => 0))), (ad 62, .inl (y 0, 63, .inl (dayF 0))), (ad 45, .inl (y 0, 14, .inl lakeF)), (ad 68, .inl (y 0, 63, .inl (dayF 0))), (ad 72, .inl (y 0, 7, .inl powF)), (ad 71, .inl (y 0, 1093, .inl (fun _ => 0))), (ad 70, .inl (y 0, 6558, .inl (fun _ => 0)))])) := by
  refine CT.of (by decide) (nb rfl) ?_
  intro p e s m args below meth c C hr
  refine j_lv (lv' := [(0, .ref mo), (1, .int (nI (q + 1))), (2, .int tg)]) rfl ?_
  refine j_aload_n (pc := 0) C d_Model_plans_0 rfl 0 rfl ?_
  refine j_callVv (pc := 1) C (c_M_putsAside l D y mo ad 0 0 1 f (dayF 0)) kw_Model_510 kv_Model_putsAside 0 10 rfl rfl ⟨by decide, by decide⟩ ⟨by decide, by decide⟩ (wr := [(ad 43, .inl (y 0, 8, .inl (fun _ => 0))), (ad 45, .inl (y 0, 14, .inl lakeF)), (ad 72, .inl (y 0, 7, .inl powF)), (ad 71, .inl (y 0, 1093, .inl (fun _ => 0))), (ad 70, .inl (y 0, 6558, .inl (fun _ => 0)))]) [0, 4, 2] [1, 3, 5, 6, 7] rfl rfl (by decide) (by decide) (by decide) (As := []) (rest := []) rfl (nb rfl) rfl d_Model_plans_1 (fun _ _ => ?_)
  refine j_ws (ws' := [(ad 43, .inl (y 0, 8, .inl (fun _ => 0))), (ad 45, .inl (y 0, 14, .inl lakeF)), (ad 72, .inl (y 0, 7, .inl powF)), (ad 71, .inl (y 0, 1093, .inl (fun _ => 0))), (ad 70, .inl (y 0, 6558, .inl (fun _ => 0))), MB mo ad 0 0 0 0 0 0 0 (-1) 0 0 0 0 0 0 0 0 0 0 1 0, (ad 68, .inl (y 0, 63, .inl (dayF 0))), (ad 62, .inl (y 0, 63, .inl (dayF 0)))]) rfl ?_
  refine j_iconst (pc := 4) C (v := 0) d_Model_plans_4 (by decide) ?_
  refine j_istore_n (pc := 5) C (lv' := [(3, .int 0), (0, .ref mo), (1, .int (nI (q + 1))), (2, .int tg)]) d_Model_plans_5 rfl (by decide) rfl ?_
  refine j_sub (ws' := [MB mo ad 0 0 0 0 0 0 0 (-1) 0 0 0 0 0 0 0 0 0 0 1 0, (ad 43, .inl (y 0, 8, .inl (fun _ => 0))), (ad 62, .inl (y 0, 63, .inl (dayF 0))), (ad 45, .inl (y 0, 14, .inl lakeF)), (ad 68, .inl (y 0, 63, .inl (dayF 0))), (ad 72, .inl (y 0, 7, .inl powF)), (ad 71, .inl (y 0, 1093, .inl (fun _ => 0))), (ad 70, .inl (y 0, 6558, .inl (fun _ => 0)))]) [5, 0, 7, 1, 6, 2, 3, 4] rfl (by decide) ?_
  refine j_locs (lv' := [(0, .ref mo), (1, .int (nI (q + 1))), (2, .int tg), (3, .int 0)]) [1, 2, 3, 0] rfl ?_
  refine j_lv (lv' := [(0, .ref mo), (1, .int (nI (q + 1))), (2, .int tg), (3, .int (nI 0))]) rfl ?_
  refine lp_M_p1 C mo ad (q + 1) (by omega) tg ?_ (3 ^ (q + 1)) 0 (by omega)
  refine j_iload_n (pc := 56) C d_Model_plans_56 rfl 1 rfl ?_
  refine j_iconst (pc := 57) C (v := 1) d_Model_plans_57 (by decide) ?_
  refine j_isub (pc := 58) C (v := nI q) d_Model_plans_58 (nI_pred q) ?_
  refine j_istore_n (pc := 59) C (lv' := [(3, .int (nI q)), (0, .ref mo), (1, .int (nI (q + 1))), (2, .int tg)]) d_Model_plans_59 rfl (by decide) rfl ?_
  refine j_locs (lv' := [(0, .ref mo), (1, .int (nI (q + 1))), (2, .int tg), (3, .int (nI q))]) [1, 2, 3, 0] rfl ?_
  refine lp_M_p2 C mo ad (q + 1) tg (fun d => ?_) q _ (by omega)
  refine j_aload_n (pc := 98) C d_Model_plans_98 rfl 0 rfl ?_
  refine j_callVv (pc := 99) C (c_M_takesBack l D y mo ad 0 0 1 (dayF d) (dayF 0)) kw_Model_495 kv_Model_takesBack 0 10 rfl rfl ⟨by decide, by decide⟩ ⟨by decide, by decide⟩ (wr := [(ad 43, .inl (y 0, 8, .inl (fun _ => 0))), (ad 45, .inl (y 0, 14, .inl lakeF)), (ad 72, .inl (y 0, 7, .inl powF)), (ad 71, .inl (y 0, 1093, .inl (fun _ => 0))), (ad 70, .inl (y 0, 6558, .inl (fun _ => 0)))]) [0, 2, 4] [1, 3, 5, 6, 7] rfl rfl (by decide) (by decide) (by decide) (As := []) (rest := []) rfl (nb rfl) rfl d_Model_plans_99 (fun _ _ => ?_)
  refine j_ws (ws' := [(ad 43, .inl (y 0, 8, .inl (fun _ => 0))), (ad 45, .inl (y 0, 14, .inl lakeF)), (ad 72, .inl (y 0, 7, .inl powF)), (ad 71, .inl (y 0, 1093, .inl (fun _ => 0))), (ad 70, .inl (y 0, 6558, .inl (fun _ => 0))), MB mo ad 0 0 0 0 0 0 0 (-1) 0 0 0 0 0 0 0 0 0 0 1 0, (ad 62, .inl (y 0, 63, .inl (dayF 0))), (ad 68, .inl (y 0, 63, .inl (dayF 0)))]) rfl ?_
  exact j_vret (pc := 102) C hr () trivial [5, 0, 6, 1, 7, 2, 3, 4] rfl (by decide) (by decide) (by decide) d_Model_plans_102
set_option maxHeartbeats 4000000 in
set_option maxRecDepth 100000 in
theorem c_M_placeOf_0 (l : Launch) (D : va_G) (y : Nat → ClassId) (mo : Nat) (ad : Nat → Nat)  : CT l D y ⟨"NineBoardsModel", "placeOf", "(II)I"⟩ prog_13_method_85_code 3 (some .int) ({ frames := 0, cells := 0, slots := 0, locals := 0 } : Room) [.ref mo, .int 0, .int 0] [MB mo ad 0 0 0 0 0 0 0 (-1) 0 0 0 0 0 0 0 0 0 0 1 0, (ad 72, .inl (y 0, 7, .inl powF))] (QI D [MB mo ad 0 0 0 0 0 0 0 (-1) 0 0 0 0 0 0 0 0 0 0 1 0, (ad 72, .inl (y 0, 7, .inl powF))] (fun (r : Int32) (_ : Unit) => r = 0) (fun _ => [MB mo ad 0 0 0 0 0 0 0 (-1) 0 0 0 0 0 0 0 0 0 0 1 0, (ad 72, .inl (y 0, 7, .inl powF))])) := by
  refine CT.of (by decide) (nb rfl) ?_
  intro p e s m args below meth c C hr
  refine j_lv (lv' := [(0, .ref mo), (1, .int 0), (2, .int 0)]) rfl ?_
  refine j_aload_n (pc := 0) C d_Model_placeOf_0 rfl 0 rfl ?_
  refine j_get (pc := 1) C gf_Model_179 0 rfl rfl d_Model_placeOf_1 ?_
  refine j_iload_n (pc := 4) C d_Model_placeOf_4 rfl 1 rfl ?_
  refine j_iald (pc := 5) C 1 rfl (v := 1) (vin (by decide)) (by decide) d_Model_placeOf_5 ?_
  refine j_iconst (pc := 6) C (v := 1) d_Model_placeOf_6 (by decide) ?_
  refine j_isub (pc := 7) C (v := 0) d_Model_placeOf_7 (by decide) ?_
  refine j_iconst (pc := 8) C (v := 2) d_Model_placeOf_8 (by decide) ?_
  refine j_idiv (pc := 9) C (v := 0) d_Model_placeOf_9 (by decide) (by decide) ?_
  refine j_iload_n (pc := 10) C d_Model_placeOf_10 rfl 2 rfl ?_
  refine j_iadd (pc := 11) C (v := 0) d_Model_placeOf_11 (by decide) ?_
  exact j_iret (pc := 12) C hr rfl () rfl [0, 1] rfl (by decide) (by decide) (by decide) d_Model_placeOf_12
set_option maxHeartbeats 4000000 in
set_option maxRecDepth 100000 in
theorem c_M_placeOf_1 (l : Launch) (D : va_G) (y : Nat → ClassId) (mo : Nat) (ad : Nat → Nat)  : CT l D y ⟨"NineBoardsModel", "placeOf", "(II)I"⟩ prog_13_method_85_code 3 (some .int) ({ frames := 0, cells := 0, slots := 0, locals := 0 } : Room) [.ref mo, .int 1, .int 0] [MB mo ad 0 0 0 0 0 0 0 (-1) 0 0 0 0 0 0 0 0 0 0 1 0, (ad 72, .inl (y 0, 7, .inl powF))] (QI D [MB mo ad 0 0 0 0 0 0 0 (-1) 0 0 0 0 0 0 0 0 0 0 1 0, (ad 72, .inl (y 0, 7, .inl powF))] (fun (r : Int32) (_ : Unit) => r = 1) (fun _ => [MB mo ad 0 0 0 0 0 0 0 (-1) 0 0 0 0 0 0 0 0 0 0 1 0, (ad 72, .inl (y 0, 7, .inl powF))])) := by
  refine CT.of (by decide) (nb rfl) ?_
  intro p e s m args below meth c C hr
  refine j_lv (lv' := [(0, .ref mo), (1, .int 1), (2, .int 0)]) rfl ?_
  refine j_aload_n (pc := 0) C d_Model_placeOf_0 rfl 0 rfl ?_
  refine j_get (pc := 1) C gf_Model_179 0 rfl rfl d_Model_placeOf_1 ?_
  refine j_iload_n (pc := 4) C d_Model_placeOf_4 rfl 1 rfl ?_
  refine j_iald (pc := 5) C 1 rfl (v := 3) (vin (by decide)) (by decide) d_Model_placeOf_5 ?_
  refine j_iconst (pc := 6) C (v := 1) d_Model_placeOf_6 (by decide) ?_
  refine j_isub (pc := 7) C (v := 2) d_Model_placeOf_7 (by decide) ?_
  refine j_iconst (pc := 8) C (v := 2) d_Model_placeOf_8 (by decide) ?_
  refine j_idiv (pc := 9) C (v := 1) d_Model_placeOf_9 (by decide) (by decide) ?_
  refine j_iload_n (pc := 10) C d_Model_placeOf_10 rfl 2 rfl ?_
  refine j_iadd (pc := 11) C (v := 1) d_Model_placeOf_11 (by decide) ?_
  exact j_iret (pc := 12) C hr rfl () rfl [0, 1] rfl (by decide) (by decide) (by decide) d_Model_placeOf_12
set_option maxHeartbeats 4000000 in
set_option maxRecDepth 100000 in
theorem c_M_placeOf_2 (l : Launch) (D : va_G) (y : Nat → ClassId) (mo : Nat) (ad : Nat → Nat)  : CT l D y ⟨"NineBoardsModel", "placeOf", "(II)I"⟩ prog_13_method_85_code 3 (some .int) ({ frames := 0, cells := 0, slots := 0, locals := 0 } : Room) [.ref mo, .int 2, .int 0] [MB mo ad 0 0 0 0 0 0 0 (-1) 0 0 0 0 0 0 0 0 0 0 1 0, (ad 72, .inl (y 0, 7, .inl powF))] (QI D [MB mo ad 0 0 0 0 0 0 0 (-1) 0 0 0 0 0 0 0 0 0 0 1 0, (ad 72, .inl (y 0, 7, .inl powF))] (fun (r : Int32) (_ : Unit) => r = 4) (fun _ => [MB mo ad 0 0 0 0 0 0 0 (-1) 0 0 0 0 0 0 0 0 0 0 1 0, (ad 72, .inl (y 0, 7, .inl powF))])) := by
  refine CT.of (by decide) (nb rfl) ?_
  intro p e s m args below meth c C hr
  refine j_lv (lv' := [(0, .ref mo), (1, .int 2), (2, .int 0)]) rfl ?_
  refine j_aload_n (pc := 0) C d_Model_placeOf_0 rfl 0 rfl ?_
  refine j_get (pc := 1) C gf_Model_179 0 rfl rfl d_Model_placeOf_1 ?_
  refine j_iload_n (pc := 4) C d_Model_placeOf_4 rfl 1 rfl ?_
  refine j_iald (pc := 5) C 1 rfl (v := 9) (vin (by decide)) (by decide) d_Model_placeOf_5 ?_
  refine j_iconst (pc := 6) C (v := 1) d_Model_placeOf_6 (by decide) ?_
  refine j_isub (pc := 7) C (v := 8) d_Model_placeOf_7 (by decide) ?_
  refine j_iconst (pc := 8) C (v := 2) d_Model_placeOf_8 (by decide) ?_
  refine j_idiv (pc := 9) C (v := 4) d_Model_placeOf_9 (by decide) (by decide) ?_
  refine j_iload_n (pc := 10) C d_Model_placeOf_10 rfl 2 rfl ?_
  refine j_iadd (pc := 11) C (v := 4) d_Model_placeOf_11 (by decide) ?_
  exact j_iret (pc := 12) C hr rfl () rfl [0, 1] rfl (by decide) (by decide) (by decide) d_Model_placeOf_12
set_option maxHeartbeats 4000000 in
set_option maxRecDepth 100000 in
theorem c_M_placeOf_3 (l : Launch) (D : va_G) (y : Nat → ClassId) (mo : Nat) (ad : Nat → Nat)  : CT l D y ⟨"NineBoardsModel", "placeOf", "(II)I"⟩ prog_13_method_85_code 3 (some .int) ({ frames := 0, cells := 0, slots := 0, locals := 0 } : Room) [.ref mo, .int 3, .int 0] [MB mo ad 0 0 0 0 0 0 0 (-1) 0 0 0 0 0 0 0 0 0 0 1 0, (ad 72, .inl (y 0, 7, .inl powF))] (QI D [MB mo ad 0 0 0 0 0 0 0 (-1) 0 0 0 0 0 0 0 0 0 0 1 0, (ad 72, .inl (y 0, 7, .inl powF))] (fun (r : Int32) (_ : Unit) => r = 13) (fun _ => [MB mo ad 0 0 0 0 0 0 0 (-1) 0 0 0 0 0 0 0 0 0 0 1 0, (ad 72, .inl (y 0, 7, .inl powF))])) := by
  refine CT.of (by decide) (nb rfl) ?_
  intro p e s m args below meth c C hr
  refine j_lv (lv' := [(0, .ref mo), (1, .int 3), (2, .int 0)]) rfl ?_
  refine j_aload_n (pc := 0) C d_Model_placeOf_0 rfl 0 rfl ?_
  refine j_get (pc := 1) C gf_Model_179 0 rfl rfl d_Model_placeOf_1 ?_
  refine j_iload_n (pc := 4) C d_Model_placeOf_4 rfl 1 rfl ?_
  refine j_iald (pc := 5) C 1 rfl (v := 27) (vin (by decide)) (by decide) d_Model_placeOf_5 ?_
  refine j_iconst (pc := 6) C (v := 1) d_Model_placeOf_6 (by decide) ?_
  refine j_isub (pc := 7) C (v := 26) d_Model_placeOf_7 (by decide) ?_
  refine j_iconst (pc := 8) C (v := 2) d_Model_placeOf_8 (by decide) ?_
  refine j_idiv (pc := 9) C (v := 13) d_Model_placeOf_9 (by decide) (by decide) ?_
  refine j_iload_n (pc := 10) C d_Model_placeOf_10 rfl 2 rfl ?_
  refine j_iadd (pc := 11) C (v := 13) d_Model_placeOf_11 (by decide) ?_
  exact j_iret (pc := 12) C hr rfl () rfl [0, 1] rfl (by decide) (by decide) (by decide) d_Model_placeOf_12
set_option maxHeartbeats 4000000 in
set_option maxRecDepth 100000 in
theorem c_M_placeOf_4 (l : Launch) (D : va_G) (y : Nat → ClassId) (mo : Nat) (ad : Nat → Nat)  : CT l D y ⟨"NineBoardsModel", "placeOf", "(II)I"⟩ prog_13_method_85_code 3 (some .int) ({ frames := 0, cells := 0, slots := 0, locals := 0 } : Room) [.ref mo, .int 4, .int 0] [MB mo ad 0 0 0 0 0 0 0 (-1) 0 0 0 0 0 0 0 0 0 0 1 0, (ad 72, .inl (y 0, 7, .inl powF))] (QI D [MB mo ad 0 0 0 0 0 0 0 (-1) 0 0 0 0 0 0 0 0 0 0 1 0, (ad 72, .inl (y 0, 7, .inl powF))] (fun (r : Int32) (_ : Unit) => r = 40) (fun _ => [MB mo ad 0 0 0 0 0 0 0 (-1) 0 0 0 0 0 0 0 0 0 0 1 0, (ad 72, .inl (y 0, 7, .inl powF))])) := by
  refine CT.of (by decide) (nb rfl) ?_
  intro p e s m args below meth c C hr
  refine j_lv (lv' := [(0, .ref mo), (1, .int 4), (2, .int 0)]) rfl ?_
  refine j_aload_n (pc := 0) C d_Model_placeOf_0 rfl 0 rfl ?_
  refine j_get (pc := 1) C gf_Model_179 0 rfl rfl d_Model_placeOf_1 ?_
  refine j_iload_n (pc := 4) C d_Model_placeOf_4 rfl 1 rfl ?_
  refine j_iald (pc := 5) C 1 rfl (v := 81) (vin (by decide)) (by decide) d_Model_placeOf_5 ?_
  refine j_iconst (pc := 6) C (v := 1) d_Model_placeOf_6 (by decide) ?_
  refine j_isub (pc := 7) C (v := 80) d_Model_placeOf_7 (by decide) ?_
  refine j_iconst (pc := 8) C (v := 2) d_Model_placeOf_8 (by decide) ?_
  refine j_idiv (pc := 9) C (v := 40) d_Model_placeOf_9 (by decide) (by decide) ?_
  refine j_iload_n (pc := 10) C d_Model_placeOf_10 rfl 2 rfl ?_
  refine j_iadd (pc := 11) C (v := 40) d_Model_placeOf_11 (by decide) ?_
  exact j_iret (pc := 12) C hr rfl () rfl [0, 1] rfl (by decide) (by decide) (by decide) d_Model_placeOf_12
set_option maxHeartbeats 4000000 in
set_option maxRecDepth 100000 in
theorem c_M_placeOf_5 (l : Launch) (D : va_G) (y : Nat → ClassId) (mo : Nat) (ad : Nat → Nat)  : CT l D y ⟨"NineBoardsModel", "placeOf", "(II)I"⟩ prog_13_method_85_code 3 (some .int) ({ frames := 0, cells := 0, slots := 0, locals := 0 } : Room) [.ref mo, .int 5, .int 0] [MB mo ad 0 0 0 0 0 0 0 (-1) 0 0 0 0 0 0 0 0 0 0 1 0, (ad 72, .inl (y 0, 7, .inl powF))] (QI D [MB mo ad 0 0 0 0 0 0 0 (-1) 0 0 0 0 0 0 0 0 0 0 1 0, (ad 72, .inl (y 0, 7, .inl powF))] (fun (r : Int32) (_ : Unit) => r = 121) (fun _ => [MB mo ad 0 0 0 0 0 0 0 (-1) 0 0 0 0 0 0 0 0 0 0 1 0, (ad 72, .inl (y 0, 7, .inl powF))])) := by
  refine CT.of (by decide) (nb rfl) ?_
  intro p e s m args below meth c C hr
  refine j_lv (lv' := [(0, .ref mo), (1, .int 5), (2, .int 0)]) rfl ?_
  refine j_aload_n (pc := 0) C d_Model_placeOf_0 rfl 0 rfl ?_
  refine j_get (pc := 1) C gf_Model_179 0 rfl rfl d_Model_placeOf_1 ?_
  refine j_iload_n (pc := 4) C d_Model_placeOf_4 rfl 1 rfl ?_
  refine j_iald (pc := 5) C 1 rfl (v := 243) (vin (by decide)) (by decide) d_Model_placeOf_5 ?_
  refine j_iconst (pc := 6) C (v := 1) d_Model_placeOf_6 (by decide) ?_
  refine j_isub (pc := 7) C (v := 242) d_Model_placeOf_7 (by decide) ?_
  refine j_iconst (pc := 8) C (v := 2) d_Model_placeOf_8 (by decide) ?_
  refine j_idiv (pc := 9) C (v := 121) d_Model_placeOf_9 (by decide) (by decide) ?_
  refine j_iload_n (pc := 10) C d_Model_placeOf_10 rfl 2 rfl ?_
  refine j_iadd (pc := 11) C (v := 121) d_Model_placeOf_11 (by decide) ?_
  exact j_iret (pc := 12) C hr rfl () rfl [0, 1] rfl (by decide) (by decide) (by decide) d_Model_placeOf_12
theorem d_Model_actOf_0 : decode prog_13_method_91_code 0 = .ok (.iconst 0, 1) := by decide +kernel
theorem d_Model_actOf_1 : decode prog_13_method_91_code 1 = .ok (.istore_n 2, 1) := by decide +kernel
theorem d_Model_actOf_2 : decode prog_13_method_91_code 2 = .ok (.iconst 0, 1) := by decide +kernel
theorem d_Model_actOf_3 : decode prog_13_method_91_code 3 = .ok (.istore_n 3, 1) := by decide +kernel
theorem d_Model_actOf_4 : decode prog_13_method_91_code 4 = .ok (.iload_n 3, 1) := by decide +kernel
theorem d_Model_actOf_5 : decode prog_13_method_91_code 5 = .ok (.iload_n 1, 1) := by decide +kernel
theorem d_Model_actOf_6 : decode prog_13_method_91_code 6 = .ok (.if_icmp .ge 25, 3) := by decide +kernel
theorem d_Model_actOf_31 : decode prog_13_method_91_code 31 = .ok (.aload_n 0, 1) := by decide +kernel
theorem d_Model_actOf_32 : decode prog_13_method_91_code 32 = .ok (.getfield 176, 3) := by decide +kernel
theorem d_Model_actOf_35 : decode prog_13_method_91_code 35 = .ok (.aload_n 0, 1) := by decide +kernel
theorem d_Model_actOf_36 : decode prog_13_method_91_code 36 = .ok (.iload_n 1, 1) := by decide +kernel
theorem d_Model_actOf_37 : decode prog_13_method_91_code 37 = .ok (.iload_n 2, 1) := by decide +kernel
theorem d_Model_actOf_38 : decode prog_13_method_91_code 38 = .ok (.invokevirtual 501, 3) := by decide +kernel
theorem d_Model_actOf_41 : decode prog_13_method_91_code 41 = .ok (.iaload, 1) := by decide +kernel
theorem d_Model_actOf_42 : decode prog_13_method_91_code 42 = .ok (.ireturn, 1) := by decide +kernel
set_option maxHeartbeats 4000000 in
set_option maxRecDepth 100000 in
theorem c_M_actOf_0 (l : Launch) (D : va_G) (y : Nat → ClassId) (mo : Nat) (ad : Nat → Nat)  : CT l D y ⟨"NineBoardsModel", "actOf", "(I)I"⟩ prog_13_method_91_code 4 (some .int) ({ frames := 1, cells := 0, slots := 0, locals := 22 } : Room) [.ref mo, .int 0] [MB mo ad 0 0 0 0 0 0 0 (-1) 0 0 0 0 0 0 0 0 0 0 1 0, (ad 72, .inl (y 0, 7, .inl powF)), (ad 71, .inl (y 0, 1093, .inl (fun _ => 0)))] (QI D [MB mo ad 0 0 0 0 0 0 0 (-1) 0 0 0 0 0 0 0 0 0 0 1 0, (ad 72, .inl (y 0, 7, .inl powF)), (ad 71, .inl (y 0, 1093, .inl (fun _ => 0)))] (fun (r : Int32) (_ : Unit) => r = 0) (fun _ => [])) := by
  refine CT.of (by decide) (nb rfl) ?_
  intro p e s m args below meth c C hr
  refine j_lv (lv' := [(0, .ref mo), (1, .int 0)]) rfl ?_
  refine j_iconst (pc := 0) C (v := 0) d_Model_actOf_0 (by decide) ?_
  refine j_istore_n (pc := 1) C (lv' := [(2, .int 0), (0, .ref mo), (1, .int 0)]) d_Model_actOf_1 rfl (by decide) rfl ?_
  refine j_iconst (pc := 2) C (v := 0) d_Model_actOf_2 (by decide) ?_
  refine j_istore_n (pc := 3) C (lv' := [(3, .int 0), (2, .int 0), (0, .ref mo), (1, .int 0)]) d_Model_actOf_3 rfl (by decide) rfl ?_
  refine j_iload_n (pc := 4) C d_Model_actOf_4 rfl 0 rfl ?_
  refine j_iload_n (pc := 5) C d_Model_actOf_5 rfl 3 rfl ?_
  refine j_icmp_geT (pc := 6) C (tgt := 31) d_Model_actOf_6 (by decide) (by decide) ?_
  refine j_aload_n (pc := 31) C d_Model_actOf_31 rfl 2 rfl ?_
  refine j_get (pc := 32) C gf_Model_176 0 rfl rfl d_Model_actOf_32 ?_
  refine j_aload_n (pc := 35) C d_Model_actOf_35 rfl 2 rfl ?_
  refine j_iload_n (pc := 36) C d_Model_actOf_36 rfl 3 rfl ?_
  refine j_iload_n (pc := 37) C d_Model_actOf_37 rfl 1 rfl ?_
  refine j_callVi (pc := 38) C (c_M_placeOf_0 l D y mo ad) kw_Model_501 kv_Model_placeOf 0 10 rfl rfl ⟨by decide, by decide⟩ ⟨by decide, by decide⟩ (wr := [(ad 71, .inl (y 0, 1093, .inl (fun _ => 0)))]) [0, 1] [2] rfl rfl (by decide) (by decide) (by decide) (As := [.int 0, .int 0]) (rest := [.ref (ad 71)]) rfl (nb rfl) rfl d_Model_actOf_38 (fun r1 _ hr1 => ?_)
  subst hr1
  refine j_ws (ws' := [(ad 71, .inl (y 0, 1093, .inl (fun _ => 0))), MB mo ad 0 0 0 0 0 0 0 (-1) 0 0 0 0 0 0 0 0 0 0 1 0, (ad 72, .inl (y 0, 7, .inl powF))]) rfl ?_
  refine j_st (st' := [.int 0, .ref (ad 71)]) rfl ?_
  refine j_iald (pc := 41) C 0 rfl (v := 0) (vin (by decide)) rfl d_Model_actOf_41 ?_
  exact j_iret (pc := 42) C hr rfl () rfl [] rfl (by decide) (by decide) (by decide) d_Model_actOf_42
theorem d_Model_actOf_9 : decode prog_13_method_91_code 9 = .ok (.iconst 3, 1) := by decide +kernel
theorem d_Model_actOf_10 : decode prog_13_method_91_code 10 = .ok (.iload_n 2, 1) := by decide +kernel
theorem d_Model_actOf_11 : decode prog_13_method_91_code 11 = .ok (.imul, 1) := by decide +kernel
theorem d_Model_actOf_12 : decode prog_13_method_91_code 12 = .ok (.aload_n 0, 1) := by decide +kernel
theorem d_Model_actOf_13 : decode prog_13_method_91_code 13 = .ok (.getfield 176, 3) := by decide +kernel
theorem d_Model_actOf_16 : decode prog_13_method_91_code 16 = .ok (.aload_n 0, 1) := by decide +kernel
theorem d_Model_actOf_17 : decode prog_13_method_91_code 17 = .ok (.iload_n 3, 1) := by decide +kernel
theorem d_Model_actOf_18 : decode prog_13_method_91_code 18 = .ok (.iload_n 2, 1) := by decide +kernel
theorem d_Model_actOf_19 : decode prog_13_method_91_code 19 = .ok (.invokevirtual 501, 3) := by decide +kernel
theorem d_Model_actOf_22 : decode prog_13_method_91_code 22 = .ok (.iaload, 1) := by decide +kernel
theorem d_Model_actOf_23 : decode prog_13_method_91_code 23 = .ok (.iadd, 1) := by decide +kernel
theorem d_Model_actOf_24 : decode prog_13_method_91_code 24 = .ok (.istore_n 2, 1) := by decide +kernel
theorem d_Model_actOf_25 : decode prog_13_method_91_code 25 = .ok (.iinc 3 1, 3) := by decide +kernel
theorem d_Model_actOf_28 : decode prog_13_method_91_code 28 = .ok (.goto (-24), 3) := by decide +kernel
set_option maxHeartbeats 4000000 in
set_option maxRecDepth 100000 in
theorem c_M_actOf_1 (l : Launch) (D : va_G) (y : Nat → ClassId) (mo : Nat) (ad : Nat → Nat)  : CT l D y ⟨"NineBoardsModel", "actOf", "(I)I"⟩ prog_13_method_91_code 4 (some .int) ({ frames := 1, cells := 0, slots := 0, locals := 22 } : Room) [.ref mo, .int 1] [MB mo ad 0 0 0 0 0 0 0 (-1) 0 0 0 0 0 0 0 0 0 0 1 0, (ad 72, .inl (y 0, 7, .inl powF)), (ad 71, .inl (y 0, 1093, .inl (fun _ => 0)))] (QI D [MB mo ad 0 0 0 0 0 0 0 (-1) 0 0 0 0 0 0 0 0 0 0 1 0, (ad 72, .inl (y 0, 7, .inl powF)), (ad 71, .inl (y 0, 1093, .inl (fun _ => 0)))] (fun (r : Int32) (_ : Unit) => r = 0) (fun _ => [])) := by
  refine CT.of (by decide) (nb rfl) ?_
  intro p e s m args below meth c C hr
  refine j_lv (lv' := [(0, .ref mo), (1, .int 1)]) rfl ?_
  refine j_iconst (pc := 0) C (v := 0) d_Model_actOf_0 (by decide) ?_
  refine j_istore_n (pc := 1) C (lv' := [(2, .int 0), (0, .ref mo), (1, .int 1)]) d_Model_actOf_1 rfl (by decide) rfl ?_
  refine j_iconst (pc := 2) C (v := 0) d_Model_actOf_2 (by decide) ?_
  refine j_istore_n (pc := 3) C (lv' := [(3, .int 0), (2, .int 0), (0, .ref mo), (1, .int 1)]) d_Model_actOf_3 rfl (by decide) rfl ?_
  refine j_iload_n (pc := 4) C d_Model_actOf_4 rfl 0 rfl ?_
  refine j_iload_n (pc := 5) C d_Model_actOf_5 rfl 3 rfl ?_
  refine j_icmp_geF (pc := 6) C (tgt := 31) d_Model_actOf_6 (by decide) (by decide) ?_
  refine j_iconst (pc := 9) C (v := 3) d_Model_actOf_9 (by decide) ?_
  refine j_iload_n (pc := 10) C d_Model_actOf_10 rfl 1 rfl ?_
  refine j_imul (pc := 11) C (v := 0) d_Model_actOf_11 (by decide) ?_
  refine j_aload_n (pc := 12) C d_Model_actOf_12 rfl 2 rfl ?_
  refine j_get (pc := 13) C gf_Model_176 0 rfl rfl d_Model_actOf_13 ?_
  refine j_aload_n (pc := 16) C d_Model_actOf_16 rfl 2 rfl ?_
  refine j_iload_n (pc := 17) C d_Model_actOf_17 rfl 0 rfl ?_
  refine j_iload_n (pc := 18) C d_Model_actOf_18 rfl 1 rfl ?_
  refine j_callVi (pc := 19) C (c_M_placeOf_0 l D y mo ad) kw_Model_501 kv_Model_placeOf 0 10 rfl rfl ⟨by decide, by decide⟩ ⟨by decide, by decide⟩ (wr := [(ad 71, .inl (y 0, 1093, .inl (fun _ => 0)))]) [0, 1] [2] rfl rfl (by decide) (by decide) (by decide) (As := [.int 0, .int 0]) (rest := [.ref (ad 71), .int 0]) rfl (nb rfl) rfl d_Model_actOf_19 (fun r1 _ hr1 => ?_)
  subst hr1
  refine j_ws (ws' := [(ad 71, .inl (y 0, 1093, .inl (fun _ => 0))), MB mo ad 0 0 0 0 0 0 0 (-1) 0 0 0 0 0 0 0 0 0 0 1 0, (ad 72, .inl (y 0, 7, .inl powF))]) rfl ?_
  refine j_st (st' := [.int 0, .ref (ad 71), .int 0]) rfl ?_
  refine j_iald (pc := 22) C 0 rfl (v := 0) (vin (by decide)) rfl d_Model_actOf_22 ?_
  refine j_iadd (pc := 23) C (v := 0) d_Model_actOf_23 (by decide) ?_
  refine j_istore_n (pc := 24) C (lv' := [(2, .int 0), (3, .int 0), (0, .ref mo), (1, .int 1)]) d_Model_actOf_24 rfl (by decide) rfl ?_
  refine j_iinc (pc := 25) C (v := 1) (lv' := [(3, .int 1), (2, .int 0), (0, .ref mo), (1, .int 1)]) d_Model_actOf_25 1 rfl (by decide) (by decide) rfl ?_
  refine j_goto (pc := 28) C (tgt := 4) d_Model_actOf_28 (by decide) ?_
  refine j_iload_n (pc := 4) C d_Model_actOf_4 rfl 0 rfl ?_
  refine j_iload_n (pc := 5) C d_Model_actOf_5 rfl 3 rfl ?_
  refine j_icmp_geT (pc := 6) C (tgt := 31) d_Model_actOf_6 (by decide) (by decide) ?_
  refine j_aload_n (pc := 31) C d_Model_actOf_31 rfl 2 rfl ?_
  refine j_get (pc := 32) C gf_Model_176 1 rfl rfl d_Model_actOf_32 ?_
  refine j_aload_n (pc := 35) C d_Model_actOf_35 rfl 2 rfl ?_
  refine j_iload_n (pc := 36) C d_Model_actOf_36 rfl 3 rfl ?_
  refine j_iload_n (pc := 37) C d_Model_actOf_37 rfl 1 rfl ?_
  refine j_callVi (pc := 38) C (c_M_placeOf_1 l D y mo ad) kw_Model_501 kv_Model_placeOf 0 10 rfl rfl ⟨by decide, by decide⟩ ⟨by decide, by decide⟩ (wr := [(ad 71, .inl (y 0, 1093, .inl (fun _ => 0)))]) [1, 2] [0] rfl rfl (by decide) (by decide) (by decide) (As := [.int 1, .int 0]) (rest := [.ref (ad 71)]) rfl (nb rfl) rfl d_Model_actOf_38 (fun r2 _ hr2 => ?_)
  subst hr2
  refine j_ws (ws' := [(ad 71, .inl (y 0, 1093, .inl (fun _ => 0))), MB mo ad 0 0 0 0 0 0 0 (-1) 0 0 0 0 0 0 0 0 0 0 1 0, (ad 72, .inl (y 0, 7, .inl powF))]) rfl ?_
  refine j_st (st' := [.int 1, .ref (ad 71)]) rfl ?_
  refine j_iald (pc := 41) C 0 rfl (v := 0) (vin (by decide)) rfl d_Model_actOf_41 ?_
  exact j_iret (pc := 42) C hr rfl () rfl [] rfl (by decide) (by decide) (by decide) d_Model_actOf_42
set_option maxHeartbeats 4000000 in
set_option maxRecDepth 100000 in
theorem c_M_actOf_2 (l : Launch) (D : va_G) (y : Nat → ClassId) (mo : Nat) (ad : Nat → Nat)  : CT l D y ⟨"NineBoardsModel", "actOf", "(I)I"⟩ prog_13_method_91_code 4 (some .int) ({ frames := 1, cells := 0, slots := 0, locals := 22 } : Room) [.ref mo, .int 2] [MB mo ad 0 0 0 0 0 0 0 (-1) 0 0 0 0 0 0 0 0 0 0 1 0, (ad 72, .inl (y 0, 7, .inl powF)), (ad 71, .inl (y 0, 1093, .inl (fun _ => 0)))] (QI D [MB mo ad 0 0 0 0 0 0 0 (-1) 0 0 0 0 0 0 0 0 0 0 1 0, (ad 72, .inl (y 0, 7, .inl powF)), (ad 71, .inl (y 0, 1093, .inl (fun _ => 0)))] (fun (r : Int32) (_ : Unit) => r = 0) (fun _ => [])) := by
  refine CT.of (by decide) (nb rfl) ?_
  intro p e s m args below meth c C hr
  refine j_lv (lv' := [(0, .ref mo), (1, .int 2)]) rfl ?_
  refine j_iconst (pc := 0) C (v := 0) d_Model_actOf_0 (by decide) ?_
  refine j_istore_n (pc := 1) C (lv' := [(2, .int 0), (0, .ref mo), (1, .int 2)]) d_Model_actOf_1 rfl (by decide) rfl ?_
  refine j_iconst (pc := 2) C (v := 0) d_Model_actOf_2 (by decide) ?_
  refine j_istore_n (pc := 3) C (lv' := [(3, .int 0), (2, .int 0), (0, .ref mo), (1, .int 2)]) d_Model_actOf_3 rfl (by decide) rfl ?_
  refine j_iload_n (pc := 4) C d_Model_actOf_4 rfl 0 rfl ?_
  refine j_iload_n (pc := 5) C d_Model_actOf_5 rfl 3 rfl ?_
  refine j_icmp_geF (pc := 6) C (tgt := 31) d_Model_actOf_6 (by decide) (by decide) ?_
  refine j_iconst (pc := 9) C (v := 3) d_Model_actOf_9 (by decide) ?_
  refine j_iload_n (pc := 10) C d_Model_actOf_10 rfl 1 rfl ?_
  refine j_imul (pc := 11) C (v := 0) d_Model_actOf_11 (by decide) ?_
  refine j_aload_n (pc := 12) C d_Model_actOf_12 rfl 2 rfl ?_
  refine j_get (pc := 13) C gf_Model_176 0 rfl rfl d_Model_actOf_13 ?_
  refine j_aload_n (pc := 16) C d_Model_actOf_16 rfl 2 rfl ?_
  refine j_iload_n (pc := 17) C d_Model_actOf_17 rfl 0 rfl ?_
  refine j_iload_n (pc := 18) C d_Model_actOf_18 rfl 1 rfl ?_
  refine j_callVi (pc := 19) C (c_M_placeOf_0 l D y mo ad) kw_Model_501 kv_Model_placeOf 0 10 rfl rfl ⟨by decide, by decide⟩ ⟨by decide, by decide⟩ (wr := [(ad 71, .inl (y 0, 1093, .inl (fun _ => 0)))]) [0, 1] [2] rfl rfl (by decide) (by decide) (by decide) (As := [.int 0, .int 0]) (rest := [.ref (ad 71), .int 0]) rfl (nb rfl) rfl d_Model_actOf_19 (fun r1 _ hr1 => ?_)
  subst hr1
  refine j_ws (ws' := [(ad 71, .inl (y 0, 1093, .inl (fun _ => 0))), MB mo ad 0 0 0 0 0 0 0 (-1) 0 0 0 0 0 0 0 0 0 0 1 0, (ad 72, .inl (y 0, 7, .inl powF))]) rfl ?_
  refine j_st (st' := [.int 0, .ref (ad 71), .int 0]) rfl ?_
  refine j_iald (pc := 22) C 0 rfl (v := 0) (vin (by decide)) rfl d_Model_actOf_22 ?_
  refine j_iadd (pc := 23) C (v := 0) d_Model_actOf_23 (by decide) ?_
  refine j_istore_n (pc := 24) C (lv' := [(2, .int 0), (3, .int 0), (0, .ref mo), (1, .int 2)]) d_Model_actOf_24 rfl (by decide) rfl ?_
  refine j_iinc (pc := 25) C (v := 1) (lv' := [(3, .int 1), (2, .int 0), (0, .ref mo), (1, .int 2)]) d_Model_actOf_25 1 rfl (by decide) (by decide) rfl ?_
  refine j_goto (pc := 28) C (tgt := 4) d_Model_actOf_28 (by decide) ?_
  refine j_iload_n (pc := 4) C d_Model_actOf_4 rfl 0 rfl ?_
  refine j_iload_n (pc := 5) C d_Model_actOf_5 rfl 3 rfl ?_
  refine j_icmp_geF (pc := 6) C (tgt := 31) d_Model_actOf_6 (by decide) (by decide) ?_
  refine j_iconst (pc := 9) C (v := 3) d_Model_actOf_9 (by decide) ?_
  refine j_iload_n (pc := 10) C d_Model_actOf_10 rfl 1 rfl ?_
  refine j_imul (pc := 11) C (v := 0) d_Model_actOf_11 (by decide) ?_
  refine j_aload_n (pc := 12) C d_Model_actOf_12 rfl 2 rfl ?_
  refine j_get (pc := 13) C gf_Model_176 1 rfl rfl d_Model_actOf_13 ?_
  refine j_aload_n (pc := 16) C d_Model_actOf_16 rfl 2 rfl ?_
  refine j_iload_n (pc := 17) C d_Model_actOf_17 rfl 0 rfl ?_
  refine j_iload_n (pc := 18) C d_Model_actOf_18 rfl 1 rfl ?_
  refine j_callVi (pc := 19) C (c_M_placeOf_1 l D y mo ad) kw_Model_501 kv_Model_placeOf 0 10 rfl rfl ⟨by decide, by decide⟩ ⟨by decide, by decide⟩ (wr := [(ad 71, .inl (y 0, 1093, .inl (fun _ => 0)))]) [1, 2] [0] rfl rfl (by decide) (by decide) (by decide) (As := [.int 1, .int 0]) (rest := [.ref (ad 71), .int 0]) rfl (nb rfl) rfl d_Model_actOf_19 (fun r2 _ hr2 => ?_)
  subst hr2
  refine j_ws (ws' := [(ad 71, .inl (y 0, 1093, .inl (fun _ => 0))), MB mo ad 0 0 0 0 0 0 0 (-1) 0 0 0 0 0 0 0 0 0 0 1 0, (ad 72, .inl (y 0, 7, .inl powF))]) rfl ?_
  refine j_st (st' := [.int 1, .ref (ad 71), .int 0]) rfl ?_
  refine j_iald (pc := 22) C 0 rfl (v := 0) (vin (by decide)) rfl d_Model_actOf_22 ?_
  refine j_iadd (pc := 23) C (v := 0) d_Model_actOf_23 (by decide) ?_
  refine j_istore_n (pc := 24) C (lv' := [(2, .int 0), (3, .int 1), (0, .ref mo), (1, .int 2)]) d_Model_actOf_24 rfl (by decide) rfl ?_
  refine j_iinc (pc := 25) C (v := 2) (lv' := [(3, .int 2), (2, .int 0), (0, .ref mo), (1, .int 2)]) d_Model_actOf_25 1 rfl (by decide) (by decide) rfl ?_
  refine j_goto (pc := 28) C (tgt := 4) d_Model_actOf_28 (by decide) ?_
  refine j_iload_n (pc := 4) C d_Model_actOf_4 rfl 0 rfl ?_
  refine j_iload_n (pc := 5) C d_Model_actOf_5 rfl 3 rfl ?_
  refine j_icmp_geT (pc := 6) C (tgt := 31) d_Model_actOf_6 (by decide) (by decide) ?_
  refine j_aload_n (pc := 31) C d_Model_actOf_31 rfl 2 rfl ?_
  refine j_get (pc := 32) C gf_Model_176 1 rfl rfl d_Model_actOf_32 ?_
  refine j_aload_n (pc := 35) C d_Model_actOf_35 rfl 2 rfl ?_
  refine j_iload_n (pc := 36) C d_Model_actOf_36 rfl 3 rfl ?_
  refine j_iload_n (pc := 37) C d_Model_actOf_37 rfl 1 rfl ?_
  refine j_callVi (pc := 38) C (c_M_placeOf_2 l D y mo ad) kw_Model_501 kv_Model_placeOf 0 10 rfl rfl ⟨by decide, by decide⟩ ⟨by decide, by decide⟩ (wr := [(ad 71, .inl (y 0, 1093, .inl (fun _ => 0)))]) [1, 2] [0] rfl rfl (by decide) (by decide) (by decide) (As := [.int 2, .int 0]) (rest := [.ref (ad 71)]) rfl (nb rfl) rfl d_Model_actOf_38 (fun r3 _ hr3 => ?_)
  subst hr3
  refine j_ws (ws' := [(ad 71, .inl (y 0, 1093, .inl (fun _ => 0))), MB mo ad 0 0 0 0 0 0 0 (-1) 0 0 0 0 0 0 0 0 0 0 1 0, (ad 72, .inl (y 0, 7, .inl powF))]) rfl ?_
  refine j_st (st' := [.int 4, .ref (ad 71)]) rfl ?_
  refine j_iald (pc := 41) C 0 rfl (v := 0) (vin (by decide)) rfl d_Model_actOf_41 ?_
  exact j_iret (pc := 42) C hr rfl () rfl [] rfl (by decide) (by decide) (by decide) d_Model_actOf_42
set_option maxHeartbeats 4000000 in
set_option maxRecDepth 100000 in
theorem c_M_actOf_3 (l : Launch) (D : va_G) (y : Nat → ClassId) (mo : Nat) (ad : Nat → Nat)  : CT l D y ⟨"NineBoardsModel", "actOf", "(I)I"⟩ prog_13_method_91_code 4 (some .int) ({ frames := 1, cells := 0, slots := 0, locals := 22 } : Room) [.ref mo, .int 3] [MB mo ad 0 0 0 0 0 0 0 (-1) 0 0 0 0 0 0 0 0 0 0 1 0, (ad 72, .inl (y 0, 7, .inl powF)), (ad 71, .inl (y 0, 1093, .inl (fun _ => 0)))] (QI D [MB mo ad 0 0 0 0 0 0 0 (-1) 0 0 0 0 0 0 0 0 0 0 1 0, (ad 72, .inl (y 0, 7, .inl powF)), (ad 71, .inl (y 0, 1093, .inl (fun _ => 0)))] (fun (r : Int32) (_ : Unit) => r = 0) (fun _ => [])) := by
  refine CT.of (by decide) (nb rfl) ?_
  intro p e s m args below meth c C hr
  refine j_lv (lv' := [(0, .ref mo), (1, .int 3)]) rfl ?_
  refine j_iconst (pc := 0) C (v := 0) d_Model_actOf_0 (by decide) ?_
  refine j_istore_n (pc := 1) C (lv' := [(2, .int 0), (0, .ref mo), (1, .int 3)]) d_Model_actOf_1 rfl (by decide) rfl ?_
  refine j_iconst (pc := 2) C (v := 0) d_Model_actOf_2 (by decide) ?_
  refine j_istore_n (pc := 3) C (lv' := [(3, .int 0), (2, .int 0), (0, .ref mo), (1, .int 3)]) d_Model_actOf_3 rfl (by decide) rfl ?_
  refine j_iload_n (pc := 4) C d_Model_actOf_4 rfl 0 rfl ?_
  refine j_iload_n (pc := 5) C d_Model_actOf_5 rfl 3 rfl ?_
  refine j_icmp_geF (pc := 6) C (tgt := 31) d_Model_actOf_6 (by decide) (by decide) ?_
  refine j_iconst (pc := 9) C (v := 3) d_Model_actOf_9 (by decide) ?_
  refine j_iload_n (pc := 10) C d_Model_actOf_10 rfl 1 rfl ?_
  refine j_imul (pc := 11) C (v := 0) d_Model_actOf_11 (by decide) ?_
  refine j_aload_n (pc := 12) C d_Model_actOf_12 rfl 2 rfl ?_
  refine j_get (pc := 13) C gf_Model_176 0 rfl rfl d_Model_actOf_13 ?_
  refine j_aload_n (pc := 16) C d_Model_actOf_16 rfl 2 rfl ?_
  refine j_iload_n (pc := 17) C d_Model_actOf_17 rfl 0 rfl ?_
  refine j_iload_n (pc := 18) C d_Model_actOf_18 rfl 1 rfl ?_
  refine j_callVi (pc := 19) C (c_M_placeOf_0 l D y mo ad) kw_Model_501 kv_Model_placeOf 0 10 rfl rfl ⟨by decide, by decide⟩ ⟨by decide, by decide⟩ (wr := [(ad 71, .inl (y 0, 1093, .inl (fun _ => 0)))]) [0, 1] [2] rfl rfl (by decide) (by decide) (by decide) (As := [.int 0, .int 0]) (rest := [.ref (ad 71), .int 0]) rfl (nb rfl) rfl d_Model_actOf_19 (fun r1 _ hr1 => ?_)
  subst hr1
  refine j_ws (ws' := [(ad 71, .inl (y 0, 1093, .inl (fun _ => 0))), MB mo ad 0 0 0 0 0 0 0 (-1) 0 0 0 0 0 0 0 0 0 0 1 0, (ad 72, .inl (y 0, 7, .inl powF))]) rfl ?_
  refine j_st (st' := [.int 0, .ref (ad 71), .int 0]) rfl ?_
  refine j_iald (pc := 22) C 0 rfl (v := 0) (vin (by decide)) rfl d_Model_actOf_22 ?_
  refine j_iadd (pc := 23) C (v := 0) d_Model_actOf_23 (by decide) ?_
  refine j_istore_n (pc := 24) C (lv' := [(2, .int 0), (3, .int 0), (0, .ref mo), (1, .int 3)]) d_Model_actOf_24 rfl (by decide) rfl ?_
  refine j_iinc (pc := 25) C (v := 1) (lv' := [(3, .int 1), (2, .int 0), (0, .ref mo), (1, .int 3)]) d_Model_actOf_25 1 rfl (by decide) (by decide) rfl ?_
  refine j_goto (pc := 28) C (tgt := 4) d_Model_actOf_28 (by decide) ?_
  refine j_iload_n (pc := 4) C d_Model_actOf_4 rfl 0 rfl ?_
  refine j_iload_n (pc := 5) C d_Model_actOf_5 rfl 3 rfl ?_
  refine j_icmp_geF (pc := 6) C (tgt := 31) d_Model_actOf_6 (by decide) (by decide) ?_
  refine j_iconst (pc := 9) C (v := 3) d_Model_actOf_9 (by decide) ?_
  refine j_iload_n (pc := 10) C d_Model_actOf_10 rfl 1 rfl ?_
  refine j_imul (pc := 11) C (v := 0) d_Model_actOf_11 (by decide) ?_
  refine j_aload_n (pc := 12) C d_Model_actOf_12 rfl 2 rfl ?_
  refine j_get (pc := 13) C gf_Model_176 1 rfl rfl d_Model_actOf_13 ?_
  refine j_aload_n (pc := 16) C d_Model_actOf_16 rfl 2 rfl ?_
  refine j_iload_n (pc := 17) C d_Model_actOf_17 rfl 0 rfl ?_
  refine j_iload_n (pc := 18) C d_Model_actOf_18 rfl 1 rfl ?_
  refine j_callVi (pc := 19) C (c_M_placeOf_1 l D y mo ad) kw_Model_501 kv_Model_placeOf 0 10 rfl rfl ⟨by decide, by decide⟩ ⟨by decide, by decide⟩ (wr := [(ad 71, .inl (y 0, 1093, .inl (fun _ => 0)))]) [1, 2] [0] rfl rfl (by decide) (by decide) (by decide) (As := [.int 1, .int 0]) (rest := [.ref (ad 71), .int 0]) rfl (nb rfl) rfl d_Model_actOf_19 (fun r2 _ hr2 => ?_)
  subst hr2
  refine j_ws (ws' := [(ad 71, .inl (y 0, 1093, .inl (fun _ => 0))), MB mo ad 0 0 0 0 0 0 0 (-1) 0 0 0 0 0 0 0 0 0 0 1 0, (ad 72, .inl (y 0, 7, .inl powF))]) rfl ?_
  refine j_st (st' := [.int 1, .ref (ad 71), .int 0]) rfl ?_
  refine j_iald (pc := 22) C 0 rfl (v := 0) (vin (by decide)) rfl d_Model_actOf_22 ?_
  refine j_iadd (pc := 23) C (v := 0) d_Model_actOf_23 (by decide) ?_
  refine j_istore_n (pc := 24) C (lv' := [(2, .int 0), (3, .int 1), (0, .ref mo), (1, .int 3)]) d_Model_actOf_24 rfl (by decide) rfl ?_
  refine j_iinc (pc := 25) C (v := 2) (lv' := [(3, .int 2), (2, .int 0), (0, .ref mo), (1, .int 3)]) d_Model_actOf_25 1 rfl (by decide) (by decide) rfl ?_
  refine j_goto (pc := 28) C (tgt := 4) d_Model_actOf_28 (by decide) ?_
  refine j_iload_n (pc := 4) C d_Model_actOf_4 rfl 0 rfl ?_
  refine j_iload_n (pc := 5) C d_Model_actOf_5 rfl 3 rfl ?_
  refine j_icmp_geF (pc := 6) C (tgt := 31) d_Model_actOf_6 (by decide) (by decide) ?_
  refine j_iconst (pc := 9) C (v := 3) d_Model_actOf_9 (by decide) ?_
  refine j_iload_n (pc := 10) C d_Model_actOf_10 rfl 1 rfl ?_
  refine j_imul (pc := 11) C (v := 0) d_Model_actOf_11 (by decide) ?_
  refine j_aload_n (pc := 12) C d_Model_actOf_12 rfl 2 rfl ?_
  refine j_get (pc := 13) C gf_Model_176 1 rfl rfl d_Model_actOf_13 ?_
  refine j_aload_n (pc := 16) C d_Model_actOf_16 rfl 2 rfl ?_
  refine j_iload_n (pc := 17) C d_Model_actOf_17 rfl 0 rfl ?_
  refine j_iload_n (pc := 18) C d_Model_actOf_18 rfl 1 rfl ?_
  refine j_callVi (pc := 19) C (c_M_placeOf_2 l D y mo ad) kw_Model_501 kv_Model_placeOf 0 10 rfl rfl ⟨by decide, by decide⟩ ⟨by decide, by decide⟩ (wr := [(ad 71, .inl (y 0, 1093, .inl (fun _ => 0)))]) [1, 2] [0] rfl rfl (by decide) (by decide) (by decide) (As := [.int 2, .int 0]) (rest := [.ref (ad 71), .int 0]) rfl (nb rfl) rfl d_Model_actOf_19 (fun r3 _ hr3 => ?_)
  subst hr3
  refine j_ws (ws' := [(ad 71, .inl (y 0, 1093, .inl (fun _ => 0))), MB mo ad 0 0 0 0 0 0 0 (-1) 0 0 0 0 0 0 0 0 0 0 1 0, (ad 72, .inl (y 0, 7, .inl powF))]) rfl ?_
  refine j_st (st' := [.int 4, .ref (ad 71), .int 0]) rfl ?_
  refine j_iald (pc := 22) C 0 rfl (v := 0) (vin (by decide)) rfl d_Model_actOf_22 ?_
  refine j_iadd (pc := 23) C (v := 0) d_Model_actOf_23 (by decide) ?_
  refine j_istore_n (pc := 24) C (lv' := [(2, .int 0), (3, .int 2), (0, .ref mo), (1, .int 3)]) d_Model_actOf_24 rfl (by decide) rfl ?_
  refine j_iinc (pc := 25) C (v := 3) (lv' := [(3, .int 3), (2, .int 0), (0, .ref mo), (1, .int 3)]) d_Model_actOf_25 1 rfl (by decide) (by decide) rfl ?_
  refine j_goto (pc := 28) C (tgt := 4) d_Model_actOf_28 (by decide) ?_
  refine j_iload_n (pc := 4) C d_Model_actOf_4 rfl 0 rfl ?_
  refine j_iload_n (pc := 5) C d_Model_actOf_5 rfl 3 rfl ?_
  refine j_icmp_geT (pc := 6) C (tgt := 31) d_Model_actOf_6 (by decide) (by decide) ?_
  refine j_aload_n (pc := 31) C d_Model_actOf_31 rfl 2 rfl ?_
  refine j_get (pc := 32) C gf_Model_176 1 rfl rfl d_Model_actOf_32 ?_
  refine j_aload_n (pc := 35) C d_Model_actOf_35 rfl 2 rfl ?_
  refine j_iload_n (pc := 36) C d_Model_actOf_36 rfl 3 rfl ?_
  refine j_iload_n (pc := 37) C d_Model_actOf_37 rfl 1 rfl ?_
  refine j_callVi (pc := 38) C (c_M_placeOf_3 l D y mo ad) kw_Model_501 kv_Model_placeOf 0 10 rfl rfl ⟨by decide, by decide⟩ ⟨by decide, by decide⟩ (wr := [(ad 71, .inl (y 0, 1093, .inl (fun _ => 0)))]) [1, 2] [0] rfl rfl (by decide) (by decide) (by decide) (As := [.int 3, .int 0]) (rest := [.ref (ad 71)]) rfl (nb rfl) rfl d_Model_actOf_38 (fun r4 _ hr4 => ?_)
  subst hr4
  refine j_ws (ws' := [(ad 71, .inl (y 0, 1093, .inl (fun _ => 0))), MB mo ad 0 0 0 0 0 0 0 (-1) 0 0 0 0 0 0 0 0 0 0 1 0, (ad 72, .inl (y 0, 7, .inl powF))]) rfl ?_
  refine j_st (st' := [.int 13, .ref (ad 71)]) rfl ?_
  refine j_iald (pc := 41) C 0 rfl (v := 0) (vin (by decide)) rfl d_Model_actOf_41 ?_
  exact j_iret (pc := 42) C hr rfl () rfl [] rfl (by decide) (by decide) (by decide) d_Model_actOf_42
set_option maxHeartbeats 4000000 in
set_option maxRecDepth 100000 in
theorem c_M_actOf_4 (l : Launch) (D : va_G) (y : Nat → ClassId) (mo : Nat) (ad : Nat → Nat)  : CT l D y ⟨"NineBoardsModel", "actOf", "(I)I"⟩ prog_13_method_91_code 4 (some .int) ({ frames := 1, cells := 0, slots := 0, locals := 22 } : Room) [.ref mo, .int 4] [MB mo ad 0 0 0 0 0 0 0 (-1) 0 0 0 0 0 0 0 0 0 0 1 0, (ad 72, .inl (y 0, 7, .inl powF)), (ad 71, .inl (y 0, 1093, .inl (fun _ => 0)))] (QI D [MB mo ad 0 0 0 0 0 0 0 (-1) 0 0 0 0 0 0 0 0 0 0 1 0, (ad 72, .inl (y 0, 7, .inl powF)), (ad 71, .inl (y 0, 1093, .inl (fun _ => 0)))] (fun (r : Int32) (_ : Unit) => r = 0) (fun _ => [])) := by
  refine CT.of (by decide) (nb rfl) ?_
  intro p e s m args below meth c C hr
  refine j_lv (lv' := [(0, .ref mo), (1, .int 4)]) rfl ?_
  refine j_iconst (pc := 0) C (v := 0) d_Model_actOf_0 (by decide) ?_
  refine j_istore_n (pc := 1) C (lv' := [(2, .int 0), (0, .ref mo), (1, .int 4)]) d_Model_actOf_1 rfl (by decide) rfl ?_
  refine j_iconst (pc := 2) C (v := 0) d_Model_actOf_2 (by decide) ?_
  refine j_istore_n (pc := 3) C (lv' := [(3, .int 0), (2, .int 0), (0, .ref mo), (1, .int 4)]) d_Model_actOf_3 rfl (by decide) rfl ?_
  refine j_iload_n (pc := 4) C d_Model_actOf_4 rfl 0 rfl ?_
  refine j_iload_n (pc := 5) C d_Model_actOf_5 rfl 3 rfl ?_
  refine j_icmp_geF (pc := 6) C (tgt := 31) d_Model_actOf_6 (by decide) (by decide) ?_
  refine j_iconst (pc := 9) C (v := 3) d_Model_actOf_9 (by decide) ?_
  refine j_iload_n (pc := 10) C d_Model_actOf_10 rfl 1 rfl ?_
  refine j_imul (pc := 11) C (v := 0) d_Model_actOf_11 (by decide) ?_
  refine j_aload_n (pc := 12) C d_Model_actOf_12 rfl 2 rfl ?_
  refine j_get (pc := 13) C gf_Model_176 0 rfl rfl d_Model_actOf_13 ?_
  refine j_aload_n (pc := 16) C d_Model_actOf_16 rfl 2 rfl ?_
  refine j_iload_n (pc := 17) C d_Model_actOf_17 rfl 0 rfl ?_
  refine j_iload_n (pc := 18) C d_Model_actOf_18 rfl 1 rfl ?_
  refine j_callVi (pc := 19) C (c_M_placeOf_0 l D y mo ad) kw_Model_501 kv_Model_placeOf 0 10 rfl rfl ⟨by decide, by decide⟩ ⟨by decide, by decide⟩ (wr := [(ad 71, .inl (y 0, 1093, .inl (fun _ => 0)))]) [0, 1] [2] rfl rfl (by decide) (by decide) (by decide) (As := [.int 0, .int 0]) (rest := [.ref (ad 71), .int 0]) rfl (nb rfl) rfl d_Model_actOf_19 (fun r1 _ hr1 => ?_)
  subst hr1
  refine j_ws (ws' := [(ad 71, .inl (y 0, 1093, .inl (fun _ => 0))), MB mo ad 0 0 0 0 0 0 0 (-1) 0 0 0 0 0 0 0 0 0 0 1 0, (ad 72, .inl (y 0, 7, .inl powF))]) rfl ?_
  refine j_st (st' := [.int 0, .ref (ad 71), .int 0]) rfl ?_
  refine j_iald (pc := 22) C 0 rfl (v := 0) (vin (by decide)) rfl d_Model_actOf_22 ?_
  refine j_iadd (pc := 23) C (v := 0) d_Model_actOf_23 (by decide) ?_
  refine j_istore_n (pc := 24) C (lv' := [(2, .int 0), (3, .int 0), (0, .ref mo), (1, .int 4)]) d_Model_actOf_24 rfl (by decide) rfl ?_
  refine j_iinc (pc := 25) C (v := 1) (lv' := [(3, .int 1), (2, .int 0), (0, .ref mo), (1, .int 4)]) d_Model_actOf_25 1 rfl (by decide) (by decide) rfl ?_
  refine j_goto (pc := 28) C (tgt := 4) d_Model_actOf_28 (by decide) ?_
  refine j_iload_n (pc := 4) C d_Model_actOf_4 rfl 0 rfl ?_
  refine j_iload_n (pc := 5) C d_Model_actOf_5 rfl 3 rfl ?_
  refine j_icmp_geF (pc := 6) C (tgt := 31) d_Model_actOf_6 (by decide) (by decide) ?_
  refine j_iconst (pc := 9) C (v := 3) d_Model_actOf_9 (by decide) ?_
  refine j_iload_n (pc := 10) C d_Model_actOf_10 rfl 1 rfl ?_
  refine j_imul (pc := 11) C (v := 0) d_Model_actOf_11 (by decide) ?_
  refine j_aload_n (pc := 12) C d_Model_actOf_12 rfl 2 rfl ?_
  refine j_get (pc := 13) C gf_Model_176 1 rfl rfl d_Model_actOf_13 ?_
  refine j_aload_n (pc := 16) C d_Model_actOf_16 rfl 2 rfl ?_
  refine j_iload_n (pc := 17) C d_Model_actOf_17 rfl 0 rfl ?_
  refine j_iload_n (pc := 18) C d_Model_actOf_18 rfl 1 rfl ?_
  refine j_callVi (pc := 19) C (c_M_placeOf_1 l D y mo ad) kw_Model_501 kv_Model_placeOf 0 10 rfl rfl ⟨by decide, by decide⟩ ⟨by decide, by decide⟩ (wr := [(ad 71, .inl (y 0, 1093, .inl (fun _ => 0)))]) [1, 2] [0] rfl rfl (by decide) (by decide) (by decide) (As := [.int 1, .int 0]) (rest := [.ref (ad 71), .int 0]) rfl (nb rfl) rfl d_Model_actOf_19 (fun r2 _ hr2 => ?_)
  subst hr2
  refine j_ws (ws' := [(ad 71, .inl (y 0, 1093, .inl (fun _ => 0))), MB mo ad 0 0 0 0 0 0 0 (-1) 0 0 0 0 0 0 0 0 0 0 1 0, (ad 72, .inl (y 0, 7, .inl powF))]) rfl ?_
  refine j_st (st' := [.int 1, .ref (ad 71), .int 0]) rfl ?_
  refine j_iald (pc := 22) C 0 rfl (v := 0) (vin (by decide)) rfl d_Model_actOf_22 ?_
  refine j_iadd (pc := 23) C (v := 0) d_Model_actOf_23 (by decide) ?_
  refine j_istore_n (pc := 24) C (lv' := [(2, .int 0), (3, .int 1), (0, .ref mo), (1, .int 4)]) d_Model_actOf_24 rfl (by decide) rfl ?_
  refine j_iinc (pc := 25) C (v := 2) (lv' := [(3, .int 2), (2, .int 0), (0, .ref mo), (1, .int 4)]) d_Model_actOf_25 1 rfl (by decide) (by decide) rfl ?_
  refine j_goto (pc := 28) C (tgt := 4) d_Model_actOf_28 (by decide) ?_
  refine j_iload_n (pc := 4) C d_Model_actOf_4 rfl 0 rfl ?_
  refine j_iload_n (pc := 5) C d_Model_actOf_5 rfl 3 rfl ?_
  refine j_icmp_geF (pc := 6) C (tgt := 31) d_Model_actOf_6 (by decide) (by decide) ?_
  refine j_iconst (pc := 9) C (v := 3) d_Model_actOf_9 (by decide) ?_
  refine j_iload_n (pc := 10) C d_Model_actOf_10 rfl 1 rfl ?_
  refine j_imul (pc := 11) C (v := 0) d_Model_actOf_11 (by decide) ?_
  refine j_aload_n (pc := 12) C d_Model_actOf_12 rfl 2 rfl ?_
  refine j_get (pc := 13) C gf_Model_176 1 rfl rfl d_Model_actOf_13 ?_
  refine j_aload_n (pc := 16) C d_Model_actOf_16 rfl 2 rfl ?_
  refine j_iload_n (pc := 17) C d_Model_actOf_17 rfl 0 rfl ?_
  refine j_iload_n (pc := 18) C d_Model_actOf_18 rfl 1 rfl ?_
  refine j_callVi (pc := 19) C (c_M_placeOf_2 l D y mo ad) kw_Model_501 kv_Model_placeOf 0 10 rfl rfl ⟨by decide, by decide⟩ ⟨by decide, by decide⟩ (wr := [(ad 71, .inl (y 0, 1093, .inl (fun _ => 0)))]) [1, 2] [0] rfl rfl (by decide) (by decide) (by decide) (As := [.int 2, .int 0]) (rest := [.ref (ad 71), .int 0]) rfl (nb rfl) rfl d_Model_actOf_19 (fun r3 _ hr3 => ?_)
  subst hr3
  refine j_ws (ws' := [(ad 71, .inl (y 0, 1093, .inl (fun _ => 0))), MB mo ad 0 0 0 0 0 0 0 (-1) 0 0 0 0 0 0 0 0 0 0 1 0, (ad 72, .inl (y 0, 7, .inl powF))]) rfl ?_
  refine j_st (st' := [.int 4, .ref (ad 71), .int 0]) rfl ?_
  refine j_iald (pc := 22) C 0 rfl (v := 0) (vin (by decide)) rfl d_Model_actOf_22 ?_
  refine j_iadd (pc := 23) C (v := 0) d_Model_actOf_23 (by decide) ?_
  refine j_istore_n (pc := 24) C (lv' := [(2, .int 0), (3, .int 2), (0, .ref mo), (1, .int 4)]) d_Model_actOf_24 rfl (by decide) rfl ?_
  refine j_iinc (pc := 25) C (v := 3) (lv' := [(3, .int 3), (2, .int 0), (0, .ref mo), (1, .int 4)]) d_Model_actOf_25 1 rfl (by decide) (by decide) rfl ?_
  refine j_goto (pc := 28) C (tgt := 4) d_Model_actOf_28 (by decide) ?_
  refine j_iload_n (pc := 4) C d_Model_actOf_4 rfl 0 rfl ?_
  refine j_iload_n (pc := 5) C d_Model_actOf_5 rfl 3 rfl ?_
  refine j_icmp_geF (pc := 6) C (tgt := 31) d_Model_actOf_6 (by decide) (by decide) ?_
  refine j_iconst (pc := 9) C (v := 3) d_Model_actOf_9 (by decide) ?_
  refine j_iload_n (pc := 10) C d_Model_actOf_10 rfl 1 rfl ?_
  refine j_imul (pc := 11) C (v := 0) d_Model_actOf_11 (by decide) ?_
  refine j_aload_n (pc := 12) C d_Model_actOf_12 rfl 2 rfl ?_
  refine j_get (pc := 13) C gf_Model_176 1 rfl rfl d_Model_actOf_13 ?_
  refine j_aload_n (pc := 16) C d_Model_actOf_16 rfl 2 rfl ?_
  refine j_iload_n (pc := 17) C d_Model_actOf_17 rfl 0 rfl ?_
  refine j_iload_n (pc := 18) C d_Model_actOf_18 rfl 1 rfl ?_
  refine j_callVi (pc := 19) C (c_M_placeOf_3 l D y mo ad) kw_Model_501 kv_Model_placeOf 0 10 rfl rfl ⟨by decide, by decide⟩ ⟨by decide, by decide⟩ (wr := [(ad 71, .inl (y 0, 1093, .inl (fun _ => 0)))]) [1, 2] [0] rfl rfl (by decide) (by decide) (by decide) (As := [.int 3, .int 0]) (rest := [.ref (ad 71), .int 0]) rfl (nb rfl) rfl d_Model_actOf_19 (fun r4 _ hr4 => ?_)
  subst hr4
  refine j_ws (ws' := [(ad 71, .inl (y 0, 1093, .inl (fun _ => 0))), MB mo ad 0 0 0 0 0 0 0 (-1) 0 0 0 0 0 0 0 0 0 0 1 0, (ad 72, .inl (y 0, 7, .inl powF))]) rfl ?_
  refine j_st (st' := [.int 13, .ref (ad 71), .int 0]) rfl ?_
  refine j_iald (pc := 22) C 0 rfl (v := 0) (vin (by decide)) rfl d_Model_actOf_22 ?_
  refine j_iadd (pc := 23) C (v := 0) d_Model_actOf_23 (by decide) ?_
  refine j_istore_n (pc := 24) C (lv' := [(2, .int 0), (3, .int 3), (0, .ref mo), (1, .int 4)]) d_Model_actOf_24 rfl (by decide) rfl ?_
  refine j_iinc (pc := 25) C (v := 4) (lv' := [(3, .int 4), (2, .int 0), (0, .ref mo), (1, .int 4)]) d_Model_actOf_25 1 rfl (by decide) (by decide) rfl ?_
  refine j_goto (pc := 28) C (tgt := 4) d_Model_actOf_28 (by decide) ?_
  refine j_iload_n (pc := 4) C d_Model_actOf_4 rfl 0 rfl ?_
  refine j_iload_n (pc := 5) C d_Model_actOf_5 rfl 3 rfl ?_
  refine j_icmp_geT (pc := 6) C (tgt := 31) d_Model_actOf_6 (by decide) (by decide) ?_
  refine j_aload_n (pc := 31) C d_Model_actOf_31 rfl 2 rfl ?_
  refine j_get (pc := 32) C gf_Model_176 1 rfl rfl d_Model_actOf_32 ?_
  refine j_aload_n (pc := 35) C d_Model_actOf_35 rfl 2 rfl ?_
  refine j_iload_n (pc := 36) C d_Model_actOf_36 rfl 3 rfl ?_
  refine j_iload_n (pc := 37) C d_Model_actOf_37 rfl 1 rfl ?_
  refine j_callVi (pc := 38) C (c_M_placeOf_4 l D y mo ad) kw_Model_501 kv_Model_placeOf 0 10 rfl rfl ⟨by decide, by decide⟩ ⟨by decide, by decide⟩ (wr := [(ad 71, .inl (y 0, 1093, .inl (fun _ => 0)))]) [1, 2] [0] rfl rfl (by decide) (by decide) (by decide) (As := [.int 4, .int 0]) (rest := [.ref (ad 71)]) rfl (nb rfl) rfl d_Model_actOf_38 (fun r5 _ hr5 => ?_)
  subst hr5
  refine j_ws (ws' := [(ad 71, .inl (y 0, 1093, .inl (fun _ => 0))), MB mo ad 0 0 0 0 0 0 0 (-1) 0 0 0 0 0 0 0 0 0 0 1 0, (ad 72, .inl (y 0, 7, .inl powF))]) rfl ?_
  refine j_st (st' := [.int 40, .ref (ad 71)]) rfl ?_
  refine j_iald (pc := 41) C 0 rfl (v := 0) (vin (by decide)) rfl d_Model_actOf_41 ?_
  exact j_iret (pc := 42) C hr rfl () rfl [] rfl (by decide) (by decide) (by decide) d_Model_actOf_42
set_option maxHeartbeats 4000000 in
set_option maxRecDepth 100000 in
theorem c_M_actOf_5 (l : Launch) (D : va_G) (y : Nat → ClassId) (mo : Nat) (ad : Nat → Nat)  : CT l D y ⟨"NineBoardsModel", "actOf", "(I)I"⟩ prog_13_method_91_code 4 (some .int) ({ frames := 1, cells := 0, slots := 0, locals := 22 } : Room) [.ref mo, .int 5] [MB mo ad 0 0 0 0 0 0 0 (-1) 0 0 0 0 0 0 0 0 0 0 1 0, (ad 72, .inl (y 0, 7, .inl powF)), (ad 71, .inl (y 0, 1093, .inl (fun _ => 0)))] (QI D [MB mo ad 0 0 0 0 0 0 0 (-1) 0 0 0 0 0 0 0 0 0 0 1 0, (ad 72, .inl (y 0, 7, .inl powF)), (ad 71, .inl (y 0, 1093, .inl (fun _ => 0)))] (fun (r : Int32) (_ : Unit) => r = 0) (fun _ => [])) := by
  refine CT.of (by decide) (nb rfl) ?_
  intro p e s m args below meth c C hr
  refine j_lv (lv' := [(0, .ref mo), (1, .int 5)]) rfl ?_
  refine j_iconst (pc := 0) C (v := 0) d_Model_actOf_0 (by decide) ?_
  refine j_istore_n (pc := 1) C (lv' := [(2, .int 0), (0, .ref mo), (1, .int 5)]) d_Model_actOf_1 rfl (by decide) rfl ?_
  refine j_iconst (pc := 2) C (v := 0) d_Model_actOf_2 (by decide) ?_
  refine j_istore_n (pc := 3) C (lv' := [(3, .int 0), (2, .int 0), (0, .ref mo), (1, .int 5)]) d_Model_actOf_3 rfl (by decide) rfl ?_
  refine j_iload_n (pc := 4) C d_Model_actOf_4 rfl 0 rfl ?_
  refine j_iload_n (pc := 5) C d_Model_actOf_5 rfl 3 rfl ?_
  refine j_icmp_geF (pc := 6) C (tgt := 31) d_Model_actOf_6 (by decide) (by decide) ?_
  refine j_iconst (pc := 9) C (v := 3) d_Model_actOf_9 (by decide) ?_
  refine j_iload_n (pc := 10) C d_Model_actOf_10 rfl 1 rfl ?_
  refine j_imul (pc := 11) C (v := 0) d_Model_actOf_11 (by decide) ?_
  refine j_aload_n (pc := 12) C d_Model_actOf_12 rfl 2 rfl ?_
  refine j_get (pc := 13) C gf_Model_176 0 rfl rfl d_Model_actOf_13 ?_
  refine j_aload_n (pc := 16) C d_Model_actOf_16 rfl 2 rfl ?_
  refine j_iload_n (pc := 17) C d_Model_actOf_17 rfl 0 rfl ?_
  refine j_iload_n (pc := 18) C d_Model_actOf_18 rfl 1 rfl ?_
  refine j_callVi (pc := 19) C (c_M_placeOf_0 l D y mo ad) kw_Model_501 kv_Model_placeOf 0 10 rfl rfl ⟨by decide, by decide⟩ ⟨by decide, by decide⟩ (wr := [(ad 71, .inl (y 0, 1093, .inl (fun _ => 0)))]) [0, 1] [2] rfl rfl (by decide) (by decide) (by decide) (As := [.int 0, .int 0]) (rest := [.ref (ad 71), .int 0]) rfl (nb rfl) rfl d_Model_actOf_19 (fun r1 _ hr1 => ?_)
  subst hr1
  refine j_ws (ws' := [(ad 71, .inl (y 0, 1093, .inl (fun _ => 0))), MB mo ad 0 0 0 0 0 0 0 (-1) 0 0 0 0 0 0 0 0 0 0 1 0, (ad 72, .inl (y 0, 7, .inl powF))]) rfl ?_
  refine j_st (st' := [.int 0, .ref (ad 71), .int 0]) rfl ?_
  refine j_iald (pc := 22) C 0 rfl (v := 0) (vin (by decide)) rfl d_Model_actOf_22 ?_
  refine j_iadd (pc := 23) C (v := 0) d_Model_actOf_23 (by decide) ?_
  refine j_istore_n (pc := 24) C (lv' := [(2, .int 0), (3, .int 0), (0, .ref mo), (1, .int 5)]) d_Model_actOf_24 rfl (by decide) rfl ?_
  refine j_iinc (pc := 25) C (v := 1) (lv' := [(3, .int 1), (2, .int 0), (0, .ref mo), (1, .int 5)]) d_Model_actOf_25 1 rfl (by decide) (by decide) rfl ?_
  refine j_goto (pc := 28) C (tgt := 4) d_Model_actOf_28 (by decide) ?_
  refine j_iload_n (pc := 4) C d_Model_actOf_4 rfl 0 rfl ?_
  refine j_iload_n (pc := 5) C d_Model_actOf_5 rfl 3 rfl ?_
  refine j_icmp_geF (pc := 6) C (tgt := 31) d_Model_actOf_6 (by decide) (by decide) ?_
  refine j_iconst (pc := 9) C (v := 3) d_Model_actOf_9 (by decide) ?_
  refine j_iload_n (pc := 10) C d_Model_actOf_10 rfl 1 rfl ?_
  refine j_imul (pc := 11) C (v := 0) d_Model_actOf_11 (by decide) ?_
  refine j_aload_n (pc := 12) C d_Model_actOf_12 rfl 2 rfl ?_
  refine j_get (pc := 13) C gf_Model_176 1 rfl rfl d_Model_actOf_13 ?_
  refine j_aload_n (pc := 16) C d_Model_actOf_16 rfl 2 rfl ?_
  refine j_iload_n (pc := 17) C d_Model_actOf_17 rfl 0 rfl ?_
  refine j_iload_n (pc := 18) C d_Model_actOf_18 rfl 1 rfl ?_
  refine j_callVi (pc := 19) C (c_M_placeOf_1 l D y mo ad) kw_Model_501 kv_Model_placeOf 0 10 rfl rfl ⟨by decide, by decide⟩ ⟨by decide, by decide⟩ (wr := [(ad 71, .inl (y 0, 1093, .inl (fun _ => 0)))]) [1, 2] [0] rfl rfl (by decide) (by decide) (by decide) (As := [.int 1, .int 0]) (rest := [.ref (ad 71), .int 0]) rfl (nb rfl) rfl d_Model_actOf_19 (fun r2 _ hr2 => ?_)
  subst hr2
  refine j_ws (ws' := [(ad 71, .inl (y 0, 1093, .inl (fun _ => 0))), MB mo ad 0 0 0 0 0 0 0 (-1) 0 0 0 0 0 0 0 0 0 0 1 0, (ad 72, .inl (y 0, 7, .inl powF))]) rfl ?_
  refine j_st (st' := [.int 1, .ref (ad 71), .int 0]) rfl ?_
  refine j_iald (pc := 22) C 0 rfl (v := 0) (vin (by decide)) rfl d_Model_actOf_22 ?_
  refine j_iadd (pc := 23) C (v := 0) d_Model_actOf_23 (by decide) ?_
  refine j_istore_n (pc := 24) C (lv' := [(2, .int 0), (3, .int 1), (0, .ref mo), (1, .int 5)]) d_Model_actOf_24 rfl (by decide) rfl ?_
  refine j_iinc (pc := 25) C (v := 2) (lv' := [(3, .int 2), (2, .int 0), (0, .ref mo), (1, .int 5)]) d_Model_actOf_25 1 rfl (by decide) (by decide) rfl ?_
  refine j_goto (pc := 28) C (tgt := 4) d_Model_actOf_28 (by decide) ?_
  refine j_iload_n (pc := 4) C d_Model_actOf_4 rfl 0 rfl ?_
  refine j_iload_n (pc := 5) C d_Model_actOf_5 rfl 3 rfl ?_
  refine j_icmp_geF (pc := 6) C (tgt := 31) d_Model_actOf_6 (by decide) (by decide) ?_
  refine j_iconst (pc := 9) C (v := 3) d_Model_actOf_9 (by decide) ?_
  refine j_iload_n (pc := 10) C d_Model_actOf_10 rfl 1 rfl ?_
  refine j_imul (pc := 11) C (v := 0) d_Model_actOf_11 (by decide) ?_
  refine j_aload_n (pc := 12) C d_Model_actOf_12 rfl 2 rfl ?_
  refine j_get (pc := 13) C gf_Model_176 1 rfl rfl d_Model_actOf_13 ?_
  refine j_aload_n (pc := 16) C d_Model_actOf_16 rfl 2 rfl ?_
  refine j_iload_n (pc := 17) C d_Model_actOf_17 rfl 0 rfl ?_
  refine j_iload_n (pc := 18) C d_Model_actOf_18 rfl 1 rfl ?_
  refine j_callVi (pc := 19) C (c_M_placeOf_2 l D y mo ad) kw_Model_501 kv_Model_placeOf 0 10 rfl rfl ⟨by decide, by decide⟩ ⟨by decide, by decide⟩ (wr := [(ad 71, .inl (y 0, 1093, .inl (fun _ => 0)))]) [1, 2] [0] rfl rfl (by decide) (by decide) (by decide) (As := [.int 2, .int 0]) (rest := [.ref (ad 71), .int 0]) rfl (nb rfl) rfl d_Model_actOf_19 (fun r3 _ hr3 => ?_)
  subst hr3
  refine j_ws (ws' := [(ad 71, .inl (y 0, 1093, .inl (fun _ => 0))), MB mo ad 0 0 0 0 0 0 0 (-1) 0 0 0 0 0 0 0 0 0 0 1 0, (ad 72, .inl (y 0, 7, .inl powF))]) rfl ?_
  refine j_st (st' := [.int 4, .ref (ad 71), .int 0]) rfl ?_
  refine j_iald (pc := 22) C 0 rfl (v := 0) (vin (by decide)) rfl d_Model_actOf_22 ?_
  refine j_iadd (pc := 23) C (v := 0) d_Model_actOf_23 (by decide) ?_
  refine j_istore_n (pc := 24) C (lv' := [(2, .int 0), (3, .int 2), (0, .ref mo), (1, .int 5)]) d_Model_actOf_24 rfl (by decide) rfl ?_
  refine j_iinc (pc := 25) C (v := 3) (lv' := [(3, .int 3), (2, .int 0), (0, .ref mo), (1, .int 5)]) d_Model_actOf_25 1 rfl (by decide) (by decide) rfl ?_
  refine j_goto (pc := 28) C (tgt := 4) d_Model_actOf_28 (by decide) ?_
  refine j_iload_n (pc := 4) C d_Model_actOf_4 rfl 0 rfl ?_
  refine j_iload_n (pc := 5) C d_Model_actOf_5 rfl 3 rfl ?_
  refine j_icmp_geF (pc := 6) C (tgt := 31) d_Model_actOf_6 (by decide) (by decide) ?_
  refine j_iconst (pc := 9) C (v := 3) d_Model_actOf_9 (by decide) ?_
  refine j_iload_n (pc := 10) C d_Model_actOf_10 rfl 1 rfl ?_
  refine j_imul (pc := 11) C (v := 0) d_Model_actOf_11 (by decide) ?_
  refine j_aload_n (pc := 12) C d_Model_actOf_12 rfl 2 rfl ?_
  refine j_get (pc := 13) C gf_Model_176 1 rfl rfl d_Model_actOf_13 ?_
  refine j_aload_n (pc := 16) C d_Model_actOf_16 rfl 2 rfl ?_
  refine j_iload_n (pc := 17) C d_Model_actOf_17 rfl 0 rfl ?_
  refine j_iload_n (pc := 18) C d_Model_actOf_18 rfl 1 rfl ?_
  refine j_callVi (pc := 19) C (c_M_placeOf_3 l D y mo ad) kw_Model_501 kv_Model_placeOf 0 10 rfl rfl ⟨by decide, by decide⟩ ⟨by decide, by decide⟩ (wr := [(ad 71, .inl (y 0, 1093, .inl (fun _ => 0)))]) [1, 2] [0] rfl rfl (by decide) (by decide) (by decide) (As := [.int 3, .int 0]) (rest := [.ref (ad 71), .int 0]) rfl (nb rfl) rfl d_Model_actOf_19 (fun r4 _ hr4 => ?_)
  subst hr4
  refine j_ws (ws' := [(ad 71, .inl (y 0, 1093, .inl (fun _ => 0))), MB mo ad 0 0 0 0 0 0 0 (-1) 0 0 0 0 0 0 0 0 0 0 1 0, (ad 72, .inl (y 0, 7, .inl powF))]) rfl ?_
  refine j_st (st' := [.int 13, .ref (ad 71), .int 0]) rfl ?_
  refine j_iald (pc := 22) C 0 rfl (v := 0) (vin (by decide)) rfl d_Model_actOf_22 ?_
  refine j_iadd (pc := 23) C (v := 0) d_Model_actOf_23 (by decide) ?_
  refine j_istore_n (pc := 24) C (lv' := [(2, .int 0), (3, .int 3), (0, .ref mo), (1, .int 5)]) d_Model_actOf_24 rfl (by decide) rfl ?_
  refine j_iinc (pc := 25) C (v := 4) (lv' := [(3, .int 4), (2, .int 0), (0, .ref mo), (1, .int 5)]) d_Model_actOf_25 1 rfl (by decide) (by decide) rfl ?_
  refine j_goto (pc := 28) C (tgt := 4) d_Model_actOf_28 (by decide) ?_
  refine j_iload_n (pc := 4) C d_Model_actOf_4 rfl 0 rfl ?_
  refine j_iload_n (pc := 5) C d_Model_actOf_5 rfl 3 rfl ?_
  refine j_icmp_geF (pc := 6) C (tgt := 31) d_Model_actOf_6 (by decide) (by decide) ?_
  refine j_iconst (pc := 9) C (v := 3) d_Model_actOf_9 (by decide) ?_
  refine j_iload_n (pc := 10) C d_Model_actOf_10 rfl 1 rfl ?_
  refine j_imul (pc := 11) C (v := 0) d_Model_actOf_11 (by decide) ?_
  refine j_aload_n (pc := 12) C d_Model_actOf_12 rfl 2 rfl ?_
  refine j_get (pc := 13) C gf_Model_176 1 rfl rfl d_Model_actOf_13 ?_
  refine j_aload_n (pc := 16) C d_Model_actOf_16 rfl 2 rfl ?_
  refine j_iload_n (pc := 17) C d_Model_actOf_17 rfl 0 rfl ?_
  refine j_iload_n (pc := 18) C d_Model_actOf_18 rfl 1 rfl ?_
  refine j_callVi (pc := 19) C (c_M_placeOf_4 l D y mo ad) kw_Model_501 kv_Model_placeOf 0 10 rfl rfl ⟨by decide, by decide⟩ ⟨by decide, by decide⟩ (wr := [(ad 71, .inl (y 0, 1093, .inl (fun _ => 0)))]) [1, 2] [0] rfl rfl (by decide) (by decide) (by decide) (As := [.int 4, .int 0]) (rest := [.ref (ad 71), .int 0]) rfl (nb rfl) rfl d_Model_actOf_19 (fun r5 _ hr5 => ?_)
  subst hr5
  refine j_ws (ws' := [(ad 71, .inl (y 0, 1093, .inl (fun _ => 0))), MB mo ad 0 0 0 0 0 0 0 (-1) 0 0 0 0 0 0 0 0 0 0 1 0, (ad 72, .inl (y 0, 7, .inl powF))]) rfl ?_
  refine j_st (st' := [.int 40, .ref (ad 71), .int 0]) rfl ?_
  refine j_iald (pc := 22) C 0 rfl (v := 0) (vin (by decide)) rfl d_Model_actOf_22 ?_
  refine j_iadd (pc := 23) C (v := 0) d_Model_actOf_23 (by decide) ?_
  refine j_istore_n (pc := 24) C (lv' := [(2, .int 0), (3, .int 4), (0, .ref mo), (1, .int 5)]) d_Model_actOf_24 rfl (by decide) rfl ?_
  refine j_iinc (pc := 25) C (v := 5) (lv' := [(3, .int 5), (2, .int 0), (0, .ref mo), (1, .int 5)]) d_Model_actOf_25 1 rfl (by decide) (by decide) rfl ?_
  refine j_goto (pc := 28) C (tgt := 4) d_Model_actOf_28 (by decide) ?_
  refine j_iload_n (pc := 4) C d_Model_actOf_4 rfl 0 rfl ?_
  refine j_iload_n (pc := 5) C d_Model_actOf_5 rfl 3 rfl ?_
  refine j_icmp_geT (pc := 6) C (tgt := 31) d_Model_actOf_6 (by decide) (by decide) ?_
  refine j_aload_n (pc := 31) C d_Model_actOf_31 rfl 2 rfl ?_
  refine j_get (pc := 32) C gf_Model_176 1 rfl rfl d_Model_actOf_32 ?_
  refine j_aload_n (pc := 35) C d_Model_actOf_35 rfl 2 rfl ?_
  refine j_iload_n (pc := 36) C d_Model_actOf_36 rfl 3 rfl ?_
  refine j_iload_n (pc := 37) C d_Model_actOf_37 rfl 1 rfl ?_
  refine j_callVi (pc := 38) C (c_M_placeOf_5 l D y mo ad) kw_Model_501 kv_Model_placeOf 0 10 rfl rfl ⟨by decide, by decide⟩ ⟨by decide, by decide⟩ (wr := [(ad 71, .inl (y 0, 1093, .inl (fun _ => 0)))]) [1, 2] [0] rfl rfl (by decide) (by decide) (by decide) (As := [.int 5, .int 0]) (rest := [.ref (ad 71)]) rfl (nb rfl) rfl d_Model_actOf_38 (fun r6 _ hr6 => ?_)
  subst hr6
  refine j_ws (ws' := [(ad 71, .inl (y 0, 1093, .inl (fun _ => 0))), MB mo ad 0 0 0 0 0 0 0 (-1) 0 0 0 0 0 0 0 0 0 0 1 0, (ad 72, .inl (y 0, 7, .inl powF))]) rfl ?_
  refine j_st (st' := [.int 121, .ref (ad 71)]) rfl ?_
  refine j_iald (pc := 41) C 0 rfl (v := 0) (vin (by decide)) rfl d_Model_actOf_41 ?_
  exact j_iret (pc := 42) C hr rfl () rfl [] rfl (by decide) (by decide) (by decide) d_Model_actOf_42
theorem d_Model_sumOfGets_0 : decode prog_13_method_94_code 0 = .ok (.iconst 0, 1) := by decide +kernel
theorem d_Model_sumOfGets_1 : decode prog_13_method_94_code 1 = .ok (.istore_n 1, 1) := by decide +kernel
theorem d_Model_sumOfGets_2 : decode prog_13_method_94_code 2 = .ok (.iconst 0, 1) := by decide +kernel
theorem d_Model_sumOfGets_3 : decode prog_13_method_94_code 3 = .ok (.istore_n 2, 1) := by decide +kernel
theorem d_Model_sumOfGets_4 : decode prog_13_method_94_code 4 = .ok (.iload_n 2, 1) := by decide +kernel
theorem d_Model_sumOfGets_5 : decode prog_13_method_94_code 5 = .ok (.aload_n 0, 1) := by decide +kernel
theorem d_Model_sumOfGets_6 : decode prog_13_method_94_code 6 = .ok (.invokevirtual 448, 3) := by decide +kernel
theorem d_Model_sumOfGets_9 : decode prog_13_method_94_code 9 = .ok (.if_icmp .ge 18, 3) := by decide +kernel
theorem d_Model_sumOfGets_27 : decode prog_13_method_94_code 27 = .ok (.iload_n 1, 1) := by decide +kernel
theorem d_Model_sumOfGets_28 : decode prog_13_method_94_code 28 = .ok (.ireturn, 1) := by decide +kernel
set_option maxHeartbeats 4000000 in
set_option maxRecDepth 100000 in
theorem c_M_sumOfGets (l : Launch) (D : va_G) (y : Nat → ClassId) (mo : Nat) (ad : Nat → Nat)  : CT l D y ⟨"NineBoardsModel", "sumOfGets", "()I"⟩ prog_13_method_94_code 3 (some .int) ({ frames := 1, cells := 0, slots := 0, locals := 20 } : Room) [.ref mo] [MB mo ad 0 0 0 0 0 0 0 (-1) 0 0 0 0 0 0 0 0 0 0 1 0, (ad 43, .inl (y 0, 8, .inl (fun _ => 0)))] (QI D [MB mo ad 0 0 0 0 0 0 0 (-1) 0 0 0 0 0 0 0 0 0 0 1 0, (ad 43, .inl (y 0, 8, .inl (fun _ => 0)))] (fun (r : Int32) (_ : Unit) => r = 0) (fun _ => [])) := by
  refine CT.of (by decide) (nb rfl) ?_
  intro p e s m args below meth c C hr
  refine j_lv (lv' := [(0, .ref mo)]) rfl ?_
  refine j_iconst (pc := 0) C (v := 0) d_Model_sumOfGets_0 (by decide) ?_
  refine j_istore_n (pc := 1) C (lv' := [(1, .int 0), (0, .ref mo)]) d_Model_sumOfGets_1 rfl (by decide) rfl ?_
  refine j_iconst (pc := 2) C (v := 0) d_Model_sumOfGets_2 (by decide) ?_
  refine j_istore_n (pc := 3) C (lv' := [(2, .int 0), (1, .int 0), (0, .ref mo)]) d_Model_sumOfGets_3 rfl (by decide) rfl ?_
  refine j_iload_n (pc := 4) C d_Model_sumOfGets_4 rfl 0 rfl ?_
  refine j_aload_n (pc := 5) C d_Model_sumOfGets_5 rfl 2 rfl ?_
  refine j_callVi (pc := 6) C (c_M_villages l D y mo ad 0 0 1) kw_Model_448 kv_Model_villages 0 10 rfl rfl ⟨by decide, by decide⟩ ⟨by decide, by decide⟩ (wr := []) [0, 1] [] rfl rfl (by decide) (by decide) (by decide) (As := []) (rest := [.int 0]) rfl (nb rfl) rfl d_Model_sumOfGets_6 (fun r1 _ hr1 => ?_)
  subst hr1
  refine j_ws (ws' := [MB mo ad 0 0 0 0 0 0 0 (-1) 0 0 0 0 0 0 0 0 0 0 1 0, (ad 43, .inl (y 0, 8, .inl (fun _ => 0)))]) rfl ?_
  refine j_st (st' := [.int 0, .int 0]) rfl ?_
  refine j_icmp_geT (pc := 9) C (tgt := 27) d_Model_sumOfGets_9 (by decide) (by decide) ?_
  refine j_iload_n (pc := 27) C d_Model_sumOfGets_27 rfl 1 rfl ?_
  exact j_iret (pc := 28) C hr rfl () rfl [] rfl (by decide) (by decide) (by decide) d_Model_sumOfGets_28
set_option maxHeartbeats 4000000 in
set_option maxRecDepth 100000 in
theorem c_M_canPlan_1 (l : Launch) (D : va_G) (y : Nat → ClassId) (mo : Nat) (ad : Nat → Nat)  : CT l D y ⟨"NineBoardsModel", "canPlan", "(I)Z"⟩ prog_13_method_92_code 2 (some .boolean) ({ frames := 1, cells := 0, slots := 0, locals := 25 } : Room) [.ref mo, .int 1] [MB mo ad 0 0 0 0 0 0 0 (-1) 0 0 0 0 0 0 0 0 0 0 1 0, (ad 62, .inl (y 0, 63, .inl (dayF 0)))] (QI D [MB mo ad 0 0 0 0 0 0 0 (-1) 0 0 0 0 0 0 0 0 0 0 1 0, (ad 62, .inl (y 0, 63, .inl (dayF 0)))] (fun (r : Int32) (_ : Unit) => r = 1) (fun _ => [MB mo ad 0 0 0 0 0 0 0 (-1) 0 0 0 0 0 0 0 0 0 0 1 0, (ad 62, .inl (y 0, 63, .inl (dayF 0)))])) := by
  refine CT.of (by decide) (nb rfl) ?_
  intro p e s m args below meth c C hr
  refine j_lv (lv' := [(0, .ref mo), (1, .int 1)]) rfl ?_
  refine j_iload_n (pc := 0) C d_Model_canPlan_0 rfl 1 rfl ?_
  refine j_i2l (pc := 1) C (v := 1) d_Model_canPlan_1 (by decide) ?_
  refine j_lconst (pc := 2) C (v := 1) d_Model_canPlan_2 (by decide) ?_
  refine j_ldc2 (pc := 3) C (v := 6) (mt_7 (List.mem_of_getElem? (i := 189) rfl) rfl) d_Model_canPlan_3 ?_
  refine j_callSi (pc := 6) C (c_isIn_c l D y 1 1 6 1 1 6 (by decide) (by decide) (by decide)) kw_Model_240 ks_Model_isIn ⟨by decide, by decide⟩ ⟨by decide, by decide⟩ (wr := [MB mo ad 0 0 0 0 0 0 0 (-1) 0 0 0 0 0 0 0 0 0 0 1 0, (ad 62, .inl (y 0, 63, .inl (dayF 0)))]) [] [0, 1] rfl rfl (by decide) (by decide) (by decide) (As := [.long 1, .long 1, .long 6]) (rest := []) rfl (nb rfl) rfl d_Model_canPlan_6 (fun r1 _ hr1 => ?_)
  refine j_ws (ws' := [MB mo ad 0 0 0 0 0 0 0 (-1) 0 0 0 0 0 0 0 0 0 0 1 0, (ad 62, .inl (y 0, 63, .inl (dayF 0)))]) rfl ?_
  rw [if_pos (by decide)] at hr1
  subst hr1
  refine j_if_eqF (pc := 9) C (tgt := 30) d_Model_canPlan_9 (by decide) (by decide) ?_
  refine j_aload_n (pc := 12) C d_Model_canPlan_12 rfl 0 rfl ?_
  refine j_get (pc := 13) C gf_Model_158 0 rfl rfl d_Model_canPlan_13 ?_
  refine j_iconst (pc := 16) C (v := 0) d_Model_canPlan_16 (by decide) ?_
  refine j_iald (pc := 17) C 1 rfl (v := 0) (vin (by decide)) rfl d_Model_canPlan_17 ?_
  refine j_iload_n (pc := 18) C d_Model_canPlan_18 rfl 1 rfl ?_
  refine j_iadd (pc := 19) C (v := 1) d_Model_canPlan_19 (by decide) ?_
  refine j_sipush (pc := 20) C (v := 999) d_Model_canPlan_20 (by decide) ?_
  refine j_icmp_gtF (pc := 23) C (tgt := 30) d_Model_canPlan_23 (by decide) (by decide) ?_
  refine j_iconst (pc := 26) C (v := 1) d_Model_canPlan_26 (by decide) ?_
  refine j_goto (pc := 27) C (tgt := 31) d_Model_canPlan_27 (by decide) ?_
  exact j_iret (pc := 31) C hr (by decide) () rfl [0, 1] rfl (by decide) (by decide) (by decide) d_Model_canPlan_31
set_option maxHeartbeats 4000000 in
set_option maxRecDepth 100000 in
theorem c_M_canPlan_2 (l : Launch) (D : va_G) (y : Nat → ClassId) (mo : Nat) (ad : Nat → Nat)  : CT l D y ⟨"NineBoardsModel", "canPlan", "(I)Z"⟩ prog_13_method_92_code 2 (some .boolean) ({ frames := 1, cells := 0, slots := 0, locals := 25 } : Room) [.ref mo, .int 2] [MB mo ad 0 0 0 0 0 0 0 (-1) 0 0 0 0 0 0 0 0 0 0 1 0, (ad 62, .inl (y 0, 63, .inl (dayF 0)))] (QI D [MB mo ad 0 0 0 0 0 0 0 (-1) 0 0 0 0 0 0 0 0 0 0 1 0, (ad 62, .inl (y 0, 63, .inl (dayF 0)))] (fun (r : Int32) (_ : Unit) => r = 1) (fun _ => [MB mo ad 0 0 0 0 0 0 0 (-1) 0 0 0 0 0 0 0 0 0 0 1 0, (ad 62, .inl (y 0, 63, .inl (dayF 0)))])) := by
  refine CT.of (by decide) (nb rfl) ?_
  intro p e s m args below meth c C hr
  refine j_lv (lv' := [(0, .ref mo), (1, .int 2)]) rfl ?_
  refine j_iload_n (pc := 0) C d_Model_canPlan_0 rfl 1 rfl ?_
  refine j_i2l (pc := 1) C (v := 2) d_Model_canPlan_1 (by decide) ?_
  refine j_lconst (pc := 2) C (v := 1) d_Model_canPlan_2 (by decide) ?_
  refine j_ldc2 (pc := 3) C (v := 6) (mt_7 (List.mem_of_getElem? (i := 189) rfl) rfl) d_Model_canPlan_3 ?_
  refine j_callSi (pc := 6) C (c_isIn_c l D y 2 1 6 2 1 6 (by decide) (by decide) (by decide)) kw_Model_240 ks_Model_isIn ⟨by decide, by decide⟩ ⟨by decide, by decide⟩ (wr := [MB mo ad 0 0 0 0 0 0 0 (-1) 0 0 0 0 0 0 0 0 0 0 1 0, (ad 62, .inl (y 0, 63, .inl (dayF 0)))]) [] [0, 1] rfl rfl (by decide) (by decide) (by decide) (As := [.long 2, .long 1, .long 6]) (rest := []) rfl (nb rfl) rfl d_Model_canPlan_6 (fun r1 _ hr1 => ?_)
  refine j_ws (ws' := [MB mo ad 0 0 0 0 0 0 0 (-1) 0 0 0 0 0 0 0 0 0 0 1 0, (ad 62, .inl (y 0, 63, .inl (dayF 0)))]) rfl ?_
  rw [if_pos (by decide)] at hr1
  subst hr1
  refine j_if_eqF (pc := 9) C (tgt := 30) d_Model_canPlan_9 (by decide) (by decide) ?_
  refine j_aload_n (pc := 12) C d_Model_canPlan_12 rfl 0 rfl ?_
  refine j_get (pc := 13) C gf_Model_158 0 rfl rfl d_Model_canPlan_13 ?_
  refine j_iconst (pc := 16) C (v := 0) d_Model_canPlan_16 (by decide) ?_
  refine j_iald (pc := 17) C 1 rfl (v := 0) (vin (by decide)) rfl d_Model_canPlan_17 ?_
  refine j_iload_n (pc := 18) C d_Model_canPlan_18 rfl 1 rfl ?_
  refine j_iadd (pc := 19) C (v := 2) d_Model_canPlan_19 (by decide) ?_
  refine j_sipush (pc := 20) C (v := 999) d_Model_canPlan_20 (by decide) ?_
  refine j_icmp_gtF (pc := 23) C (tgt := 30) d_Model_canPlan_23 (by decide) (by decide) ?_
  refine j_iconst (pc := 26) C (v := 1) d_Model_canPlan_26 (by decide) ?_
  refine j_goto (pc := 27) C (tgt := 31) d_Model_canPlan_27 (by decide) ?_
  exact j_iret (pc := 31) C hr (by decide) () rfl [0, 1] rfl (by decide) (by decide) (by decide) d_Model_canPlan_31
set_option maxHeartbeats 4000000 in
set_option maxRecDepth 100000 in
theorem c_M_canPlan_3 (l : Launch) (D : va_G) (y : Nat → ClassId) (mo : Nat) (ad : Nat → Nat)  : CT l D y ⟨"NineBoardsModel", "canPlan", "(I)Z"⟩ prog_13_method_92_code 2 (some .boolean) ({ frames := 1, cells := 0, slots := 0, locals := 25 } : Room) [.ref mo, .int 3] [MB mo ad 0 0 0 0 0 0 0 (-1) 0 0 0 0 0 0 0 0 0 0 1 0, (ad 62, .inl (y 0, 63, .inl (dayF 0)))] (QI D [MB mo ad 0 0 0 0 0 0 0 (-1) 0 0 0 0 0 0 0 0 0 0 1 0, (ad 62, .inl (y 0, 63, .inl (dayF 0)))] (fun (r : Int32) (_ : Unit) => r = 1) (fun _ => [MB mo ad 0 0 0 0 0 0 0 (-1) 0 0 0 0 0 0 0 0 0 0 1 0, (ad 62, .inl (y 0, 63, .inl (dayF 0)))])) := by
  refine CT.of (by decide) (nb rfl) ?_
  intro p e s m args below meth c C hr
  refine j_lv (lv' := [(0, .ref mo), (1, .int 3)]) rfl ?_
  refine j_iload_n (pc := 0) C d_Model_canPlan_0 rfl 1 rfl ?_
  refine j_i2l (pc := 1) C (v := 3) d_Model_canPlan_1 (by decide) ?_
  refine j_lconst (pc := 2) C (v := 1) d_Model_canPlan_2 (by decide) ?_
  refine j_ldc2 (pc := 3) C (v := 6) (mt_7 (List.mem_of_getElem? (i := 189) rfl) rfl) d_Model_canPlan_3 ?_
  refine j_callSi (pc := 6) C (c_isIn_c l D y 3 1 6 3 1 6 (by decide) (by decide) (by decide)) kw_Model_240 ks_Model_isIn ⟨by decide, by decide⟩ ⟨by decide, by decide⟩ (wr := [MB mo ad 0 0 0 0 0 0 0 (-1) 0 0 0 0 0 0 0 0 0 0 1 0, (ad 62, .inl (y 0, 63, .inl (dayF 0)))]) [] [0, 1] rfl rfl (by decide) (by decide) (by decide) (As := [.long 3, .long 1, .long 6]) (rest := []) rfl (nb rfl) rfl d_Model_canPlan_6 (fun r1 _ hr1 => ?_)
  refine j_ws (ws' := [MB mo ad 0 0 0 0 0 0 0 (-1) 0 0 0 0 0 0 0 0 0 0 1 0, (ad 62, .inl (y 0, 63, .inl (dayF 0)))]) rfl ?_
  rw [if_pos (by decide)] at hr1
  subst hr1
  refine j_if_eqF (pc := 9) C (tgt := 30) d_Model_canPlan_9 (by decide) (by decide) ?_
  refine j_aload_n (pc := 12) C d_Model_canPlan_12 rfl 0 rfl ?_
  refine j_get (pc := 13) C gf_Model_158 0 rfl rfl d_Model_canPlan_13 ?_
  refine j_iconst (pc := 16) C (v := 0) d_Model_canPlan_16 (by decide) ?_
  refine j_iald (pc := 17) C 1 rfl (v := 0) (vin (by decide)) rfl d_Model_canPlan_17 ?_
  refine j_iload_n (pc := 18) C d_Model_canPlan_18 rfl 1 rfl ?_
  refine j_iadd (pc := 19) C (v := 3) d_Model_canPlan_19 (by decide) ?_
  refine j_sipush (pc := 20) C (v := 999) d_Model_canPlan_20 (by decide) ?_
  refine j_icmp_gtF (pc := 23) C (tgt := 30) d_Model_canPlan_23 (by decide) (by decide) ?_
  refine j_iconst (pc := 26) C (v := 1) d_Model_canPlan_26 (by decide) ?_
  refine j_goto (pc := 27) C (tgt := 31) d_Model_canPlan_27 (by decide) ?_
  exact j_iret (pc := 31) C hr (by decide) () rfl [0, 1] rfl (by decide) (by decide) (by decide) d_Model_canPlan_31
set_option maxHeartbeats 4000000 in
set_option maxRecDepth 100000 in
theorem c_M_canPlan_4 (l : Launch) (D : va_G) (y : Nat → ClassId) (mo : Nat) (ad : Nat → Nat)  : CT l D y ⟨"NineBoardsModel", "canPlan", "(I)Z"⟩ prog_13_method_92_code 2 (some .boolean) ({ frames := 1, cells := 0, slots := 0, locals := 25 } : Room) [.ref mo, .int 4] [MB mo ad 0 0 0 0 0 0 0 (-1) 0 0 0 0 0 0 0 0 0 0 1 0, (ad 62, .inl (y 0, 63, .inl (dayF 0)))] (QI D [MB mo ad 0 0 0 0 0 0 0 (-1) 0 0 0 0 0 0 0 0 0 0 1 0, (ad 62, .inl (y 0, 63, .inl (dayF 0)))] (fun (r : Int32) (_ : Unit) => r = 1) (fun _ => [MB mo ad 0 0 0 0 0 0 0 (-1) 0 0 0 0 0 0 0 0 0 0 1 0, (ad 62, .inl (y 0, 63, .inl (dayF 0)))])) := by
  refine CT.of (by decide) (nb rfl) ?_
  intro p e s m args below meth c C hr
  refine j_lv (lv' := [(0, .ref mo), (1, .int 4)]) rfl ?_
  refine j_iload_n (pc := 0) C d_Model_canPlan_0 rfl 1 rfl ?_
  refine j_i2l (pc := 1) C (v := 4) d_Model_canPlan_1 (by decide) ?_
  refine j_lconst (pc := 2) C (v := 1) d_Model_canPlan_2 (by decide) ?_
  refine j_ldc2 (pc := 3) C (v := 6) (mt_7 (List.mem_of_getElem? (i := 189) rfl) rfl) d_Model_canPlan_3 ?_
  refine j_callSi (pc := 6) C (c_isIn_c l D y 4 1 6 4 1 6 (by decide) (by decide) (by decide)) kw_Model_240 ks_Model_isIn ⟨by decide, by decide⟩ ⟨by decide, by decide⟩ (wr := [MB mo ad 0 0 0 0 0 0 0 (-1) 0 0 0 0 0 0 0 0 0 0 1 0, (ad 62, .inl (y 0, 63, .inl (dayF 0)))]) [] [0, 1] rfl rfl (by decide) (by decide) (by decide) (As := [.long 4, .long 1, .long 6]) (rest := []) rfl (nb rfl) rfl d_Model_canPlan_6 (fun r1 _ hr1 => ?_)
  refine j_ws (ws' := [MB mo ad 0 0 0 0 0 0 0 (-1) 0 0 0 0 0 0 0 0 0 0 1 0, (ad 62, .inl (y 0, 63, .inl (dayF 0)))]) rfl ?_
  rw [if_pos (by decide)] at hr1
  subst hr1
  refine j_if_eqF (pc := 9) C (tgt := 30) d_Model_canPlan_9 (by decide) (by decide) ?_
  refine j_aload_n (pc := 12) C d_Model_canPlan_12 rfl 0 rfl ?_
  refine j_get (pc := 13) C gf_Model_158 0 rfl rfl d_Model_canPlan_13 ?_
  refine j_iconst (pc := 16) C (v := 0) d_Model_canPlan_16 (by decide) ?_
  refine j_iald (pc := 17) C 1 rfl (v := 0) (vin (by decide)) rfl d_Model_canPlan_17 ?_
  refine j_iload_n (pc := 18) C d_Model_canPlan_18 rfl 1 rfl ?_
  refine j_iadd (pc := 19) C (v := 4) d_Model_canPlan_19 (by decide) ?_
  refine j_sipush (pc := 20) C (v := 999) d_Model_canPlan_20 (by decide) ?_
  refine j_icmp_gtF (pc := 23) C (tgt := 30) d_Model_canPlan_23 (by decide) (by decide) ?_
  refine j_iconst (pc := 26) C (v := 1) d_Model_canPlan_26 (by decide) ?_
  refine j_goto (pc := 27) C (tgt := 31) d_Model_canPlan_27 (by decide) ?_
  exact j_iret (pc := 31) C hr (by decide) () rfl [0, 1] rfl (by decide) (by decide) (by decide) d_Model_canPlan_31
set_option maxHeartbeats 4000000 in
set_option maxRecDepth 100000 in
theorem c_M_canPlan_5 (l : Launch) (D : va_G) (y : Nat → ClassId) (mo : Nat) (ad : Nat → Nat)  : CT l D y ⟨"NineBoardsModel", "canPlan", "(I)Z"⟩ prog_13_method_92_code 2 (some .boolean) ({ frames := 1, cells := 0, slots := 0, locals := 25 } : Room) [.ref mo, .int 5] [MB mo ad 0 0 0 0 0 0 0 (-1) 0 0 0 0 0 0 0 0 0 0 1 0, (ad 62, .inl (y 0, 63, .inl (dayF 0)))] (QI D [MB mo ad 0 0 0 0 0 0 0 (-1) 0 0 0 0 0 0 0 0 0 0 1 0, (ad 62, .inl (y 0, 63, .inl (dayF 0)))] (fun (r : Int32) (_ : Unit) => r = 1) (fun _ => [MB mo ad 0 0 0 0 0 0 0 (-1) 0 0 0 0 0 0 0 0 0 0 1 0, (ad 62, .inl (y 0, 63, .inl (dayF 0)))])) := by
  refine CT.of (by decide) (nb rfl) ?_
  intro p e s m args below meth c C hr
  refine j_lv (lv' := [(0, .ref mo), (1, .int 5)]) rfl ?_
  refine j_iload_n (pc := 0) C d_Model_canPlan_0 rfl 1 rfl ?_
  refine j_i2l (pc := 1) C (v := 5) d_Model_canPlan_1 (by decide) ?_
  refine j_lconst (pc := 2) C (v := 1) d_Model_canPlan_2 (by decide) ?_
  refine j_ldc2 (pc := 3) C (v := 6) (mt_7 (List.mem_of_getElem? (i := 189) rfl) rfl) d_Model_canPlan_3 ?_
  refine j_callSi (pc := 6) C (c_isIn_c l D y 5 1 6 5 1 6 (by decide) (by decide) (by decide)) kw_Model_240 ks_Model_isIn ⟨by decide, by decide⟩ ⟨by decide, by decide⟩ (wr := [MB mo ad 0 0 0 0 0 0 0 (-1) 0 0 0 0 0 0 0 0 0 0 1 0, (ad 62, .inl (y 0, 63, .inl (dayF 0)))]) [] [0, 1] rfl rfl (by decide) (by decide) (by decide) (As := [.long 5, .long 1, .long 6]) (rest := []) rfl (nb rfl) rfl d_Model_canPlan_6 (fun r1 _ hr1 => ?_)
  refine j_ws (ws' := [MB mo ad 0 0 0 0 0 0 0 (-1) 0 0 0 0 0 0 0 0 0 0 1 0, (ad 62, .inl (y 0, 63, .inl (dayF 0)))]) rfl ?_
  rw [if_pos (by decide)] at hr1
  subst hr1
  refine j_if_eqF (pc := 9) C (tgt := 30) d_Model_canPlan_9 (by decide) (by decide) ?_
  refine j_aload_n (pc := 12) C d_Model_canPlan_12 rfl 0 rfl ?_
  refine j_get (pc := 13) C gf_Model_158 0 rfl rfl d_Model_canPlan_13 ?_
  refine j_iconst (pc := 16) C (v := 0) d_Model_canPlan_16 (by decide) ?_
  refine j_iald (pc := 17) C 1 rfl (v := 0) (vin (by decide)) rfl d_Model_canPlan_17 ?_
  refine j_iload_n (pc := 18) C d_Model_canPlan_18 rfl 1 rfl ?_
  refine j_iadd (pc := 19) C (v := 5) d_Model_canPlan_19 (by decide) ?_
  refine j_sipush (pc := 20) C (v := 999) d_Model_canPlan_20 (by decide) ?_
  refine j_icmp_gtF (pc := 23) C (tgt := 30) d_Model_canPlan_23 (by decide) (by decide) ?_
  refine j_iconst (pc := 26) C (v := 1) d_Model_canPlan_26 (by decide) ?_
  refine j_goto (pc := 27) C (tgt := 31) d_Model_canPlan_27 (by decide) ?_
  exact j_iret (pc := 31) C hr (by decide) () rfl [0, 1] rfl (by decide) (by decide) (by decide) d_Model_canPlan_31
set_option maxHeartbeats 4000000 in
set_option maxRecDepth 100000 in
theorem c_M_canPlan_6 (l : Launch) (D : va_G) (y : Nat → ClassId) (mo : Nat) (ad : Nat → Nat)  : CT l D y ⟨"NineBoardsModel", "canPlan", "(I)Z"⟩ prog_13_method_92_code 2 (some .boolean) ({ frames := 1, cells := 0, slots := 0, locals := 25 } : Room) [.ref mo, .int 6] [MB mo ad 0 0 0 0 0 0 0 (-1) 0 0 0 0 0 0 0 0 0 0 1 0, (ad 62, .inl (y 0, 63, .inl (dayF 0)))] (QI D [MB mo ad 0 0 0 0 0 0 0 (-1) 0 0 0 0 0 0 0 0 0 0 1 0, (ad 62, .inl (y 0, 63, .inl (dayF 0)))] (fun (r : Int32) (_ : Unit) => r = 1) (fun _ => [MB mo ad 0 0 0 0 0 0 0 (-1) 0 0 0 0 0 0 0 0 0 0 1 0, (ad 62, .inl (y 0, 63, .inl (dayF 0)))])) := by
  refine CT.of (by decide) (nb rfl) ?_
  intro p e s m args below meth c C hr
  refine j_lv (lv' := [(0, .ref mo), (1, .int 6)]) rfl ?_
  refine j_iload_n (pc := 0) C d_Model_canPlan_0 rfl 1 rfl ?_
  refine j_i2l (pc := 1) C (v := 6) d_Model_canPlan_1 (by decide) ?_
  refine j_lconst (pc := 2) C (v := 1) d_Model_canPlan_2 (by decide) ?_
  refine j_ldc2 (pc := 3) C (v := 6) (mt_7 (List.mem_of_getElem? (i := 189) rfl) rfl) d_Model_canPlan_3 ?_
  refine j_callSi (pc := 6) C (c_isIn_c l D y 6 1 6 6 1 6 (by decide) (by decide) (by decide)) kw_Model_240 ks_Model_isIn ⟨by decide, by decide⟩ ⟨by decide, by decide⟩ (wr := [MB mo ad 0 0 0 0 0 0 0 (-1) 0 0 0 0 0 0 0 0 0 0 1 0, (ad 62, .inl (y 0, 63, .inl (dayF 0)))]) [] [0, 1] rfl rfl (by decide) (by decide) (by decide) (As := [.long 6, .long 1, .long 6]) (rest := []) rfl (nb rfl) rfl d_Model_canPlan_6 (fun r1 _ hr1 => ?_)
  refine j_ws (ws' := [MB mo ad 0 0 0 0 0 0 0 (-1) 0 0 0 0 0 0 0 0 0 0 1 0, (ad 62, .inl (y 0, 63, .inl (dayF 0)))]) rfl ?_
  rw [if_pos (by decide)] at hr1
  subst hr1
  refine j_if_eqF (pc := 9) C (tgt := 30) d_Model_canPlan_9 (by decide) (by decide) ?_
  refine j_aload_n (pc := 12) C d_Model_canPlan_12 rfl 0 rfl ?_
  refine j_get (pc := 13) C gf_Model_158 0 rfl rfl d_Model_canPlan_13 ?_
  refine j_iconst (pc := 16) C (v := 0) d_Model_canPlan_16 (by decide) ?_
  refine j_iald (pc := 17) C 1 rfl (v := 0) (vin (by decide)) rfl d_Model_canPlan_17 ?_
  refine j_iload_n (pc := 18) C d_Model_canPlan_18 rfl 1 rfl ?_
  refine j_iadd (pc := 19) C (v := 6) d_Model_canPlan_19 (by decide) ?_
  refine j_sipush (pc := 20) C (v := 999) d_Model_canPlan_20 (by decide) ?_
  refine j_icmp_gtF (pc := 23) C (tgt := 30) d_Model_canPlan_23 (by decide) (by decide) ?_
  refine j_iconst (pc := 26) C (v := 1) d_Model_canPlan_26 (by decide) ?_
  refine j_goto (pc := 27) C (tgt := 31) d_Model_canPlan_27 (by decide) ?_
  exact j_iret (pc := 31) C hr (by decide) () rfl [0, 1] rfl (by decide) (by decide) (by decide) d_Model_canPlan_31
set_option maxHeartbeats 4000000 in
set_option maxRecDepth 100000 in
theorem c_M_canPlan_F (l : Launch) (D : va_G) (y : Nat → ClassId) (mo : Nat) (ad : Nat → Nat) (n : Int32) (hx : ¬ (1 ≤ n.toInt ∧ n.toInt ≤ 6)) : CT l D y ⟨"NineBoardsModel", "canPlan", "(I)Z"⟩ prog_13_method_92_code 2 (some .boolean) ({ frames := 1, cells := 0, slots := 0, locals := 25 } : Room) [.ref mo, .int n] [MB mo ad 0 0 0 0 0 0 0 (-1) 0 0 0 0 0 0 0 0 0 0 1 0, (ad 62, .inl (y 0, 63, .inl (dayF 0)))] (QI D [MB mo ad 0 0 0 0 0 0 0 (-1) 0 0 0 0 0 0 0 0 0 0 1 0, (ad 62, .inl (y 0, 63, .inl (dayF 0)))] (fun (r : Int32) (_ : Unit) => r = 0) (fun _ => [MB mo ad 0 0 0 0 0 0 0 (-1) 0 0 0 0 0 0 0 0 0 0 1 0, (ad 62, .inl (y 0, 63, .inl (dayF 0)))])) := by
  refine CT.of (by decide) (nb rfl) ?_
  intro p e s m args below meth c C hr
  refine j_lv (lv' := [(0, .ref mo), (1, .int n)]) rfl ?_
  refine j_iload_n (pc := 0) C d_Model_canPlan_0 rfl 1 rfl ?_
  refine j_i2l (pc := 1) C (v := n.toInt64) d_Model_canPlan_1 rfl ?_
  refine j_lconst (pc := 2) C (v := 1) d_Model_canPlan_2 (by decide) ?_
  refine j_ldc2 (pc := 3) C (v := 6) (mt_7 (List.mem_of_getElem? (i := 189) rfl) rfl) d_Model_canPlan_3 ?_
  refine j_callSi (pc := 6) C (c_isIn_x l D y n 1 6 1 6 (by decide) (by decide)) kw_Model_240 ks_Model_isIn ⟨by decide, by decide⟩ ⟨by decide, by decide⟩ (wr := [MB mo ad 0 0 0 0 0 0 0 (-1) 0 0 0 0 0 0 0 0 0 0 1 0, (ad 62, .inl (y 0, 63, .inl (dayF 0)))]) [] [0, 1] rfl rfl (by decide) (by decide) (by decide) (As := [.long n.toInt64, .long 1, .long 6]) (rest := []) rfl (nb rfl) rfl d_Model_canPlan_6 (fun r1 _ hr1 => ?_)
  refine j_ws (ws' := [MB mo ad 0 0 0 0 0 0 0 (-1) 0 0 0 0 0 0 0 0 0 0 1 0, (ad 62, .inl (y 0, 63, .inl (dayF 0)))]) rfl ?_
  rw [if_neg hx] at hr1
  subst hr1
  refine j_if_eqT (pc := 9) C (tgt := 30) d_Model_canPlan_9 (by decide) (by decide) ?_
  refine j_iconst (pc := 30) C (v := 0) d_Model_canPlan_30 (by decide) ?_
  exact j_iret (pc := 31) C hr (by decide) () rfl [0, 1] rfl (by decide) (by decide) (by decide) d_Model_canPlan_31
theorem d_Model_selfish_0 : decode prog_13_method_93_code 0 = .ok (.aload_n 0, 1) := by decide +kernel
theorem d_Model_selfish_1 : decode prog_13_method_93_code 1 = .ok (.iload_n 1, 1) := by decide +kernel
theorem d_Model_selfish_2 : decode prog_13_method_93_code 2 = .ok (.invokevirtual 519, 3) := by decide +kernel
theorem d_Model_selfish_5 : decode prog_13_method_93_code 5 = .ok (.ifCond .eq 27, 3) := by decide +kernel
theorem d_Model_selfish_8 : decode prog_13_method_93_code 8 = .ok (.iload_n 2, 1) := by decide +kernel
theorem d_Model_selfish_9 : decode prog_13_method_93_code 9 = .ok (.i2l, 1) := by decide +kernel
theorem d_Model_selfish_10 : decode prog_13_method_93_code 10 = .ok (.lconst 0, 1) := by decide +kernel
theorem d_Model_selfish_11 : decode prog_13_method_93_code 11 = .ok (.iload_n 1, 1) := by decide +kernel
theorem d_Model_selfish_12 : decode prog_13_method_93_code 12 = .ok (.iconst 1, 1) := by decide +kernel
theorem d_Model_selfish_13 : decode prog_13_method_93_code 13 = .ok (.isub, 1) := by decide +kernel
theorem d_Model_selfish_14 : decode prog_13_method_93_code 14 = .ok (.i2l, 1) := by decide +kernel
theorem d_Model_selfish_15 : decode prog_13_method_93_code 15 = .ok (.invokestatic 240, 3) := by decide +kernel
theorem d_Model_selfish_18 : decode prog_13_method_93_code 18 = .ok (.ifCond .ne 18, 3) := by decide +kernel
theorem d_Model_selfish_36 : decode prog_13_method_93_code 36 = .ok (.aload_n 0, 1) := by decide +kernel
theorem d_Model_selfish_37 : decode prog_13_method_93_code 37 = .ok (.iload_n 1, 1) := by decide +kernel
theorem d_Model_selfish_38 : decode prog_13_method_93_code 38 = .ok (.iconst 0, 1) := by decide +kernel
theorem d_Model_selfish_39 : decode prog_13_method_93_code 39 = .ok (.invokevirtual 522, 3) := by decide +kernel
theorem kw_Model_522 : KW "NineBoardsModel" 522 ⟨"NineBoardsModel", "plans", "(IZ)V"⟩ prog_13_method_90_code 5 none 2 := ⟨(mt_7 (List.mem_of_getElem? (i := 190) rfl) rfl), (mt_1 (List.mem_of_getElem? (i := 16) rfl) rfl), (mt_7 (List.mem_of_getElem? (i := 193) rfl) rfl), by decide +kernel⟩
theorem kv_Model_plans : Cond.instanceMethod ⟨"NineBoardsModel", "plans", "(IZ)V"⟩ ∈ TB ∧ Cond.selects "NineBoardsModel" ⟨"NineBoardsModel", "plans", "(IZ)V"⟩ ⟨"NineBoardsModel", "plans", "(IZ)V"⟩ ∈ TB := ⟨(mt_7 (List.mem_of_getElem? (i := 192) rfl) rfl), (ms_0 (List.mem_map.mpr ⟨(⟨"NineBoardsModel", "plans", "(IZ)V"⟩, 79), List.mem_of_getElem? (i := 111) (by decide +kernel), rfl⟩) rfl)⟩
theorem d_Model_selfish_42 : decode prog_13_method_93_code 42 = .ok (.iload_n 2, 1) := by decide +kernel
theorem d_Model_selfish_43 : decode prog_13_method_93_code 43 = .ok (.iload_n 1, 1) := by decide +kernel
theorem d_Model_selfish_44 : decode prog_13_method_93_code 44 = .ok (.if_icmp .ge 11, 3) := by decide +kernel
theorem d_Model_selfish_47 : decode prog_13_method_93_code 47 = .ok (.aload_n 0, 1) := by decide +kernel
theorem d_Model_selfish_48 : decode prog_13_method_93_code 48 = .ok (.iload_n 2, 1) := by decide +kernel
theorem d_Model_selfish_49 : decode prog_13_method_93_code 49 = .ok (.invokevirtual 525, 3) := by decide +kernel
theorem kw_Model_525 : KW "NineBoardsModel" 525 ⟨"NineBoardsModel", "actOf", "(I)I"⟩ prog_13_method_91_code 4 (some .int) 1 := ⟨(mt_7 (List.mem_of_getElem? (i := 222) rfl) rfl), (mt_1 (List.mem_of_getElem? (i := 16) rfl) rfl), (mt_7 (List.mem_of_getElem? (i := 225) rfl) rfl), by decide +kernel⟩
theorem kv_Model_actOf : Cond.instanceMethod ⟨"NineBoardsModel", "actOf", "(I)I"⟩ ∈ TB ∧ Cond.selects "NineBoardsModel" ⟨"NineBoardsModel", "actOf", "(I)I"⟩ ⟨"NineBoardsModel", "actOf", "(I)I"⟩ ∈ TB := ⟨(mt_7 (List.mem_of_getElem? (i := 224) rfl) rfl), (ms_0 (List.mem_map.mpr ⟨(⟨"NineBoardsModel", "actOf", "(I)I"⟩, 79), List.mem_of_getElem? (i := 119) (by decide +kernel), rfl⟩) rfl)⟩
theorem d_Model_selfish_52 : decode prog_13_method_93_code 52 = .ok (.goto 12, 3) := by decide +kernel
theorem d_Model_selfish_64 : decode prog_13_method_93_code 64 = .ok (.ireturn, 1) := by decide +kernel
theorem d_Model_selfish_21 : decode prog_13_method_93_code 21 = .ok (.aload_n 0, 1) := by decide +kernel
theorem d_Model_selfish_22 : decode prog_13_method_93_code 22 = .ok (.iload_n 2, 1) := by decide +kernel
theorem d_Model_selfish_23 : decode prog_13_method_93_code 23 = .ok (.bipush 10, 2) := by decide +kernel
theorem d_Model_selfish_25 : decode prog_13_method_93_code 25 = .ok (.isub, 1) := by decide +kernel
theorem d_Model_selfish_26 : decode prog_13_method_93_code 26 = .ok (.invokevirtual 472, 3) := by decide +kernel
theorem d_Model_selfish_29 : decode prog_13_method_93_code 29 = .ok (.ifCond .ne 7, 3) := by decide +kernel
theorem d_Model_selfish_32 : decode prog_13_method_93_code 32 = .ok (.ldc_w 475, 3) := by decide +kernel
theorem d_Model_selfish_35 : decode prog_13_method_93_code 35 = .ok (.ireturn, 1) := by decide +kernel
set_option maxHeartbeats 4000000 in
set_option maxRecDepth 100000 in
theorem c_M_selfish (l : Launch) (D : va_G) (y : Nat → ClassId) (mo : Nat) (ad : Nat → Nat) (n : Int32) (w : Int32) (f : Nat → Int32)  : CT l D y ⟨"NineBoardsModel", "selfish", "(II)I"⟩ prog_13_method_93_code 3 (some .int) ({ frames := 7, cells := 0, slots := 0, locals := 174 } : Room) [.ref mo, .int n, .int w] [MB mo ad 0 0 0 0 0 0 0 (-1) 0 0 0 0 0 0 0 0 0 0 1 0, (ad 43, .inl (y 0, 8, .inl (fun _ => 0))), (ad 62, .inl (y 0, 63, .inl (dayF 0))), (ad 45, .inl (y 0, 14, .inl lakeF)), (ad 68, .inl (y 0, 63, .inl f)), (ad 72, .inl (y 0, 7, .inl powF)), (ad 71, .inl (y 0, 1093, .inl (fun _ => 0))), (ad 70, .inl (y 0, 6558, .inl (fun _ => 0)))] (QI D [MB mo ad 0 0 0 0 0 0 0 (-1) 0 0 0 0 0 0 0 0 0 0 1 0, (ad 43, .inl (y 0, 8, .inl (fun _ => 0))), (ad 62, .inl (y 0, 63, .inl (dayF 0))), (ad 45, .inl (y 0, 14, .inl lakeF)), (ad 68, .inl (y 0, 63, .inl f)), (ad 72, .inl (y 0, 7, .inl powF)), (ad 71, .inl (y 0, 1093, .inl (fun _ => 0))), (ad 70, .inl (y 0, 6558, .inl (fun _ => 0)))] (fun (r : Int32) (_ : Unit) => r = if 1 ≤ n.toInt ∧ n.toInt ≤ 6 ∧ 0 ≤ w.toInt ∧ w.toInt < n.toInt then 0 else -1000000000) (fun _ => [])) := by
  refine CT.of (by decide) (nb rfl) ?_
  intro p e s m args below meth c C hr
  refine j_lv (lv' := [(0, .ref mo), (1, .int n), (2, .int w)]) rfl ?_
  by_cases e1 : n = 1
  · subst e1
    refine j_aload_n (pc := 0) C d_Model_selfish_0 rfl 0 rfl ?_
    refine j_iload_n (pc := 1) C d_Model_selfish_1 rfl 1 rfl ?_
    refine j_callVi (pc := 2) C (c_M_canPlan_1 l D y mo ad) kw_Model_519 kv_Model_canPlan 0 10 rfl rfl ⟨by decide, by decide⟩ ⟨by decide, by decide⟩ (wr := [(ad 43, .inl (y 0, 8, .inl (fun _ => 0))), (ad 45, .inl (y 0, 14, .inl lakeF)), (ad 68, .inl (y 0, 63, .inl f)), (ad 72, .inl (y 0, 7, .inl powF)), (ad 71, .inl (y 0, 1093, .inl (fun _ => 0))), (ad 70, .inl (y 0, 6558, .inl (fun _ => 0)))]) [0, 2] [1, 3, 4, 5, 6, 7] rfl rfl (by decide) (by decide) (by decide) (As := [.int 1]) (rest := []) rfl (nb rfl) rfl d_Model_selfish_2 (fun r2 _ hr2 => ?_)
    subst hr2
    refine j_ws (ws' := [(ad 43, .inl (y 0, 8, .inl (fun _ => 0))), (ad 45, .inl (y 0, 14, .inl lakeF)), (ad 68, .inl (y 0, 63, .inl f)), (ad 72, .inl (y 0, 7, .inl powF)), (ad 71, .inl (y 0, 1093, .inl (fun _ => 0))), (ad 70, .inl (y 0, 6558, .inl (fun _ => 0))), MB mo ad 0 0 0 0 0 0 0 (-1) 0 0 0 0 0 0 0 0 0 0 1 0, (ad 62, .inl (y 0, 63, .inl (dayF 0)))]) rfl ?_
    refine j_st (st' := [.int 1]) rfl ?_
    refine j_if_eqF (pc := 5) C (tgt := 32) d_Model_selfish_5 (by decide) (by decide) ?_
    by_cases e3 : w = 0
    · subst e3
      refine j_iload_n (pc := 8) C d_Model_selfish_8 rfl 2 rfl ?_
      refine j_i2l (pc := 9) C (v := 0) d_Model_selfish_9 (by decide) ?_
      refine j_lconst (pc := 10) C (v := 0) d_Model_selfish_10 (by decide) ?_
      refine j_iload_n (pc := 11) C d_Model_selfish_11 rfl 1 rfl ?_
      refine j_iconst (pc := 12) C (v := 1) d_Model_selfish_12 (by decide) ?_
      refine j_isub (pc := 13) C (v := 0) d_Model_selfish_13 (by decide) ?_
      refine j_i2l (pc := 14) C (v := 0) d_Model_selfish_14 (by decide) ?_
      refine j_callSi (pc := 15) C (c_isIn_c l D y 0 0 0 0 0 0 (by decide) (by decide) (by decide)) kw_Model_240 ks_Model_isIn ⟨by decide, by decide⟩ ⟨by decide, by decide⟩ (wr := [(ad 43, .inl (y 0, 8, .inl (fun _ => 0))), (ad 45, .inl (y 0, 14, .inl lakeF)), (ad 68, .inl (y 0, 63, .inl f)), (ad 72, .inl (y 0, 7, .inl powF)), (ad 71, .inl (y 0, 1093, .inl (fun _ => 0))), (ad 70, .inl (y 0, 6558, .inl (fun _ => 0))), MB mo ad 0 0 0 0 0 0 0 (-1) 0 0 0 0 0 0 0 0 0 0 1 0, (ad 62, .inl (y 0, 63, .inl (dayF 0)))]) [] [0, 1, 2, 3, 4, 5, 6, 7] rfl rfl (by decide) (by decide) (by decide) (As := [.long 0, .long 0, .long 0]) (rest := []) rfl (nb rfl) rfl d_Model_selfish_15 (fun r4 _ hr4 => ?_)
      refine j_ws (ws' := [(ad 43, .inl (y 0, 8, .inl (fun _ => 0))), (ad 45, .inl (y 0, 14, .inl lakeF)), (ad 68, .inl (y 0, 63, .inl f)), (ad 72, .inl (y 0, 7, .inl powF)), (ad 71, .inl (y 0, 1093, .inl (fun _ => 0))), (ad 70, .inl (y 0, 6558, .inl (fun _ => 0))), MB mo ad 0 0 0 0 0 0 0 (-1) 0 0 0 0 0 0 0 0 0 0 1 0, (ad 62, .inl (y 0, 63, .inl (dayF 0)))]) rfl ?_
      rw [if_pos (by decide)] at hr4
      subst hr4
      refine j_if_neT (pc := 18) C (tgt := 36) d_Model_selfish_18 (by decide) (by decide) ?_
      refine j_aload_n (pc := 36) C d_Model_selfish_36 rfl 0 rfl ?_
      refine j_iload_n (pc := 37) C d_Model_selfish_37 rfl 1 rfl ?_
      refine j_iconst (pc := 38) C (v := 0) d_Model_selfish_38 (by decide) ?_
      refine j_st (st' := [.int 0, .int (nI (0 + 1)), .ref mo]) rfl ?_
      refine j_callVv (pc := 39) C (c_M_plans l D y mo ad 0 0 f (by decide)) kw_Model_522 kv_Model_plans 0 10 rfl rfl ⟨by decide, by decide⟩ ⟨by decide, by decide⟩ (wr := []) [6, 0, 7, 1, 2, 3, 4, 5] [] rfl rfl (by decide) (by decide) (by decide) (As := [.int (nI (0 + 1)), .int 0]) (rest := []) rfl (nb rfl) rfl d_Model_selfish_39 (fun _ _ => ?_)
      refine j_ws (ws' := [MB mo ad 0 0 0 0 0 0 0 (-1) 0 0 0 0 0 0 0 0 0 0 1 0, (ad 43, .inl (y 0, 8, .inl (fun _ => 0))), (ad 62, .inl (y 0, 63, .inl (dayF 0))), (ad 45, .inl (y 0, 14, .inl lakeF)), (ad 68, .inl (y 0, 63, .inl (dayF 0))), (ad 72, .inl (y 0, 7, .inl powF)), (ad 71, .inl (y 0, 1093, .inl (fun _ => 0))), (ad 70, .inl (y 0, 6558, .inl (fun _ => 0)))]) rfl ?_
      refine j_iload_n (pc := 42) C d_Model_selfish_42 rfl 2 rfl ?_
      refine j_iload_n (pc := 43) C d_Model_selfish_43 rfl 1 rfl ?_
      refine j_icmp_geF (pc := 44) C (tgt := 55) d_Model_selfish_44 (by decide) (by decide) ?_
      refine j_aload_n (pc := 47) C d_Model_selfish_47 rfl 0 rfl ?_
      refine j_iload_n (pc := 48) C d_Model_selfish_48 rfl 2 rfl ?_
      refine j_callVi (pc := 49) C (c_M_actOf_0 l D y mo ad) kw_Model_525 kv_Model_actOf 0 10 rfl rfl ⟨by decide, by decide⟩ ⟨by decide, by decide⟩ (wr := [(ad 43, .inl (y 0, 8, .inl (fun _ => 0))), (ad 62, .inl (y 0, 63, .inl (dayF 0))), (ad 45, .inl (y 0, 14, .inl lakeF)), (ad 68, .inl (y 0, 63, .inl (dayF 0))), (ad 70, .inl (y 0, 6558, .inl (fun _ => 0)))]) [0, 5, 6] [1, 2, 3, 4, 7] rfl rfl (by decide) (by decide) (by decide) (As := [.int 0]) (rest := []) rfl (nb rfl) rfl d_Model_selfish_49 (fun r5 _ hr5 => ?_)
      subst hr5
      refine j_ws (ws' := [(ad 43, .inl (y 0, 8, .inl (fun _ => 0))), (ad 62, .inl (y 0, 63, .inl (dayF 0))), (ad 45, .inl (y 0, 14, .inl lakeF)), (ad 68, .inl (y 0, 63, .inl (dayF 0))), (ad 70, .inl (y 0, 6558, .inl (fun _ => 0)))]) rfl ?_
      refine j_st (st' := [.int 0]) rfl ?_
      refine j_goto (pc := 52) C (tgt := 64) d_Model_selfish_52 (by decide) ?_
      exact j_iret (pc := 64) C hr rfl () (by decide) [] rfl (by decide) (by decide) (by decide) d_Model_selfish_64
    · refine j_iload_n (pc := 8) C d_Model_selfish_8 rfl 2 rfl ?_
      refine j_i2l (pc := 9) C (v := w.toInt64) d_Model_selfish_9 rfl ?_
      refine j_lconst (pc := 10) C (v := 0) d_Model_selfish_10 (by decide) ?_
      refine j_iload_n (pc := 11) C d_Model_selfish_11 rfl 1 rfl ?_
      refine j_iconst (pc := 12) C (v := 1) d_Model_selfish_12 (by decide) ?_
      refine j_isub (pc := 13) C (v := 0) d_Model_selfish_13 (by decide) ?_
      refine j_i2l (pc := 14) C (v := 0) d_Model_selfish_14 (by decide) ?_
      refine j_callSi (pc := 15) C (c_isIn_x l D y w 0 0 0 0 (by decide) (by decide)) kw_Model_240 ks_Model_isIn ⟨by decide, by decide⟩ ⟨by decide, by decide⟩ (wr := [(ad 43, .inl (y 0, 8, .inl (fun _ => 0))), (ad 45, .inl (y 0, 14, .inl lakeF)), (ad 68, .inl (y 0, 63, .inl f)), (ad 72, .inl (y 0, 7, .inl powF)), (ad 71, .inl (y 0, 1093, .inl (fun _ => 0))), (ad 70, .inl (y 0, 6558, .inl (fun _ => 0))), MB mo ad 0 0 0 0 0 0 0 (-1) 0 0 0 0 0 0 0 0 0 0 1 0, (ad 62, .inl (y 0, 63, .inl (dayF 0)))]) [] [0, 1, 2, 3, 4, 5, 6, 7] rfl rfl (by decide) (by decide) (by decide) (As := [.long w.toInt64, .long 0, .long 0]) (rest := []) rfl (nb rfl) rfl d_Model_selfish_15 (fun r6 _ hr6 => ?_)
      refine j_ws (ws' := [(ad 43, .inl (y 0, 8, .inl (fun _ => 0))), (ad 45, .inl (y 0, 14, .inl lakeF)), (ad 68, .inl (y 0, 63, .inl f)), (ad 72, .inl (y 0, 7, .inl powF)), (ad 71, .inl (y 0, 1093, .inl (fun _ => 0))), (ad 70, .inl (y 0, 6558, .inl (fun _ => 0))), MB mo ad 0 0 0 0 0 0 0 (-1) 0 0 0 0 0 0 0 0 0 0 1 0, (ad 62, .inl (y 0, 63, .inl (dayF 0)))]) rfl ?_
      rw [if_neg (by simp only [← Int32.toInt_inj, (by decide : Int32.toInt 0 = 0), (by decide : Int32.toInt 1 = 1), (by decide : Int32.toInt 2 = 2), (by decide : Int32.toInt 3 = 3), (by decide : Int32.toInt 4 = 4), (by decide : Int32.toInt 5 = 5), (by decide : Int32.toInt 6 = 6), (by decide : Int32.toInt 7 = 7), (by decide : Int32.toInt 8 = 8), (by decide : Int32.toInt 9 = 9)] at e3; omega)] at hr6
      subst hr6
      refine j_if_neF (pc := 18) C (tgt := 36) d_Model_selfish_18 (by decide) (by decide) ?_
      refine j_aload_n (pc := 21) C d_Model_selfish_21 rfl 0 rfl ?_
      refine j_iload_n (pc := 22) C d_Model_selfish_22 rfl 2 rfl ?_
      refine j_bipush (pc := 23) C (v := 10) d_Model_selfish_23 (by decide) ?_
      refine j_isub (pc := 25) C (v := w - 10) d_Model_selfish_25 rfl ?_
      refine j_callVi (pc := 26) C (c_M_isVillage l D y mo ad 0 0 1 (w - 10)) kw_Model_472 kv_Model_isVillage 0 10 rfl rfl ⟨by decide, by decide⟩ ⟨by decide, by decide⟩ (wr := [(ad 45, .inl (y 0, 14, .inl lakeF)), (ad 68, .inl (y 0, 63, .inl f)), (ad 72, .inl (y 0, 7, .inl powF)), (ad 71, .inl (y 0, 1093, .inl (fun _ => 0))), (ad 70, .inl (y 0, 6558, .inl (fun _ => 0))), (ad 62, .inl (y 0, 63, .inl (dayF 0)))]) [6, 0] [1, 2, 3, 4, 5, 7] rfl rfl (by decide) (by decide) (by decide) (As := [.int (w - 10)]) (rest := []) rfl (nb rfl) rfl d_Model_selfish_26 (fun r7 _ hr7 => ?_)
      subst hr7
      refine j_ws (ws' := [(ad 45, .inl (y 0, 14, .inl lakeF)), (ad 68, .inl (y 0, 63, .inl f)), (ad 72, .inl (y 0, 7, .inl powF)), (ad 71, .inl (y 0, 1093, .inl (fun _ => 0))), (ad 70, .inl (y 0, 6558, .inl (fun _ => 0))), (ad 62, .inl (y 0, 63, .inl (dayF 0))), MB mo ad 0 0 0 0 0 0 0 (-1) 0 0 0 0 0 0 0 0 0 0 1 0, (ad 43, .inl (y 0, 8, .inl (fun _ => 0)))]) rfl ?_
      refine j_st (st' := [.int 0]) rfl ?_
      refine j_if_neF (pc := 29) C (tgt := 36) d_Model_selfish_29 (by decide) (by decide) ?_
      refine j_ldcw (pc := 32) C (v := (-1000000000)) (mt_7 (List.mem_of_getElem? (i := 94) rfl) rfl) d_Model_selfish_32 ?_
      exact j_iret (pc := 35) C hr rfl () (by simp only [Int32.lt_iff_toInt_lt, Int32.le_iff_toInt_le, ← Int32.toInt_inj, (by decide : Int32.toInt 0 = 0), (by decide : Int32.toInt 1 = 1), (by decide : Int32.toInt 2 = 2), (by decide : Int32.toInt 3 = 3), (by decide : Int32.toInt 4 = 4), (by decide : Int32.toInt 5 = 5), (by decide : Int32.toInt 6 = 6), (by decide : Int32.toInt 7 = 7), (by decide : Int32.toInt 8 = 8), (by decide : Int32.toInt 9 = 9)] at e3 ⊢; rw [if_neg (by omega)]) [] rfl (by decide) (by decide) (by decide) d_Model_selfish_35
  · by_cases e8 : n = 2
    · subst e8
      refine j_aload_n (pc := 0) C d_Model_selfish_0 rfl 0 rfl ?_
      refine j_iload_n (pc := 1) C d_Model_selfish_1 rfl 1 rfl ?_
      refine j_callVi (pc := 2) C (c_M_canPlan_2 l D y mo ad) kw_Model_519 kv_Model_canPlan 0 10 rfl rfl ⟨by decide, by decide⟩ ⟨by decide, by decide⟩ (wr := [(ad 43, .inl (y 0, 8, .inl (fun _ => 0))), (ad 45, .inl (y 0, 14, .inl lakeF)), (ad 68, .inl (y 0, 63, .inl f)), (ad 72, .inl (y 0, 7, .inl powF)), (ad 71, .inl (y 0, 1093, .inl (fun _ => 0))), (ad 70, .inl (y 0, 6558, .inl (fun _ => 0)))]) [0, 2] [1, 3, 4, 5, 6, 7] rfl rfl (by decide) (by decide) (by decide) (As := [.int 2]) (rest := []) rfl (nb rfl) rfl d_Model_selfish_2 (fun r9 _ hr9 => ?_)
      subst hr9
      refine j_ws (ws' := [(ad 43, .inl (y 0, 8, .inl (fun _ => 0))), (ad 45, .inl (y 0, 14, .inl lakeF)), (ad 68, .inl (y 0, 63, .inl f)), (ad 72, .inl (y 0, 7, .inl powF)), (ad 71, .inl (y 0, 1093, .inl (fun _ => 0))), (ad 70, .inl (y 0, 6558, .inl (fun _ => 0))), MB mo ad 0 0 0 0 0 0 0 (-1) 0 0 0 0 0 0 0 0 0 0 1 0, (ad 62, .inl (y 0, 63, .inl (dayF 0)))]) rfl ?_
      refine j_st (st' := [.int 1]) rfl ?_
      refine j_if_eqF (pc := 5) C (tgt := 32) d_Model_selfish_5 (by decide) (by decide) ?_
      by_cases e10 : w = 0
      · subst e10
        refine j_iload_n (pc := 8) C d_Model_selfish_8 rfl 2 rfl ?_
        refine j_i2l (pc := 9) C (v := 0) d_Model_selfish_9 (by decide) ?_
        refine j_lconst (pc := 10) C (v := 0) d_Model_selfish_10 (by decide) ?_
        refine j_iload_n (pc := 11) C d_Model_selfish_11 rfl 1 rfl ?_
        refine j_iconst (pc := 12) C (v := 1) d_Model_selfish_12 (by decide) ?_
        refine j_isub (pc := 13) C (v := 1) d_Model_selfish_13 (by decide) ?_
        refine j_i2l (pc := 14) C (v := 1) d_Model_selfish_14 (by decide) ?_
        refine j_callSi (pc := 15) C (c_isIn_c l D y 0 0 1 0 0 1 (by decide) (by decide) (by decide)) kw_Model_240 ks_Model_isIn ⟨by decide, by decide⟩ ⟨by decide, by decide⟩ (wr := [(ad 43, .inl (y 0, 8, .inl (fun _ => 0))), (ad 45, .inl (y 0, 14, .inl lakeF)), (ad 68, .inl (y 0, 63, .inl f)), (ad 72, .inl (y 0, 7, .inl powF)), (ad 71, .inl (y 0, 1093, .inl (fun _ => 0))), (ad 70, .inl (y 0, 6558, .inl (fun _ => 0))), MB mo ad 0 0 0 0 0 0 0 (-1) 0 0 0 0 0 0 0 0 0 0 1 0, (ad 62, .inl (y 0, 63, .inl (dayF 0)))]) [] [0, 1, 2, 3, 4, 5, 6, 7] rfl rfl (by decide) (by decide) (by decide) (As := [.long 0, .long 0, .long 1]) (rest := []) rfl (nb rfl) rfl d_Model_selfish_15 (fun r11 _ hr11 => ?_)
        refine j_ws (ws' := [(ad 43, .inl (y 0, 8, .inl (fun _ => 0))), (ad 45, .inl (y 0, 14, .inl lakeF)), (ad 68, .inl (y 0, 63, .inl f)), (ad 72, .inl (y 0, 7, .inl powF)), (ad 71, .inl (y 0, 1093, .inl (fun _ => 0))), (ad 70, .inl (y 0, 6558, .inl (fun _ => 0))), MB mo ad 0 0 0 0 0 0 0 (-1) 0 0 0 0 0 0 0 0 0 0 1 0, (ad 62, .inl (y 0, 63, .inl (dayF 0)))]) rfl ?_
        rw [if_pos (by decide)] at hr11
        subst hr11
        refine j_if_neT (pc := 18) C (tgt := 36) d_Model_selfish_18 (by decide) (by decide) ?_
        refine j_aload_n (pc := 36) C d_Model_selfish_36 rfl 0 rfl ?_
        refine j_iload_n (pc := 37) C d_Model_selfish_37 rfl 1 rfl ?_
        refine j_iconst (pc := 38) C (v := 0) d_Model_selfish_38 (by decide) ?_
        refine j_st (st' := [.int 0, .int (nI (1 + 1)), .ref mo]) rfl ?_
        refine j_callVv (pc := 39) C (c_M_plans l D y mo ad 1 0 f (by decide)) kw_Model_522 kv_Model_plans 0 10 rfl rfl ⟨by decide, by decide⟩ ⟨by decide, by decide⟩ (wr := []) [6, 0, 7, 1, 2, 3, 4, 5] [] rfl rfl (by decide) (by decide) (by decide) (As := [.int (nI (1 + 1)), .int 0]) (rest := []) rfl (nb rfl) rfl d_Model_selfish_39 (fun _ _ => ?_)
        refine j_ws (ws' := [MB mo ad 0 0 0 0 0 0 0 (-1) 0 0 0 0 0 0 0 0 0 0 1 0, (ad 43, .inl (y 0, 8, .inl (fun _ => 0))), (ad 62, .inl (y 0, 63, .inl (dayF 0))), (ad 45, .inl (y 0, 14, .inl lakeF)), (ad 68, .inl (y 0, 63, .inl (dayF 0))), (ad 72, .inl (y 0, 7, .inl powF)), (ad 71, .inl (y 0, 1093, .inl (fun _ => 0))), (ad 70, .inl (y 0, 6558, .inl (fun _ => 0)))]) rfl ?_
        refine j_iload_n (pc := 42) C d_Model_selfish_42 rfl 2 rfl ?_
        refine j_iload_n (pc := 43) C d_Model_selfish_43 rfl 1 rfl ?_
        refine j_icmp_geF (pc := 44) C (tgt := 55) d_Model_selfish_44 (by decide) (by decide) ?_
        refine j_aload_n (pc := 47) C d_Model_selfish_47 rfl 0 rfl ?_
        refine j_iload_n (pc := 48) C d_Model_selfish_48 rfl 2 rfl ?_
        refine j_callVi (pc := 49) C (c_M_actOf_0 l D y mo ad) kw_Model_525 kv_Model_actOf 0 10 rfl rfl ⟨by decide, by decide⟩ ⟨by decide, by decide⟩ (wr := [(ad 43, .inl (y 0, 8, .inl (fun _ => 0))), (ad 62, .inl (y 0, 63, .inl (dayF 0))), (ad 45, .inl (y 0, 14, .inl lakeF)), (ad 68, .inl (y 0, 63, .inl (dayF 0))), (ad 70, .inl (y 0, 6558, .inl (fun _ => 0)))]) [0, 5, 6] [1, 2, 3, 4, 7] rfl rfl (by decide) (by decide) (by decide) (As := [.int 0]) (rest := []) rfl (nb rfl) rfl d_Model_selfish_49 (fun r12 _ hr12 => ?_)
        subst hr12
        refine j_ws (ws' := [(ad 43, .inl (y 0, 8, .inl (fun _ => 0))), (ad 62, .inl (y 0, 63, .inl (dayF 0))), (ad 45, .inl (y 0, 14, .inl lakeF)), (ad 68, .inl (y 0, 63, .inl (dayF 0))), (ad 70, .inl (y 0, 6558, .inl (fun _ => 0)))]) rfl ?_
        refine j_st (st' := [.int 0]) rfl ?_
        refine j_goto (pc := 52) C (tgt := 64) d_Model_selfish_52 (by decide) ?_
        exact j_iret (pc := 64) C hr rfl () (by decide) [] rfl (by decide) (by decide) (by decide) d_Model_selfish_64
      · by_cases e13 : w = 1
        · subst e13
          refine j_iload_n (pc := 8) C d_Model_selfish_8 rfl 2 rfl ?_
          refine j_i2l (pc := 9) C (v := 1) d_Model_selfish_9 (by decide) ?_
          refine j_lconst (pc := 10) C (v := 0) d_Model_selfish_10 (by decide) ?_
          refine j_iload_n (pc := 11) C d_Model_selfish_11 rfl 1 rfl ?_
          refine j_iconst (pc := 12) C (v := 1) d_Model_selfish_12 (by decide) ?_
          refine j_isub (pc := 13) C (v := 1) d_Model_selfish_13 (by decide) ?_
          refine j_i2l (pc := 14) C (v := 1) d_Model_selfish_14 (by decide) ?_
          refine j_callSi (pc := 15) C (c_isIn_c l D y 1 0 1 1 0 1 (by decide) (by decide) (by decide)) kw_Model_240 ks_Model_isIn ⟨by decide, by decide⟩ ⟨by decide, by decide⟩ (wr := [(ad 43, .inl (y 0, 8, .inl (fun _ => 0))), (ad 45, .inl (y 0, 14, .inl lakeF)), (ad 68, .inl (y 0, 63, .inl f)), (ad 72, .inl (y 0, 7, .inl powF)), (ad 71, .inl (y 0, 1093, .inl (fun _ => 0))), (ad 70, .inl (y 0, 6558, .inl (fun _ => 0))), MB mo ad 0 0 0 0 0 0 0 (-1) 0 0 0 0 0 0 0 0 0 0 1 0, (ad 62, .inl (y 0, 63, .inl (dayF 0)))]) [] [0, 1, 2, 3, 4, 5, 6, 7] rfl rfl (by decide) (by decide) (by decide) (As := [.long 1, .long 0, .long 1]) (rest := []) rfl (nb rfl) rfl d_Model_selfish_15 (fun r14 _ hr14 => ?_)
          refine j_ws (ws' := [(ad 43, .inl (y 0, 8, .inl (fun _ => 0))), (ad 45, .inl (y 0, 14, .inl lakeF)), (ad 68, .inl (y 0, 63, .inl f)), (ad 72, .inl (y 0, 7, .inl powF)), (ad 71, .inl (y 0, 1093, .inl (fun _ => 0))), (ad 70, .inl (y 0, 6558, .inl (fun _ => 0))), MB mo ad 0 0 0 0 0 0 0 (-1) 0 0 0 0 0 0 0 0 0 0 1 0, (ad 62, .inl (y 0, 63, .inl (dayF 0)))]) rfl ?_
          rw [if_pos (by decide)] at hr14
          subst hr14
          refine j_if_neT (pc := 18) C (tgt := 36) d_Model_selfish_18 (by decide) (by decide) ?_
          refine j_aload_n (pc := 36) C d_Model_selfish_36 rfl 0 rfl ?_
          refine j_iload_n (pc := 37) C d_Model_selfish_37 rfl 1 rfl ?_
          refine j_iconst (pc := 38) C (v := 0) d_Model_selfish_38 (by decide) ?_
          refine j_st (st' := [.int 0, .int (nI (1 + 1)), .ref mo]) rfl ?_
          refine j_callVv (pc := 39) C (c_M_plans l D y mo ad 1 0 f (by decide)) kw_Model_522 kv_Model_plans 0 10 rfl rfl ⟨by decide, by decide⟩ ⟨by decide, by decide⟩ (wr := []) [6, 0, 7, 1, 2, 3, 4, 5] [] rfl rfl (by decide) (by decide) (by decide) (As := [.int (nI (1 + 1)), .int 0]) (rest := []) rfl (nb rfl) rfl d_Model_selfish_39 (fun _ _ => ?_)
          refine j_ws (ws' := [MB mo ad 0 0 0 0 0 0 0 (-1) 0 0 0 0 0 0 0 0 0 0 1 0, (ad 43, .inl (y 0, 8, .inl (fun _ => 0))), (ad 62, .inl (y 0, 63, .inl (dayF 0))), (ad 45, .inl (y 0, 14, .inl lakeF)), (ad 68, .inl (y 0, 63, .inl (dayF 0))), (ad 72, .inl (y 0, 7, .inl powF)), (ad 71, .inl (y 0, 1093, .inl (fun _ => 0))), (ad 70, .inl (y 0, 6558, .inl (fun _ => 0)))]) rfl ?_
          refine j_iload_n (pc := 42) C d_Model_selfish_42 rfl 2 rfl ?_
          refine j_iload_n (pc := 43) C d_Model_selfish_43 rfl 1 rfl ?_
          refine j_icmp_geF (pc := 44) C (tgt := 55) d_Model_selfish_44 (by decide) (by decide) ?_
          refine j_aload_n (pc := 47) C d_Model_selfish_47 rfl 0 rfl ?_
          refine j_iload_n (pc := 48) C d_Model_selfish_48 rfl 2 rfl ?_
          refine j_callVi (pc := 49) C (c_M_actOf_1 l D y mo ad) kw_Model_525 kv_Model_actOf 0 10 rfl rfl ⟨by decide, by decide⟩ ⟨by decide, by decide⟩ (wr := [(ad 43, .inl (y 0, 8, .inl (fun _ => 0))), (ad 62, .inl (y 0, 63, .inl (dayF 0))), (ad 45, .inl (y 0, 14, .inl lakeF)), (ad 68, .inl (y 0, 63, .inl (dayF 0))), (ad 70, .inl (y 0, 6558, .inl (fun _ => 0)))]) [0, 5, 6] [1, 2, 3, 4, 7] rfl rfl (by decide) (by decide) (by decide) (As := [.int 1]) (rest := []) rfl (nb rfl) rfl d_Model_selfish_49 (fun r15 _ hr15 => ?_)
          subst hr15
          refine j_ws (ws' := [(ad 43, .inl (y 0, 8, .inl (fun _ => 0))), (ad 62, .inl (y 0, 63, .inl (dayF 0))), (ad 45, .inl (y 0, 14, .inl lakeF)), (ad 68, .inl (y 0, 63, .inl (dayF 0))), (ad 70, .inl (y 0, 6558, .inl (fun _ => 0)))]) rfl ?_
          refine j_st (st' := [.int 0]) rfl ?_
          refine j_goto (pc := 52) C (tgt := 64) d_Model_selfish_52 (by decide) ?_
          exact j_iret (pc := 64) C hr rfl () (by decide) [] rfl (by decide) (by decide) (by decide) d_Model_selfish_64
        · refine j_iload_n (pc := 8) C d_Model_selfish_8 rfl 2 rfl ?_
          refine j_i2l (pc := 9) C (v := w.toInt64) d_Model_selfish_9 rfl ?_
          refine j_lconst (pc := 10) C (v := 0) d_Model_selfish_10 (by decide) ?_
          refine j_iload_n (pc := 11) C d_Model_selfish_11 rfl 1 rfl ?_
          refine j_iconst (pc := 12) C (v := 1) d_Model_selfish_12 (by decide) ?_
          refine j_isub (pc := 13) C (v := 1) d_Model_selfish_13 (by decide) ?_
          refine j_i2l (pc := 14) C (v := 1) d_Model_selfish_14 (by decide) ?_
          refine j_callSi (pc := 15) C (c_isIn_x l D y w 0 1 0 1 (by decide) (by decide)) kw_Model_240 ks_Model_isIn ⟨by decide, by decide⟩ ⟨by decide, by decide⟩ (wr := [(ad 43, .inl (y 0, 8, .inl (fun _ => 0))), (ad 45, .inl (y 0, 14, .inl lakeF)), (ad 68, .inl (y 0, 63, .inl f)), (ad 72, .inl (y 0, 7, .inl powF)), (ad 71, .inl (y 0, 1093, .inl (fun _ => 0))), (ad 70, .inl (y 0, 6558, .inl (fun _ => 0))), MB mo ad 0 0 0 0 0 0 0 (-1) 0 0 0 0 0 0 0 0 0 0 1 0, (ad 62, .inl (y 0, 63, .inl (dayF 0)))]) [] [0, 1, 2, 3, 4, 5, 6, 7] rfl rfl (by decide) (by decide) (by decide) (As := [.long w.toInt64, .long 0, .long 1]) (rest := []) rfl (nb rfl) rfl d_Model_selfish_15 (fun r16 _ hr16 => ?_)
          refine j_ws (ws' := [(ad 43, .inl (y 0, 8, .inl (fun _ => 0))), (ad 45, .inl (y 0, 14, .inl lakeF)), (ad 68, .inl (y 0, 63, .inl f)), (ad 72, .inl (y 0, 7, .inl powF)), (ad 71, .inl (y 0, 1093, .inl (fun _ => 0))), (ad 70, .inl (y 0, 6558, .inl (fun _ => 0))), MB mo ad 0 0 0 0 0 0 0 (-1) 0 0 0 0 0 0 0 0 0 0 1 0, (ad 62, .inl (y 0, 63, .inl (dayF 0)))]) rfl ?_
          rw [if_neg (by simp only [← Int32.toInt_inj, (by decide : Int32.toInt 0 = 0), (by decide : Int32.toInt 1 = 1), (by decide : Int32.toInt 2 = 2), (by decide : Int32.toInt 3 = 3), (by decide : Int32.toInt 4 = 4), (by decide : Int32.toInt 5 = 5), (by decide : Int32.toInt 6 = 6), (by decide : Int32.toInt 7 = 7), (by decide : Int32.toInt 8 = 8), (by decide : Int32.toInt 9 = 9)] at e10 e13; omega)] at hr16
          subst hr16
          refine j_if_neF (pc := 18) C (tgt := 36) d_Model_selfish_18 (by decide) (by decide) ?_
          refine j_aload_n (pc := 21) C d_Model_selfish_21 rfl 0 rfl ?_
          refine j_iload_n (pc := 22) C d_Model_selfish_22 rfl 2 rfl ?_
          refine j_bipush (pc := 23) C (v := 10) d_Model_selfish_23 (by decide) ?_
          refine j_isub (pc := 25) C (v := w - 10) d_Model_selfish_25 rfl ?_
          refine j_callVi (pc := 26) C (c_M_isVillage l D y mo ad 0 0 1 (w - 10)) kw_Model_472 kv_Model_isVillage 0 10 rfl rfl ⟨by decide, by decide⟩ ⟨by decide, by decide⟩ (wr := [(ad 45, .inl (y 0, 14, .inl lakeF)), (ad 68, .inl (y 0, 63, .inl f)), (ad 72, .inl (y 0, 7, .inl powF)), (ad 71, .inl (y 0, 1093, .inl (fun _ => 0))), (ad 70, .inl (y 0, 6558, .inl (fun _ => 0))), (ad 62, .inl (y 0, 63, .inl (dayF 0)))]) [6, 0] [1, 2, 3, 4, 5, 7] rfl rfl (by decide) (by decide) (by decide) (As := [.int (w - 10)]) (rest := []) rfl (nb rfl) rfl d_Model_selfish_26 (fun r17 _ hr17 => ?_)
          subst hr17
          refine j_ws (ws' := [(ad 45, .inl (y 0, 14, .inl lakeF)), (ad 68, .inl (y 0, 63, .inl f)), (ad 72, .inl (y 0, 7, .inl powF)), (ad 71, .inl (y 0, 1093, .inl (fun _ => 0))), (ad 70, .inl (y 0, 6558, .inl (fun _ => 0))), (ad 62, .inl (y 0, 63, .inl (dayF 0))), MB mo ad 0 0 0 0 0 0 0 (-1) 0 0 0 0 0 0 0 0 0 0 1 0, (ad 43, .inl (y 0, 8, .inl (fun _ => 0)))]) rfl ?_
          refine j_st (st' := [.int 0]) rfl ?_
          refine j_if_neF (pc := 29) C (tgt := 36) d_Model_selfish_29 (by decide) (by decide) ?_
          refine j_ldcw (pc := 32) C (v := (-1000000000)) (mt_7 (List.mem_of_getElem? (i := 94) rfl) rfl) d_Model_selfish_32 ?_
          exact j_iret (pc := 35) C hr rfl () (by simp only [Int32.lt_iff_toInt_lt, Int32.le_iff_toInt_le, ← Int32.toInt_inj, (by decide : Int32.toInt 0 = 0), (by decide : Int32.toInt 1 = 1), (by decide : Int32.toInt 2 = 2), (by decide : Int32.toInt 3 = 3), (by decide : Int32.toInt 4 = 4), (by decide : Int32.toInt 5 = 5), (by decide : Int32.toInt 6 = 6), (by decide : Int32.toInt 7 = 7), (by decide : Int32.toInt 8 = 8), (by decide : Int32.toInt 9 = 9)] at e1 e10 e13 ⊢; rw [if_neg (by omega)]) [] rfl (by decide) (by decide) (by decide) d_Model_selfish_35
    · by_cases e18 : n = 3
      · subst e18
        refine j_aload_n (pc := 0) C d_Model_selfish_0 rfl 0 rfl ?_
        refine j_iload_n (pc := 1) C d_Model_selfish_1 rfl 1 rfl ?_
        refine j_callVi (pc := 2) C (c_M_canPlan_3 l D y mo ad) kw_Model_519 kv_Model_canPlan 0 10 rfl rfl ⟨by decide, by decide⟩ ⟨by decide, by decide⟩ (wr := [(ad 43, .inl (y 0, 8, .inl (fun _ => 0))), (ad 45, .inl (y 0, 14, .inl lakeF)), (ad 68, .inl (y 0, 63, .inl f)), (ad 72, .inl (y 0, 7, .inl powF)), (ad 71, .inl (y 0, 1093, .inl (fun _ => 0))), (ad 70, .inl (y 0, 6558, .inl (fun _ => 0)))]) [0, 2] [1, 3, 4, 5, 6, 7] rfl rfl (by decide) (by decide) (by decide) (As := [.int 3]) (rest := []) rfl (nb rfl) rfl d_Model_selfish_2 (fun r19 _ hr19 => ?_)
        subst hr19
        refine j_ws (ws' := [(ad 43, .inl (y 0, 8, .inl (fun _ => 0))), (ad 45, .inl (y 0, 14, .inl lakeF)), (ad 68, .inl (y 0, 63, .inl f)), (ad 72, .inl (y 0, 7, .inl powF)), (ad 71, .inl (y 0, 1093, .inl (fun _ => 0))), (ad 70, .inl (y 0, 6558, .inl (fun _ => 0))), MB mo ad 0 0 0 0 0 0 0 (-1) 0 0 0 0 0 0 0 0 0 0 1 0, (ad 62, .inl (y 0, 63, .inl (dayF 0)))]) rfl ?_
        refine j_st (st' := [.int 1]) rfl ?_
        refine j_if_eqF (pc := 5) C (tgt := 32) d_Model_selfish_5 (by decide) (by decide) ?_
        by_cases e20 : w = 0
        · subst e20
          refine j_iload_n (pc := 8) C d_Model_selfish_8 rfl 2 rfl ?_
          refine j_i2l (pc := 9) C (v := 0) d_Model_selfish_9 (by decide) ?_
          refine j_lconst (pc := 10) C (v := 0) d_Model_selfish_10 (by decide) ?_
          refine j_iload_n (pc := 11) C d_Model_selfish_11 rfl 1 rfl ?_
          refine j_iconst (pc := 12) C (v := 1) d_Model_selfish_12 (by decide) ?_
          refine j_isub (pc := 13) C (v := 2) d_Model_selfish_13 (by decide) ?_
          refine j_i2l (pc := 14) C (v := 2) d_Model_selfish_14 (by decide) ?_
          refine j_callSi (pc := 15) C (c_isIn_c l D y 0 0 2 0 0 2 (by decide) (by decide) (by decide)) kw_Model_240 ks_Model_isIn ⟨by decide, by decide⟩ ⟨by decide, by decide⟩ (wr := [(ad 43, .inl (y 0, 8, .inl (fun _ => 0))), (ad 45, .inl (y 0, 14, .inl lakeF)), (ad 68, .inl (y 0, 63, .inl f)), (ad 72, .inl (y 0, 7, .inl powF)), (ad 71, .inl (y 0, 1093, .inl (fun _ => 0))), (ad 70, .inl (y 0, 6558, .inl (fun _ => 0))), MB mo ad 0 0 0 0 0 0 0 (-1) 0 0 0 0 0 0 0 0 0 0 1 0, (ad 62, .inl (y 0, 63, .inl (dayF 0)))]) [] [0, 1, 2, 3, 4, 5, 6, 7] rfl rfl (by decide) (by decide) (by decide) (As := [.long 0, .long 0, .long 2]) (rest := []) rfl (nb rfl) rfl d_Model_selfish_15 (fun r21 _ hr21 => ?_)
          refine j_ws (ws' := [(ad 43, .inl (y 0, 8, .inl (fun _ => 0))), (ad 45, .inl (y 0, 14, .inl lakeF)), (ad 68, .inl (y 0, 63, .inl f)), (ad 72, .inl (y 0, 7, .inl powF)), (ad 71, .inl (y 0, 1093, .inl (fun _ => 0))), (ad 70, .inl (y 0, 6558, .inl (fun _ => 0))), MB mo ad 0 0 0 0 0 0 0 (-1) 0 0 0 0 0 0 0 0 0 0 1 0, (ad 62, .inl (y 0, 63, .inl (dayF 0)))]) rfl ?_
          rw [if_pos (by decide)] at hr21
          subst hr21
          refine j_if_neT (pc := 18) C (tgt := 36) d_Model_selfish_18 (by decide) (by decide) ?_
          refine j_aload_n (pc := 36) C d_Model_selfish_36 rfl 0 rfl ?_
          refine j_iload_n (pc := 37) C d_Model_selfish_37 rfl 1 rfl ?_
          refine j_iconst (pc := 38) C (v := 0) d_Model_selfish_38 (by decide) ?_
          refine j_st (st' := [.int 0, .int (nI (2 + 1)), .ref mo]) rfl ?_
          refine j_callVv (pc := 39) C (c_M_plans l D y mo ad 2 0 f (by decide)) kw_Model_522 kv_Model_plans 0 10 rfl rfl ⟨by decide, by decide⟩ ⟨by decide, by decide⟩ (wr := []) [6, 0, 7, 1, 2, 3, 4, 5] [] rfl rfl (by decide) (by decide) (by decide) (As := [.int (nI (2 + 1)), .int 0]) (rest := []) rfl (nb rfl) rfl d_Model_selfish_39 (fun _ _ => ?_)
          refine j_ws (ws' := [MB mo ad 0 0 0 0 0 0 0 (-1) 0 0 0 0 0 0 0 0 0 0 1 0, (ad 43, .inl (y 0, 8, .inl (fun _ => 0))), (ad 62, .inl (y 0, 63, .inl (dayF 0))), (ad 45, .inl (y 0, 14, .inl lakeF)), (ad 68, .inl (y 0, 63, .inl (dayF 0))), (ad 72, .inl (y 0, 7, .inl powF)), (ad 71, .inl (y 0, 1093, .inl (fun _ => 0))), (ad 70, .inl (y 0, 6558, .inl (fun _ => 0)))]) rfl ?_
          refine j_iload_n (pc := 42) C d_Model_selfish_42 rfl 2 rfl ?_
          refine j_iload_n (pc := 43) C d_Model_selfish_43 rfl 1 rfl ?_
          refine j_icmp_geF (pc := 44) C (tgt := 55) d_Model_selfish_44 (by decide) (by decide) ?_
          refine j_aload_n (pc := 47) C d_Model_selfish_47 rfl 0 rfl ?_
          refine j_iload_n (pc := 48) C d_Model_selfish_48 rfl 2 rfl ?_
          refine j_callVi (pc := 49) C (c_M_actOf_0 l D y mo ad) kw_Model_525 kv_Model_actOf 0 10 rfl rfl ⟨by decide, by decide⟩ ⟨by decide, by decide⟩ (wr := [(ad 43, .inl (y 0, 8, .inl (fun _ => 0))), (ad 62, .inl (y 0, 63, .inl (dayF 0))), (ad 45, .inl (y 0, 14, .inl lakeF)), (ad 68, .inl (y 0, 63, .inl (dayF 0))), (ad 70, .inl (y 0, 6558, .inl (fun _ => 0)))]) [0, 5, 6] [1, 2, 3, 4, 7] rfl rfl (by decide) (by decide) (by decide) (As := [.int 0]) (rest := []) rfl (nb rfl) rfl d_Model_selfish_49 (fun r22 _ hr22 => ?_)
          subst hr22
          refine j_ws (ws' := [(ad 43, .inl (y 0, 8, .inl (fun _ => 0))), (ad 62, .inl (y 0, 63, .inl (dayF 0))), (ad 45, .inl (y 0, 14, .inl lakeF)), (ad 68, .inl (y 0, 63, .inl (dayF 0))), (ad 70, .inl (y 0, 6558, .inl (fun _ => 0)))]) rfl ?_
          refine j_st (st' := [.int 0]) rfl ?_
          refine j_goto (pc := 52) C (tgt := 64) d_Model_selfish_52 (by decide) ?_
          exact j_iret (pc := 64) C hr rfl () (by decide) [] rfl (by decide) (by decide) (by decide) d_Model_selfish_64
        · by_cases e23 : w = 1
          · subst e23
            refine j_iload_n (pc := 8) C d_Model_selfish_8 rfl 2 rfl ?_
            refine j_i2l (pc := 9) C (v := 1) d_Model_selfish_9 (by decide) ?_
            refine j_lconst (pc := 10) C (v := 0) d_Model_selfish_10 (by decide) ?_
            refine j_iload_n (pc := 11) C d_Model_selfish_11 rfl 1 rfl ?_
            refine j_iconst (pc := 12) C (v := 1) d_Model_selfish_12 (by decide) ?_
            refine j_isub (pc := 13) C (v := 2) d_Model_selfish_13 (by decide) ?_
            refine j_i2l (pc := 14) C (v := 2) d_Model_selfish_14 (by decide) ?_
            refine j_callSi (pc := 15) C (c_isIn_c l D y 1 0 2 1 0 2 (by decide) (by decide) (by decide)) kw_Model_240 ks_Model_isIn ⟨by decide, by decide⟩ ⟨by decide, by decide⟩ (wr := [(ad 43, .inl (y 0, 8, .inl (fun _ => 0))), (ad 45, .inl (y 0, 14, .inl lakeF)), (ad 68, .inl (y 0, 63, .inl f)), (ad 72, .inl (y 0, 7, .inl powF)), (ad 71, .inl (y 0, 1093, .inl (fun _ => 0))), (ad 70, .inl (y 0, 6558, .inl (fun _ => 0))), MB mo ad 0 0 0 0 0 0 0 (-1) 0 0 0 0 0 0 0 0 0 0 1 0, (ad 62, .inl (y 0, 63, .inl (dayF 0)))]) [] [0, 1, 2, 3, 4, 5, 6, 7] rfl rfl (by decide) (by decide) (by decide) (As := [.long 1, .long 0, .long 2]) (rest := []) rfl (nb rfl) rfl d_Model_selfish_15 (fun r24 _ hr24 => ?_)
            refine j_ws (ws' := [(ad 43, .inl (y 0, 8, .inl (fun _ => 0))), (ad 45, .inl (y 0, 14, .inl lakeF)), (ad 68, .inl (y 0, 63, .inl f)), (ad 72, .inl (y 0, 7, .inl powF)), (ad 71, .inl (y 0, 1093, .inl (fun _ => 0))), (ad 70, .inl (y 0, 6558, .inl (fun _ => 0))), MB mo ad 0 0 0 0 0 0 0 (-1) 0 0 0 0 0 0 0 0 0 0 1 0, (ad 62, .inl (y 0, 63, .inl (dayF 0)))]) rfl ?_
            rw [if_pos (by decide)] at hr24
            subst hr24
            refine j_if_neT (pc := 18) C (tgt := 36) d_Model_selfish_18 (by decide) (by decide) ?_
            refine j_aload_n (pc := 36) C d_Model_selfish_36 rfl 0 rfl ?_
            refine j_iload_n (pc := 37) C d_Model_selfish_37 rfl 1 rfl ?_
            refine j_iconst (pc := 38) C (v := 0) d_Model_selfish_38 (by decide) ?_
            refine j_st (st' := [.int 0, .int (nI (2 + 1)), .ref mo]) rfl ?_
            refine j_callVv (pc := 39) C (c_M_plans l D y mo ad 2 0 f (by decide)) kw_Model_522 kv_Model_plans 0 10 rfl rfl ⟨by decide, by decide⟩ ⟨by decide, by decide⟩ (wr := []) [6, 0, 7, 1, 2, 3, 4, 5] [] rfl rfl (by decide) (by decide) (by decide) (As := [.int (nI (2 + 1)), .int 0]) (rest := []) rfl (nb rfl) rfl d_Model_selfish_39 (fun _ _ => ?_)
            refine j_ws (ws' := [MB mo ad 0 0 0 0 0 0 0 (-1) 0 0 0 0 0 0 0 0 0 0 1 0, (ad 43, .inl (y 0, 8, .inl (fun _ => 0))), (ad 62, .inl (y 0, 63, .inl (dayF 0))), (ad 45, .inl (y 0, 14, .inl lakeF)), (ad 68, .inl (y 0, 63, .inl (dayF 0))), (ad 72, .inl (y 0, 7, .inl powF)), (ad 71, .inl (y 0, 1093, .inl (fun _ => 0))), (ad 70, .inl (y 0, 6558, .inl (fun _ => 0)))]) rfl ?_
            refine j_iload_n (pc := 42) C d_Model_selfish_42 rfl 2 rfl ?_
            refine j_iload_n (pc := 43) C d_Model_selfish_43 rfl 1 rfl ?_
            refine j_icmp_geF (pc := 44) C (tgt := 55) d_Model_selfish_44 (by decide) (by decide) ?_
            refine j_aload_n (pc := 47) C d_Model_selfish_47 rfl 0 rfl ?_
            refine j_iload_n (pc := 48) C d_Model_selfish_48 rfl 2 rfl ?_
            refine j_callVi (pc := 49) C (c_M_actOf_1 l D y mo ad) kw_Model_525 kv_Model_actOf 0 10 rfl rfl ⟨by decide, by decide⟩ ⟨by decide, by decide⟩ (wr := [(ad 43, .inl (y 0, 8, .inl (fun _ => 0))), (ad 62, .inl (y 0, 63, .inl (dayF 0))), (ad 45, .inl (y 0, 14, .inl lakeF)), (ad 68, .inl (y 0, 63, .inl (dayF 0))), (ad 70, .inl (y 0, 6558, .inl (fun _ => 0)))]) [0, 5, 6] [1, 2, 3, 4, 7] rfl rfl (by decide) (by decide) (by decide) (As := [.int 1]) (rest := []) rfl (nb rfl) rfl d_Model_selfish_49 (fun r25 _ hr25 => ?_)
            subst hr25
            refine j_ws (ws' := [(ad 43, .inl (y 0, 8, .inl (fun _ => 0))), (ad 62, .inl (y 0, 63, .inl (dayF 0))), (ad 45, .inl (y 0, 14, .inl lakeF)), (ad 68, .inl (y 0, 63, .inl (dayF 0))), (ad 70, .inl (y 0, 6558, .inl (fun _ => 0)))]) rfl ?_
            refine j_st (st' := [.int 0]) rfl ?_
            refine j_goto (pc := 52) C (tgt := 64) d_Model_selfish_52 (by decide) ?_
            exact j_iret (pc := 64) C hr rfl () (by decide) [] rfl (by decide) (by decide) (by decide) d_Model_selfish_64
          · by_cases e26 : w = 2
            · subst e26
              refine j_iload_n (pc := 8) C d_Model_selfish_8 rfl 2 rfl ?_
              refine j_i2l (pc := 9) C (v := 2) d_Model_selfish_9 (by decide) ?_
              refine j_lconst (pc := 10) C (v := 0) d_Model_selfish_10 (by decide) ?_
              refine j_iload_n (pc := 11) C d_Model_selfish_11 rfl 1 rfl ?_
              refine j_iconst (pc := 12) C (v := 1) d_Model_selfish_12 (by decide) ?_
              refine j_isub (pc := 13) C (v := 2) d_Model_selfish_13 (by decide) ?_
              refine j_i2l (pc := 14) C (v := 2) d_Model_selfish_14 (by decide) ?_
              refine j_callSi (pc := 15) C (c_isIn_c l D y 2 0 2 2 0 2 (by decide) (by decide) (by decide)) kw_Model_240 ks_Model_isIn ⟨by decide, by decide⟩ ⟨by decide, by decide⟩ (wr := [(ad 43, .inl (y 0, 8, .inl (fun _ => 0))), (ad 45, .inl (y 0, 14, .inl lakeF)), (ad 68, .inl (y 0, 63, .inl f)), (ad 72, .inl (y 0, 7, .inl powF)), (ad 71, .inl (y 0, 1093, .inl (fun _ => 0))), (ad 70, .inl (y 0, 6558, .inl (fun _ => 0))), MB mo ad 0 0 0 0 0 0 0 (-1) 0 0 0 0 0 0 0 0 0 0 1 0, (ad 62, .inl (y 0, 63, .inl (dayF 0)))]) [] [0, 1, 2, 3, 4, 5, 6, 7] rfl rfl (by decide) (by decide) (by decide) (As := [.long 2, .long 0, .long 2]) (rest := []) rfl (nb rfl) rfl d_Model_selfish_15 (fun r27 _ hr27 => ?_)
              refine j_ws (ws' := [(ad 43, .inl (y 0, 8, .inl (fun _ => 0))), (ad 45, .inl (y 0, 14, .inl lakeF)), (ad 68, .inl (y 0, 63, .inl f)), (ad 72, .inl (y 0, 7, .inl powF)), (ad 71, .inl (y 0, 1093, .inl (fun _ => 0))), (ad 70, .inl (y 0, 6558, .inl (fun _ => 0))), MB mo ad 0 0 0 0 0 0 0 (-1) 0 0 0 0 0 0 0 0 0 0 1 0, (ad 62, .inl (y 0, 63, .inl (dayF 0)))]) rfl ?_
              rw [if_pos (by decide)] at hr27
              subst hr27
              refine j_if_neT (pc := 18) C (tgt := 36) d_Model_selfish_18 (by decide) (by decide) ?_
              refine j_aload_n (pc := 36) C d_Model_selfish_36 rfl 0 rfl ?_
              refine j_iload_n (pc := 37) C d_Model_selfish_37 rfl 1 rfl ?_
              refine j_iconst (pc := 38) C (v := 0) d_Model_selfish_38 (by decide) ?_
              refine j_st (st' := [.int 0, .int (nI (2 + 1)), .ref mo]) rfl ?_
              refine j_callVv (pc := 39) C (c_M_plans l D y mo ad 2 0 f (by decide)) kw_Model_522 kv_Model_plans 0 10 rfl rfl ⟨by decide, by decide⟩ ⟨by decide, by decide⟩ (wr := []) [6, 0, 7, 1, 2, 3, 4, 5] [] rfl rfl (by decide) (by decide) (by decide) (As := [.int (nI (2 + 1)), .int 0]) (rest := []) rfl (nb rfl) rfl d_Model_selfish_39 (fun _ _ => ?_)
              refine j_ws (ws' := [MB mo ad 0 0 0 0 0 0 0 (-1) 0 0 0 0 0 0 0 0 0 0 1 0, (ad 43, .inl (y 0, 8, .inl (fun _ => 0))), (ad 62, .inl (y 0, 63, .inl (dayF 0))), (ad 45, .inl (y 0, 14, .inl lakeF)), (ad 68, .inl (y 0, 63, .inl (dayF 0))), (ad 72, .inl (y 0, 7, .inl powF)), (ad 71, .inl (y 0, 1093, .inl (fun _ => 0))), (ad 70, .inl (y 0, 6558, .inl (fun _ => 0)))]) rfl ?_
              refine j_iload_n (pc := 42) C d_Model_selfish_42 rfl 2 rfl ?_
              refine j_iload_n (pc := 43) C d_Model_selfish_43 rfl 1 rfl ?_
              refine j_icmp_geF (pc := 44) C (tgt := 55) d_Model_selfish_44 (by decide) (by decide) ?_
              refine j_aload_n (pc := 47) C d_Model_selfish_47 rfl 0 rfl ?_
              refine j_iload_n (pc := 48) C d_Model_selfish_48 rfl 2 rfl ?_
              refine j_callVi (pc := 49) C (c_M_actOf_2 l D y mo ad) kw_Model_525 kv_Model_actOf 0 10 rfl rfl ⟨by decide, by decide⟩ ⟨by decide, by decide⟩ (wr := [(ad 43, .inl (y 0, 8, .inl (fun _ => 0))), (ad 62, .inl (y 0, 63, .inl (dayF 0))), (ad 45, .inl (y 0, 14, .inl lakeF)), (ad 68, .inl (y 0, 63, .inl (dayF 0))), (ad 70, .inl (y 0, 6558, .inl (fun _ => 0)))]) [0, 5, 6] [1, 2, 3, 4, 7] rfl rfl (by decide) (by decide) (by decide) (As := [.int 2]) (rest := []) rfl (nb rfl) rfl d_Model_selfish_49 (fun r28 _ hr28 => ?_)
              subst hr28
              refine j_ws (ws' := [(ad 43, .inl (y 0, 8, .inl (fun _ => 0))), (ad 62, .inl (y 0, 63, .inl (dayF 0))), (ad 45, .inl (y 0, 14, .inl lakeF)), (ad 68, .inl (y 0, 63, .inl (dayF 0))), (ad 70, .inl (y 0, 6558, .inl (fun _ => 0)))]) rfl ?_
              refine j_st (st' := [.int 0]) rfl ?_
              refine j_goto (pc := 52) C (tgt := 64) d_Model_selfish_52 (by decide) ?_
              exact j_iret (pc := 64) C hr rfl () (by decide) [] rfl (by decide) (by decide) (by decide) d_Model_selfish_64
            · refine j_iload_n (pc := 8) C d_Model_selfish_8 rfl 2 rfl ?_
              refine j_i2l (pc := 9) C (v := w.toInt64) d_Model_selfish_9 rfl ?_
              refine j_lconst (pc := 10) C (v := 0) d_Model_selfish_10 (by decide) ?_
              refine j_iload_n (pc := 11) C d_Model_selfish_11 rfl 1 rfl ?_
              refine j_iconst (pc := 12) C (v := 1) d_Model_selfish_12 (by decide) ?_
              refine j_isub (pc := 13) C (v := 2) d_Model_selfish_13 (by decide) ?_
              refine j_i2l (pc := 14) C (v := 2) d_Model_selfish_14 (by decide) ?_
              refine j_callSi (pc := 15) C (c_isIn_x l D y w 0 2 0 2 (by decide) (by decide)) kw_Model_240 ks_Model_isIn ⟨by decide, by decide⟩ ⟨by decide, by decide⟩ (wr := [(ad 43, .inl (y 0, 8, .inl (fun _ => 0))), (ad 45, .inl (y 0, 14, .inl lakeF)), (ad 68, .inl (y 0, 63, .inl f)), (ad 72, .inl (y 0, 7, .inl powF)), (ad 71, .inl (y 0, 1093, .inl (fun _ => 0))), (ad 70, .inl (y 0, 6558, .inl (fun _ => 0))), MB mo ad 0 0 0 0 0 0 0 (-1) 0 0 0 0 0 0 0 0 0 0 1 0, (ad 62, .inl (y 0, 63, .inl (dayF 0)))]) [] [0, 1, 2, 3, 4, 5, 6, 7] rfl rfl (by decide) (by decide) (by decide) (As := [.long w.toInt64, .long 0, .long 2]) (rest := []) rfl (nb rfl) rfl d_Model_selfish_15 (fun r29 _ hr29 => ?_)
              refine j_ws (ws' := [(ad 43, .inl (y 0, 8, .inl (fun _ => 0))), (ad 45, .inl (y 0, 14, .inl lakeF)), (ad 68, .inl (y 0, 63, .inl f)), (ad 72, .inl (y 0, 7, .inl powF)), (ad 71, .inl (y 0, 1093, .inl (fun _ => 0))), (ad 70, .inl (y 0, 6558, .inl (fun _ => 0))), MB mo ad 0 0 0 0 0 0 0 (-1) 0 0 0 0 0 0 0 0 0 0 1 0, (ad 62, .inl (y 0, 63, .inl (dayF 0)))]) rfl ?_
              rw [if_neg (by simp only [← Int32.toInt_inj, (by decide : Int32.toInt 0 = 0), (by decide : Int32.toInt 1 = 1), (by decide : Int32.toInt 2 = 2), (by decide : Int32.toInt 3 = 3), (by decide : Int32.toInt 4 = 4), (by decide : Int32.toInt 5 = 5), (by decide : Int32.toInt 6 = 6), (by decide : Int32.toInt 7 = 7), (by decide : Int32.toInt 8 = 8), (by decide : Int32.toInt 9 = 9)] at e20 e23 e26; omega)] at hr29
              subst hr29
              refine j_if_neF (pc := 18) C (tgt := 36) d_Model_selfish_18 (by decide) (by decide) ?_
              refine j_aload_n (pc := 21) C d_Model_selfish_21 rfl 0 rfl ?_
              refine j_iload_n (pc := 22) C d_Model_selfish_22 rfl 2 rfl ?_
              refine j_bipush (pc := 23) C (v := 10) d_Model_selfish_23 (by decide) ?_
              refine j_isub (pc := 25) C (v := w - 10) d_Model_selfish_25 rfl ?_
              refine j_callVi (pc := 26) C (c_M_isVillage l D y mo ad 0 0 1 (w - 10)) kw_Model_472 kv_Model_isVillage 0 10 rfl rfl ⟨by decide, by decide⟩ ⟨by decide, by decide⟩ (wr := [(ad 45, .inl (y 0, 14, .inl lakeF)), (ad 68, .inl (y 0, 63, .inl f)), (ad 72, .inl (y 0, 7, .inl powF)), (ad 71, .inl (y 0, 1093, .inl (fun _ => 0))), (ad 70, .inl (y 0, 6558, .inl (fun _ => 0))), (ad 62, .inl (y 0, 63, .inl (dayF 0)))]) [6, 0] [1, 2, 3, 4, 5, 7] rfl rfl (by decide) (by decide) (by decide) (As := [.int (w - 10)]) (rest := []) rfl (nb rfl) rfl d_Model_selfish_26 (fun r30 _ hr30 => ?_)
              subst hr30
              refine j_ws (ws' := [(ad 45, .inl (y 0, 14, .inl lakeF)), (ad 68, .inl (y 0, 63, .inl f)), (ad 72, .inl (y 0, 7, .inl powF)), (ad 71, .inl (y 0, 1093, .inl (fun _ => 0))), (ad 70, .inl (y 0, 6558, .inl (fun _ => 0))), (ad 62, .inl (y 0, 63, .inl (dayF 0))), MB mo ad 0 0 0 0 0 0 0 (-1) 0 0 0 0 0 0 0 0 0 0 1 0, (ad 43, .inl (y 0, 8, .inl (fun _ => 0)))]) rfl ?_
              refine j_st (st' := [.int 0]) rfl ?_
              refine j_if_neF (pc := 29) C (tgt := 36) d_Model_selfish_29 (by decide) (by decide) ?_
              refine j_ldcw (pc := 32) C (v := (-1000000000)) (mt_7 (List.mem_of_getElem? (i := 94) rfl) rfl) d_Model_selfish_32 ?_
              exact j_iret (pc := 35) C hr rfl () (by simp only [Int32.lt_iff_toInt_lt, Int32.le_iff_toInt_le, ← Int32.toInt_inj, (by decide : Int32.toInt 0 = 0), (by decide : Int32.toInt 1 = 1), (by decide : Int32.toInt 2 = 2), (by decide : Int32.toInt 3 = 3), (by decide : Int32.toInt 4 = 4), (by decide : Int32.toInt 5 = 5), (by decide : Int32.toInt 6 = 6), (by decide : Int32.toInt 7 = 7), (by decide : Int32.toInt 8 = 8), (by decide : Int32.toInt 9 = 9)] at e1 e8 e20 e23 e26 ⊢; rw [if_neg (by omega)]) [] rfl (by decide) (by decide) (by decide) d_Model_selfish_35
      · by_cases e31 : n = 4
        · subst e31
          refine j_aload_n (pc := 0) C d_Model_selfish_0 rfl 0 rfl ?_
          refine j_iload_n (pc := 1) C d_Model_selfish_1 rfl 1 rfl ?_
          refine j_callVi (pc := 2) C (c_M_canPlan_4 l D y mo ad) kw_Model_519 kv_Model_canPlan 0 10 rfl rfl ⟨by decide, by decide⟩ ⟨by decide, by decide⟩ (wr := [(ad 43, .inl (y 0, 8, .inl (fun _ => 0))), (ad 45, .inl (y 0, 14, .inl lakeF)), (ad 68, .inl (y 0, 63, .inl f)), (ad 72, .inl (y 0, 7, .inl powF)), (ad 71, .inl (y 0, 1093, .inl (fun _ => 0))), (ad 70, .inl (y 0, 6558, .inl (fun _ => 0)))]) [0, 2] [1, 3, 4, 5, 6, 7] rfl rfl (by decide) (by decide) (by decide) (As := [.int 4]) (rest := []) rfl (nb rfl) rfl d_Model_selfish_2 (fun r32 _ hr32 => ?_)
          subst hr32
          refine j_ws (ws' := [(ad 43, .inl (y 0, 8, .inl (fun _ => 0))), (ad 45, .inl (y 0, 14, .inl lakeF)), (ad 68, .inl (y 0, 63, .inl f)), (ad 72, .inl (y 0, 7, .inl powF)), (ad 71, .inl (y 0, 1093, .inl (fun _ => 0))), (ad 70, .inl (y 0, 6558, .inl (fun _ => 0))), MB mo ad 0 0 0 0 0 0 0 (-1) 0 0 0 0 0 0 0 0 0 0 1 0, (ad 62, .inl (y 0, 63, .inl (dayF 0)))]) rfl ?_
          refine j_st (st' := [.int 1]) rfl ?_
          refine j_if_eqF (pc := 5) C (tgt := 32) d_Model_selfish_5 (by decide) (by decide) ?_
          by_cases e33 : w = 0
          · subst e33
            refine j_iload_n (pc := 8) C d_Model_selfish_8 rfl 2 rfl ?_
            refine j_i2l (pc := 9) C (v := 0) d_Model_selfish_9 (by decide) ?_
            refine j_lconst (pc := 10) C (v := 0) d_Model_selfish_10 (by decide) ?_
            refine j_iload_n (pc := 11) C d_Model_selfish_11 rfl 1 rfl ?_
            refine j_iconst (pc := 12) C (v := 1) d_Model_selfish_12 (by decide) ?_
            refine j_isub (pc := 13) C (v := 3) d_Model_selfish_13 (by decide) ?_
            refine j_i2l (pc := 14) C (v := 3) d_Model_selfish_14 (by decide) ?_
            refine j_callSi (pc := 15) C (c_isIn_c l D y 0 0 3 0 0 3 (by decide) (by decide) (by decide)) kw_Model_240 ks_Model_isIn ⟨by decide, by decide⟩ ⟨by decide, by decide⟩ (wr := [(ad 43, .inl (y 0, 8, .inl (fun _ => 0))), (ad 45, .inl (y 0, 14, .inl lakeF)), (ad 68, .inl (y 0, 63, .inl f)), (ad 72, .inl (y 0, 7, .inl powF)), (ad 71, .inl (y 0, 1093, .inl (fun _ => 0))), (ad 70, .inl (y 0, 6558, .inl (fun _ => 0))), MB mo ad 0 0 0 0 0 0 0 (-1) 0 0 0 0 0 0 0 0 0 0 1 0, (ad 62, .inl (y 0, 63, .inl (dayF 0)))]) [] [0, 1, 2, 3, 4, 5, 6, 7] rfl rfl (by decide) (by decide) (by decide) (As := [.long 0, .long 0, .long 3]) (rest := []) rfl (nb rfl) rfl d_Model_selfish_15 (fun r34 _ hr34 => ?_)
            refine j_ws (ws' := [(ad 43, .inl (y 0, 8, .inl (fun _ => 0))), (ad 45, .inl (y 0, 14, .inl lakeF)), (ad 68, .inl (y 0, 63, .inl f)), (ad 72, .inl (y 0, 7, .inl powF)), (ad 71, .inl (y 0, 1093, .inl (fun _ => 0))), (ad 70, .inl (y 0, 6558, .inl (fun _ => 0))), MB mo ad 0 0 0 0 0 0 0 (-1) 0 0 0 0 0 0 0 0 0 0 1 0, (ad 62, .inl (y 0, 63, .inl (dayF 0)))]) rfl ?_
            rw [if_pos (by decide)] at hr34
            subst hr34
            refine j_if_neT (pc := 18) C (tgt := 36) d_Model_selfish_18 (by decide) (by decide) ?_
            refine j_aload_n (pc := 36) C d_Model_selfish_36 rfl 0 rfl ?_
            refine j_iload_n (pc := 37) C d_Model_selfish_37 rfl 1 rfl ?_
            refine j_iconst (pc := 38) C (v := 0) d_Model_selfish_38 (by decide) ?_
            refine j_st (st' := [.int 0, .int (nI (3 + 1)), .ref mo]) rfl ?_
            refine j_callVv (pc := 39) C (c_M_plans l D y mo ad 3 0 f (by decide)) kw_Model_522 kv_Model_plans 0 10 rfl rfl ⟨by decide, by decide⟩ ⟨by decide, by decide⟩ (wr := []) [6, 0, 7, 1, 2, 3, 4, 5] [] rfl rfl (by decide) (by decide) (by decide) (As := [.int (nI (3 + 1)), .int 0]) (rest := []) rfl (nb rfl) rfl d_Model_selfish_39 (fun _ _ => ?_)
            refine j_ws (ws' := [MB mo ad 0 0 0 0 0 0 0 (-1) 0 0 0 0 0 0 0 0 0 0 1 0, (ad 43, .inl (y 0, 8, .inl (fun _ => 0))), (ad 62, .inl (y 0, 63, .inl (dayF 0))), (ad 45, .inl (y 0, 14, .inl lakeF)), (ad 68, .inl (y 0, 63, .inl (dayF 0))), (ad 72, .inl (y 0, 7, .inl powF)), (ad 71, .inl (y 0, 1093, .inl (fun _ => 0))), (ad 70, .inl (y 0, 6558, .inl (fun _ => 0)))]) rfl ?_
            refine j_iload_n (pc := 42) C d_Model_selfish_42 rfl 2 rfl ?_
            refine j_iload_n (pc := 43) C d_Model_selfish_43 rfl 1 rfl ?_
            refine j_icmp_geF (pc := 44) C (tgt := 55) d_Model_selfish_44 (by decide) (by decide) ?_
            refine j_aload_n (pc := 47) C d_Model_selfish_47 rfl 0 rfl ?_
            refine j_iload_n (pc := 48) C d_Model_selfish_48 rfl 2 rfl ?_
            refine j_callVi (pc := 49) C (c_M_actOf_0 l D y mo ad) kw_Model_525 kv_Model_actOf 0 10 rfl rfl ⟨by decide, by decide⟩ ⟨by decide, by decide⟩ (wr := [(ad 43, .inl (y 0, 8, .inl (fun _ => 0))), (ad 62, .inl (y 0, 63, .inl (dayF 0))), (ad 45, .inl (y 0, 14, .inl lakeF)), (ad 68, .inl (y 0, 63, .inl (dayF 0))), (ad 70, .inl (y 0, 6558, .inl (fun _ => 0)))]) [0, 5, 6] [1, 2, 3, 4, 7] rfl rfl (by decide) (by decide) (by decide) (As := [.int 0]) (rest := []) rfl (nb rfl) rfl d_Model_selfish_49 (fun r35 _ hr35 => ?_)
            subst hr35
            refine j_ws (ws' := [(ad 43, .inl (y 0, 8, .inl (fun _ => 0))), (ad 62, .inl (y 0, 63, .inl (dayF 0))), (ad 45, .inl (y 0, 14, .inl lakeF)), (ad 68, .inl (y 0, 63, .inl (dayF 0))), (ad 70, .inl (y 0, 6558, .inl (fun _ => 0)))]) rfl ?_
            refine j_st (st' := [.int 0]) rfl ?_
            refine j_goto (pc := 52) C (tgt := 64) d_Model_selfish_52 (by decide) ?_
            exact j_iret (pc := 64) C hr rfl () (by decide) [] rfl (by decide) (by decide) (by decide) d_Model_selfish_64
          · by_cases e36 : w = 1
            · subst e36
              refine j_iload_n (pc := 8) C d_Model_selfish_8 rfl 2 rfl ?_
              refine j_i2l (pc := 9) C (v := 1) d_Model_selfish_9 (by decide) ?_
              refine j_lconst (pc := 10) C (v := 0) d_Model_selfish_10 (by decide) ?_
              refine j_iload_n (pc := 11) C d_Model_selfish_11 rfl 1 rfl ?_
              refine j_iconst (pc := 12) C (v := 1) d_Model_selfish_12 (by decide) ?_
              refine j_isub (pc := 13) C (v := 3) d_Model_selfish_13 (by decide) ?_
              refine j_i2l (pc := 14) C (v := 3) d_Model_selfish_14 (by decide) ?_
              refine j_callSi (pc := 15) C (c_isIn_c l D y 1 0 3 1 0 3 (by decide) (by decide) (by decide)) kw_Model_240 ks_Model_isIn ⟨by decide, by decide⟩ ⟨by decide, by decide⟩ (wr := [(ad 43, .inl (y 0, 8, .inl (fun _ => 0))), (ad 45, .inl (y 0, 14, .inl lakeF)), (ad 68, .inl (y 0, 63, .inl f)), (ad 72, .inl (y 0, 7, .inl powF)), (ad 71, .inl (y 0, 1093, .inl (fun _ => 0))), (ad 70, .inl (y 0, 6558, .inl (fun _ => 0))), MB mo ad 0 0 0 0 0 0 0 (-1) 0 0 0 0 0 0 0 0 0 0 1 0, (ad 62, .inl (y 0, 63, .inl (dayF 0)))]) [] [0, 1, 2, 3, 4, 5, 6, 7] rfl rfl (by decide) (by decide) (by decide) (As := [.long 1, .long 0, .long 3]) (rest := []) rfl (nb rfl) rfl d_Model_selfish_15 (fun r37 _ hr37 => ?_)
              refine j_ws (ws' := [(ad 43, .inl (y 0, 8, .inl (fun _ => 0))), (ad 45, .inl (y 0, 14, .inl lakeF)), (ad 68, .inl (y 0, 63, .inl f)), (ad 72, .inl (y 0, 7, .inl powF)), (ad 71, .inl (y 0, 1093, .inl (fun _ => 0))), (ad 70, .inl (y 0, 6558, .inl (fun _ => 0))), MB mo ad 0 0 0 0 0 0 0 (-1) 0 0 0 0 0 0 0 0 0 0 1 0, (ad 62, .inl (y 0, 63, .inl (dayF 0)))]) rfl ?_
              rw [if_pos (by decide)] at hr37
              subst hr37
              refine j_if_neT (pc := 18) C (tgt := 36) d_Model_selfish_18 (by decide) (by decide) ?_
              refine j_aload_n (pc := 36) C d_Model_selfish_36 rfl 0 rfl ?_
              refine j_iload_n (pc := 37) C d_Model_selfish_37 rfl 1 rfl ?_
              refine j_iconst (pc := 38) C (v := 0) d_Model_selfish_38 (by decide) ?_
              refine j_st (st' := [.int 0, .int (nI (3 + 1)), .ref mo]) rfl ?_
              refine j_callVv (pc := 39) C (c_M_plans l D y mo ad 3 0 f (by decide)) kw_Model_522 kv_Model_plans 0 10 rfl rfl ⟨by decide, by decide⟩ ⟨by decide, by decide⟩ (wr := []) [6, 0, 7, 1, 2, 3, 4, 5] [] rfl rfl (by decide) (by decide) (by decide) (As := [.int (nI (3 + 1)), .int 0]) (rest := []) rfl (nb rfl) rfl d_Model_selfish_39 (fun _ _ => ?_)
              refine j_ws (ws' := [MB mo ad 0 0 0 0 0 0 0 (-1) 0 0 0 0 0 0 0 0 0 0 1 0, (ad 43, .inl (y 0, 8, .inl (fun _ => 0))), (ad 62, .inl (y 0, 63, .inl (dayF 0))), (ad 45, .inl (y 0, 14, .inl lakeF)), (ad 68, .inl (y 0, 63, .inl (dayF 0))), (ad 72, .inl (y 0, 7, .inl powF)), (ad 71, .inl (y 0, 1093, .inl (fun _ => 0))), (ad 70, .inl (y 0, 6558, .inl (fun _ => 0)))]) rfl ?_
              refine j_iload_n (pc := 42) C d_Model_selfish_42 rfl 2 rfl ?_
              refine j_iload_n (pc := 43) C d_Model_selfish_43 rfl 1 rfl ?_
              refine j_icmp_geF (pc := 44) C (tgt := 55) d_Model_selfish_44 (by decide) (by decide) ?_
              refine j_aload_n (pc := 47) C d_Model_selfish_47 rfl 0 rfl ?_
              refine j_iload_n (pc := 48) C d_Model_selfish_48 rfl 2 rfl ?_
              refine j_callVi (pc := 49) C (c_M_actOf_1 l D y mo ad) kw_Model_525 kv_Model_actOf 0 10 rfl rfl ⟨by decide, by decide⟩ ⟨by decide, by decide⟩ (wr := [(ad 43, .inl (y 0, 8, .inl (fun _ => 0))), (ad 62, .inl (y 0, 63, .inl (dayF 0))), (ad 45, .inl (y 0, 14, .inl lakeF)), (ad 68, .inl (y 0, 63, .inl (dayF 0))), (ad 70, .inl (y 0, 6558, .inl (fun _ => 0)))]) [0, 5, 6] [1, 2, 3, 4, 7] rfl rfl (by decide) (by decide) (by decide) (As := [.int 1]) (rest := []) rfl (nb rfl) rfl d_Model_selfish_49 (fun r38 _ hr38 => ?_)
              subst hr38
              refine j_ws (ws' := [(ad 43, .inl (y 0, 8, .inl (fun _ => 0))), (ad 62, .inl (y 0, 63, .inl (dayF 0))), (ad 45, .inl (y 0, 14, .inl lakeF)), (ad 68, .inl (y 0, 63, .inl (dayF 0))), (ad 70, .inl (y 0, 6558, .inl (fun _ => 0)))]) rfl ?_
              refine j_st (st' := [.int 0]) rfl ?_
              refine j_goto (pc := 52) C (tgt := 64) d_Model_selfish_52 (by decide) ?_
              exact j_iret (pc := 64) C hr rfl () (by decide) [] rfl (by decide) (by decide) (by decide) d_Model_selfish_64
            · by_cases e39 : w = 2
              · subst e39
                refine j_iload_n (pc := 8) C d_Model_selfish_8 rfl 2 rfl ?_
                refine j_i2l (pc := 9) C (v := 2) d_Model_selfish_9 (by decide) ?_
                refine j_lconst (pc := 10) C (v := 0) d_Model_selfish_10 (by decide) ?_
                refine j_iload_n (pc := 11) C d_Model_selfish_11 rfl 1 rfl ?_
                refine j_iconst (pc := 12) C (v := 1) d_Model_selfish_12 (by decide) ?_
                refine j_isub (pc := 13) C (v := 3) d_Model_selfish_13 (by decide) ?_
                refine j_i2l (pc := 14) C (v := 3) d_Model_selfish_14 (by decide) ?_
                refine j_callSi (pc := 15) C (c_isIn_c l D y 2 0 3 2 0 3 (by decide) (by decide) (by decide)) kw_Model_240 ks_Model_isIn ⟨by decide, by decide⟩ ⟨by decide, by decide⟩ (wr := [(ad 43, .inl (y 0, 8, .inl (fun _ => 0))), (ad 45, .inl (y 0, 14, .inl lakeF)), (ad 68, .inl (y 0, 63, .inl f)), (ad 72, .inl (y 0, 7, .inl powF)), (ad 71, .inl (y 0, 1093, .inl (fun _ => 0))), (ad 70, .inl (y 0, 6558, .inl (fun _ => 0))), MB mo ad 0 0 0 0 0 0 0 (-1) 0 0 0 0 0 0 0 0 0 0 1 0, (ad 62, .inl (y 0, 63, .inl (dayF 0)))]) [] [0, 1, 2, 3, 4, 5, 6, 7] rfl rfl (by decide) (by decide) (by decide) (As := [.long 2, .long 0, .long 3]) (rest := []) rfl (nb rfl) rfl d_Model_selfish_15 (fun r40 _ hr40 => ?_)
                refine j_ws (ws' := [(ad 43, .inl (y 0, 8, .inl (fun _ => 0))), (ad 45, .inl (y 0, 14, .inl lakeF)), (ad 68, .inl (y 0, 63, .inl f)), (ad 72, .inl (y 0, 7, .inl powF)), (ad 71, .inl (y 0, 1093, .inl (fun _ => 0))), (ad 70, .inl (y 0, 6558, .inl (fun _ => 0))), MB mo ad 0 0 0 0 0 0 0 (-1) 0 0 0 0 0 0 0 0 0 0 1 0, (ad 62, .inl (y 0, 63, .inl (dayF 0)))]) rfl ?_
                rw [if_pos (by decide)] at hr40
                subst hr40
                refine j_if_neT (pc := 18) C (tgt := 36) d_Model_selfish_18 (by decide) (by decide) ?_
                refine j_aload_n (pc := 36) C d_Model_selfish_36 rfl 0 rfl ?_
                refine j_iload_n (pc := 37) C d_Model_selfish_37 rfl 1 rfl ?_
                refine j_iconst (pc := 38) C (v := 0) d_Model_selfish_38 (by decide) ?_
                refine j_st (st' := [.int 0, .int (nI (3 + 1)), .ref mo]) rfl ?_
                refine j_callVv (pc := 39) C (c_M_plans l D y mo ad 3 0 f (by decide)) kw_Model_522 kv_Model_plans 0 10 rfl rfl ⟨by decide, by decide⟩ ⟨by decide, by decide⟩ (wr := []) [6, 0, 7, 1, 2, 3, 4, 5] [] rfl rfl (by decide) (by decide) (by decide) (As := [.int (nI (3 + 1)), .int 0]) (rest := []) rfl (nb rfl) rfl d_Model_selfish_39 (fun _ _ => ?_)
                refine j_ws (ws' := [MB mo ad 0 0 0 0 0 0 0 (-1) 0 0 0 0 0 0 0 0 0 0 1 0, (ad 43, .inl (y 0, 8, .inl (fun _ => 0))), (ad 62, .inl (y 0, 63, .inl (dayF 0))), (ad 45, .inl (y 0, 14, .inl lakeF)), (ad 68, .inl (y 0, 63, .inl (dayF 0))), (ad 72, .inl (y 0, 7, .inl powF)), (ad 71, .inl (y 0, 1093, .inl (fun _ => 0))), (ad 70, .inl (y 0, 6558, .inl (fun _ => 0)))]) rfl ?_
                refine j_iload_n (pc := 42) C d_Model_selfish_42 rfl 2 rfl ?_
                refine j_iload_n (pc := 43) C d_Model_selfish_43 rfl 1 rfl ?_
                refine j_icmp_geF (pc := 44) C (tgt := 55) d_Model_selfish_44 (by decide) (by decide) ?_
                refine j_aload_n (pc := 47) C d_Model_selfish_47 rfl 0 rfl ?_
                refine j_iload_n (pc := 48) C d_Model_selfish_48 rfl 2 rfl ?_
                refine j_callVi (pc := 49) C (c_M_actOf_2 l D y mo ad) kw_Model_525 kv_Model_actOf 0 10 rfl rfl ⟨by decide, by decide⟩ ⟨by decide, by decide⟩ (wr := [(ad 43, .inl (y 0, 8, .inl (fun _ => 0))), (ad 62, .inl (y 0, 63, .inl (dayF 0))), (ad 45, .inl (y 0, 14, .inl lakeF)), (ad 68, .inl (y 0, 63, .inl (dayF 0))), (ad 70, .inl (y 0, 6558, .inl (fun _ => 0)))]) [0, 5, 6] [1, 2, 3, 4, 7] rfl rfl (by decide) (by decide) (by decide) (As := [.int 2]) (rest := []) rfl (nb rfl) rfl d_Model_selfish_49 (fun r41 _ hr41 => ?_)
                subst hr41
                refine j_ws (ws' := [(ad 43, .inl (y 0, 8, .inl (fun _ => 0))), (ad 62, .inl (y 0, 63, .inl (dayF 0))), (ad 45, .inl (y 0, 14, .inl lakeF)), (ad 68, .inl (y 0, 63, .inl (dayF 0))), (ad 70, .inl (y 0, 6558, .inl (fun _ => 0)))]) rfl ?_
                refine j_st (st' := [.int 0]) rfl ?_
                refine j_goto (pc := 52) C (tgt := 64) d_Model_selfish_52 (by decide) ?_
                exact j_iret (pc := 64) C hr rfl () (by decide) [] rfl (by decide) (by decide) (by decide) d_Model_selfish_64
              · by_cases e42 : w = 3
                · subst e42
                  refine j_iload_n (pc := 8) C d_Model_selfish_8 rfl 2 rfl ?_
                  refine j_i2l (pc := 9) C (v := 3) d_Model_selfish_9 (by decide) ?_
                  refine j_lconst (pc := 10) C (v := 0) d_Model_selfish_10 (by decide) ?_
                  refine j_iload_n (pc := 11) C d_Model_selfish_11 rfl 1 rfl ?_
                  refine j_iconst (pc := 12) C (v := 1) d_Model_selfish_12 (by decide) ?_
                  refine j_isub (pc := 13) C (v := 3) d_Model_selfish_13 (by decide) ?_
                  refine j_i2l (pc := 14) C (v := 3) d_Model_selfish_14 (by decide) ?_
                  refine j_callSi (pc := 15) C (c_isIn_c l D y 3 0 3 3 0 3 (by decide) (by decide) (by decide)) kw_Model_240 ks_Model_isIn ⟨by decide, by decide⟩ ⟨by decide, by decide⟩ (wr := [(ad 43, .inl (y 0, 8, .inl (fun _ => 0))), (ad 45, .inl (y 0, 14, .inl lakeF)), (ad 68, .inl (y 0, 63, .inl f)), (ad 72, .inl (y 0, 7, .inl powF)), (ad 71, .inl (y 0, 1093, .inl (fun _ => 0))), (ad 70, .inl (y 0, 6558, .inl (fun _ => 0))), MB mo ad 0 0 0 0 0 0 0 (-1) 0 0 0 0 0 0 0 0 0 0 1 0, (ad 62, .inl (y 0, 63, .inl (dayF 0)))]) [] [0, 1, 2, 3, 4, 5, 6, 7] rfl rfl (by decide) (by decide) (by decide) (As := [.long 3, .long 0, .long 3]) (rest := []) rfl (nb rfl) rfl d_Model_selfish_15 (fun r43 _ hr43 => ?_)
                  refine j_ws (ws' := [(ad 43, .inl (y 0, 8, .inl (fun _ => 0))), (ad 45, .inl (y 0, 14, .inl lakeF)), (ad 68, .inl (y 0, 63, .inl f)), (ad 72, .inl (y 0, 7, .inl powF)), (ad 71, .inl (y 0, 1093, .inl (fun _ => 0))), (ad 70, .inl (y 0, 6558, .inl (fun _ => 0))), MB mo ad 0 0 0 0 0 0 0 (-1) 0 0 0 0 0 0 0 0 0 0 1 0, (ad 62, .inl (y 0, 63, .inl (dayF 0)))]) rfl ?_
                  rw [if_pos (by decide)] at hr43
                  subst hr43
                  refine j_if_neT (pc := 18) C (tgt := 36) d_Model_selfish_18 (by decide) (by decide) ?_
                  refine j_aload_n (pc := 36) C d_Model_selfish_36 rfl 0 rfl ?_
                  refine j_iload_n (pc := 37) C d_Model_selfish_37 rfl 1 rfl ?_
                  refine j_iconst (pc := 38) C (v := 0) d_Model_selfish_38 (by decide) ?_
                  refine j_st (st' := [.int 0, .int (nI (3 + 1)), .ref mo]) rfl ?_
                  refine j_callVv (pc := 39) C (c_M_plans l D y mo ad 3 0 f (by decide)) kw_Model_522 kv_Model_plans 0 10 rfl rfl ⟨by decide, by decide⟩ ⟨by decide, by decide⟩ (wr := []) [6, 0, 7, 1, 2, 3, 4, 5] [] rfl rfl (by decide) (by decide) (by decide) (As := [.int (nI (3 + 1)), .int 0]) (rest := []) rfl (nb rfl) rfl d_Model_selfish_39 (fun _ _ => ?_)
                  refine j_ws (ws' := [MB mo ad 0 0 0 0 0 0 0 (-1) 0 0 0 0 0 0 0 0 0 0 1 0, (ad 43, .inl (y 0, 8, .inl (fun _ => 0))), (ad 62, .inl (y 0, 63, .inl (dayF 0))), (ad 45, .inl (y 0, 14, .inl lakeF)), (ad 68, .inl (y 0, 63, .inl (dayF 0))), (ad 72, .inl (y 0, 7, .inl powF)), (ad 71, .inl (y 0, 1093, .inl (fun _ => 0))), (ad 70, .inl (y 0, 6558, .inl (fun _ => 0)))]) rfl ?_
                  refine j_iload_n (pc := 42) C d_Model_selfish_42 rfl 2 rfl ?_
                  refine j_iload_n (pc := 43) C d_Model_selfish_43 rfl 1 rfl ?_
                  refine j_icmp_geF (pc := 44) C (tgt := 55) d_Model_selfish_44 (by decide) (by decide) ?_
                  refine j_aload_n (pc := 47) C d_Model_selfish_47 rfl 0 rfl ?_
                  refine j_iload_n (pc := 48) C d_Model_selfish_48 rfl 2 rfl ?_
                  refine j_callVi (pc := 49) C (c_M_actOf_3 l D y mo ad) kw_Model_525 kv_Model_actOf 0 10 rfl rfl ⟨by decide, by decide⟩ ⟨by decide, by decide⟩ (wr := [(ad 43, .inl (y 0, 8, .inl (fun _ => 0))), (ad 62, .inl (y 0, 63, .inl (dayF 0))), (ad 45, .inl (y 0, 14, .inl lakeF)), (ad 68, .inl (y 0, 63, .inl (dayF 0))), (ad 70, .inl (y 0, 6558, .inl (fun _ => 0)))]) [0, 5, 6] [1, 2, 3, 4, 7] rfl rfl (by decide) (by decide) (by decide) (As := [.int 3]) (rest := []) rfl (nb rfl) rfl d_Model_selfish_49 (fun r44 _ hr44 => ?_)
                  subst hr44
                  refine j_ws (ws' := [(ad 43, .inl (y 0, 8, .inl (fun _ => 0))), (ad 62, .inl (y 0, 63, .inl (dayF 0))), (ad 45, .inl (y 0, 14, .inl lakeF)), (ad 68, .inl (y 0, 63, .inl (dayF 0))), (ad 70, .inl (y 0, 6558, .inl (fun _ => 0)))]) rfl ?_
                  refine j_st (st' := [.int 0]) rfl ?_
                  refine j_goto (pc := 52) C (tgt := 64) d_Model_selfish_52 (by decide) ?_
                  exact j_iret (pc := 64) C hr rfl () (by decide) [] rfl (by decide) (by decide) (by decide) d_Model_selfish_64
                · refine j_iload_n (pc := 8) C d_Model_selfish_8 rfl 2 rfl ?_
                  refine j_i2l (pc := 9) C (v := w.toInt64) d_Model_selfish_9 rfl ?_
                  refine j_lconst (pc := 10) C (v := 0) d_Model_selfish_10 (by decide) ?_
                  refine j_iload_n (pc := 11) C d_Model_selfish_11 rfl 1 rfl ?_
                  refine j_iconst (pc := 12) C (v := 1) d_Model_selfish_12 (by decide) ?_
                  refine j_isub (pc := 13) C (v := 3) d_Model_selfish_13 (by decide) ?_
                  refine j_i2l (pc := 14) C (v := 3) d_Model_selfish_14 (by decide) ?_
                  refine j_callSi (pc := 15) C (c_isIn_x l D y w 0 3 0 3 (by decide) (by decide)) kw_Model_240 ks_Model_isIn ⟨by decide, by decide⟩ ⟨by decide, by decide⟩ (wr := [(ad 43, .inl (y 0, 8, .inl (fun _ => 0))), (ad 45, .inl (y 0, 14, .inl lakeF)), (ad 68, .inl (y 0, 63, .inl f)), (ad 72, .inl (y 0, 7, .inl powF)), (ad 71, .inl (y 0, 1093, .inl (fun _ => 0))), (ad 70, .inl (y 0, 6558, .inl (fun _ => 0))), MB mo ad 0 0 0 0 0 0 0 (-1) 0 0 0 0 0 0 0 0 0 0 1 0, (ad 62, .inl (y 0, 63, .inl (dayF 0)))]) [] [0, 1, 2, 3, 4, 5, 6, 7] rfl rfl (by decide) (by decide) (by decide) (As := [.long w.toInt64, .long 0, .long 3]) (rest := []) rfl (nb rfl) rfl d_Model_selfish_15 (fun r45 _ hr45 => ?_)
                  refine j_ws (ws' := [(ad 43, .inl (y 0, 8, .inl (fun _ => 0))), (ad 45, .inl (y 0, 14, .inl lakeF)), (ad 68, .inl (y 0, 63, .inl f)), (ad 72, .inl (y 0, 7, .inl powF)), (ad 71, .inl (y 0, 1093, .inl (fun _ => 0))), (ad 70, .inl (y 0, 6558, .inl (fun _ => 0))), MB mo ad 0 0 0 0 0 0 0 (-1) 0 0 0 0 0 0 0 0 0 0 1 0, (ad 62, .inl (y 0, 63, .inl (dayF 0)))]) rfl ?_
                  rw [if_neg (by simp only [← Int32.toInt_inj, (by decide : Int32.toInt 0 = 0), (by decide : Int32.toInt 1 = 1), (by decide : Int32.toInt 2 = 2), (by decide : Int32.toInt 3 = 3), (by decide : Int32.toInt 4 = 4), (by decide : Int32.toInt 5 = 5), (by decide : Int32.toInt 6 = 6), (by decide : Int32.toInt 7 = 7), (by decide : Int32.toInt 8 = 8), (by decide : Int32.toInt 9 = 9)] at e33 e36 e39 e42; omega)] at hr45
                  subst hr45
                  refine j_if_neF (pc := 18) C (tgt := 36) d_Model_selfish_18 (by decide) (by decide) ?_
                  refine j_aload_n (pc := 21) C d_Model_selfish_21 rfl 0 rfl ?_
                  refine j_iload_n (pc := 22) C d_Model_selfish_22 rfl 2 rfl ?_
                  refine j_bipush (pc := 23) C (v := 10) d_Model_selfish_23 (by decide) ?_
                  refine j_isub (pc := 25) C (v := w - 10) d_Model_selfish_25 rfl ?_
                  refine j_callVi (pc := 26) C (c_M_isVillage l D y mo ad 0 0 1 (w - 10)) kw_Model_472 kv_Model_isVillage 0 10 rfl rfl ⟨by decide, by decide⟩ ⟨by decide, by decide⟩ (wr := [(ad 45, .inl (y 0, 14, .inl lakeF)), (ad 68, .inl (y 0, 63, .inl f)), (ad 72, .inl (y 0, 7, .inl powF)), (ad 71, .inl (y 0, 1093, .inl (fun _ => 0))), (ad 70, .inl (y 0, 6558, .inl (fun _ => 0))), (ad 62, .inl (y 0, 63, .inl (dayF 0)))]) [6, 0] [1, 2, 3, 4, 5, 7] rfl rfl (by decide) (by decide) (by decide) (As := [.int (w - 10)]) (rest := []) rfl (nb rfl) rfl d_Model_selfish_26 (fun r46 _ hr46 => ?_)
                  subst hr46
                  refine j_ws (ws' := [(ad 45, .inl (y 0, 14, .inl lakeF)), (ad 68, .inl (y 0, 63, .inl f)), (ad 72, .inl (y 0, 7, .inl powF)), (ad 71, .inl (y 0, 1093, .inl (fun _ => 0))), (ad 70, .inl (y 0, 6558, .inl (fun _ => 0))), (ad 62, .inl (y 0, 63, .inl (dayF 0))), MB mo ad 0 0 0 0 0 0 0 (-1) 0 0 0 0 0 0 0 0 0 0 1 0, (ad 43, .inl (y 0, 8, .inl (fun _ => 0)))]) rfl ?_
                  refine j_st (st' := [.int 0]) rfl ?_
                  refine j_if_neF (pc := 29) C (tgt := 36) d_Model_selfish_29 (by decide) (by decide) ?_
                  refine j_ldcw (pc := 32) C (v := (-1000000000)) (mt_7 (List.mem_of_getElem? (i := 94) rfl) rfl) d_Model_selfish_32 ?_
                  exact j_iret (pc := 35) C hr rfl () (by simp only [Int32.lt_iff_toInt_lt, Int32.le_iff_toInt_le, ← Int32.toInt_inj, (by decide : Int32.toInt 0 = 0), (by decide : Int32.toInt 1 = 1), (by decide : Int32.toInt 2 = 2), (by decide : Int32.toInt 3 = 3), (by decide : Int32.toInt 4 = 4), (by decide : Int32.toInt 5 = 5), (by decide : Int32.toInt 6 = 6), (by decide : Int32.toInt 7 = 7), (by decide : Int32.toInt 8 = 8), (by decide : Int32.toInt 9 = 9)] at e1 e8 e18 e33 e36 e39 e42 ⊢; rw [if_neg (by omega)]) [] rfl (by decide) (by decide) (by decide) d_Model_selfish_35
        · by_cases e47 : n = 5
          · subst e47
            refine j_aload_n (pc := 0) C d_Model_selfish_0 rfl 0 rfl ?_
            refine j_iload_n (pc := 1) C d_Model_selfish_1 rfl 1 rfl ?_
            refine j_callVi (pc := 2) C (c_M_canPlan_5 l D y mo ad) kw_Model_519 kv_Model_canPlan 0 10 rfl rfl ⟨by decide, by decide⟩ ⟨by decide, by decide⟩ (wr := [(ad 43, .inl (y 0, 8, .inl (fun _ => 0))), (ad 45, .inl (y 0, 14, .inl lakeF)), (ad 68, .inl (y 0, 63, .inl f)), (ad 72, .inl (y 0, 7, .inl powF)), (ad 71, .inl (y 0, 1093, .inl (fun _ => 0))), (ad 70, .inl (y 0, 6558, .inl (fun _ => 0)))]) [0, 2] [1, 3, 4, 5, 6, 7] rfl rfl (by decide) (by decide) (by decide) (As := [.int 5]) (rest := []) rfl (nb rfl) rfl d_Model_selfish_2 (fun r48 _ hr48 => ?_)
            subst hr48
            refine j_ws (ws' := [(ad 43, .inl (y 0, 8, .inl (fun _ => 0))), (ad 45, .inl (y 0, 14, .inl lakeF)), (ad 68, .inl (y 0, 63, .inl f)), (ad 72, .inl (y 0, 7, .inl powF)), (ad 71, .inl (y 0, 1093, .inl (fun _ => 0))), (ad 70, .inl (y 0, 6558, .inl (fun _ => 0))), MB mo ad 0 0 0 0 0 0 0 (-1) 0 0 0 0 0 0 0 0 0 0 1 0, (ad 62, .inl (y 0, 63, .inl (dayF 0)))]) rfl ?_
            refine j_st (st' := [.int 1]) rfl ?_
            refine j_if_eqF (pc := 5) C (tgt := 32) d_Model_selfish_5 (by decide) (by decide) ?_
            by_cases e49 : w = 0
            · subst e49
              refine j_iload_n (pc := 8) C d_Model_selfish_8 rfl 2 rfl ?_
              refine j_i2l (pc := 9) C (v := 0) d_Model_selfish_9 (by decide) ?_
              refine j_lconst (pc := 10) C (v := 0) d_Model_selfish_10 (by decide) ?_
              refine j_iload_n (pc := 11) C d_Model_selfish_11 rfl 1 rfl ?_
              refine j_iconst (pc := 12) C (v := 1) d_Model_selfish_12 (by decide) ?_
              refine j_isub (pc := 13) C (v := 4) d_Model_selfish_13 (by decide) ?_
              refine j_i2l (pc := 14) C (v := 4) d_Model_selfish_14 (by decide) ?_
              refine j_callSi (pc := 15) C (c_isIn_c l D y 0 0 4 0 0 4 (by decide) (by decide) (by decide)) kw_Model_240 ks_Model_isIn ⟨by decide, by decide⟩ ⟨by decide, by decide⟩ (wr := [(ad 43, .inl (y 0, 8, .inl (fun _ => 0))), (ad 45, .inl (y 0, 14, .inl lakeF)), (ad 68, .inl (y 0, 63, .inl f)), (ad 72, .inl (y 0, 7, .inl powF)), (ad 71, .inl (y 0, 1093, .inl (fun _ => 0))), (ad 70, .inl (y 0, 6558, .inl (fun _ => 0))), MB mo ad 0 0 0 0 0 0 0 (-1) 0 0 0 0 0 0 0 0 0 0 1 0, (ad 62, .inl (y 0, 63, .inl (dayF 0)))]) [] [0, 1, 2, 3, 4, 5, 6, 7] rfl rfl (by decide) (by decide) (by decide) (As := [.long 0, .long 0, .long 4]) (rest := []) rfl (nb rfl) rfl d_Model_selfish_15 (fun r50 _ hr50 => ?_)
              refine j_ws (ws' := [(ad 43, .inl (y 0, 8, .inl (fun _ => 0))), (ad 45, .inl (y 0, 14, .inl lakeF)), (ad 68, .inl (y 0, 63, .inl f)), (ad 72, .inl (y 0, 7, .inl powF)), (ad 71, .inl (y 0, 1093, .inl (fun _ => 0))), (ad 70, .inl (y 0, 6558, .inl (fun _ => 0))), MB mo ad 0 0 0 0 0 0 0 (-1) 0 0 0 0 0 0 0 0 0 0 1 0, (ad 62, .inl (y 0, 63, .inl (dayF 0)))]) rfl ?_
              rw [if_pos (by decide)] at hr50
              subst hr50
              refine j_if_neT (pc := 18) C (tgt := 36) d_Model_selfish_18 (by decide) (by decide) ?_
              refine j_aload_n (pc := 36) C d_Model_selfish_36 rfl 0 rfl ?_
              refine j_iload_n (pc := 37) C d_Model_selfish_37 rfl 1 rfl ?_
              refine j_iconst (pc := 38) C (v := 0) d_Model_selfish_38 (by decide) ?_
              refine j_st (st' := [.int 0, .int (nI (4 + 1)), .ref mo]) rfl ?_
              refine j_callVv (pc := 39) C (c_M_plans l D y mo ad 4 0 f (by decide)) kw_Model_522 kv_Model_plans 0 10 rfl rfl ⟨by decide, by decide⟩ ⟨by decide, by decide⟩ (wr := []) [6, 0, 7, 1, 2, 3, 4, 5] [] rfl rfl (by decide) (by decide) (by decide) (As := [.int (nI (4 + 1)), .int 0]) (rest := []) rfl (nb rfl) rfl d_Model_selfish_39 (fun _ _ => ?_)
              refine j_ws (ws' := [MB mo ad 0 0 0 0 0 0 0 (-1) 0 0 0 0 0 0 0 0 0 0 1 0, (ad 43, .inl (y 0, 8, .inl (fun _ => 0))), (ad 62, .inl (y 0, 63, .inl (dayF 0))), (ad 45, .inl (y 0, 14, .inl lakeF)), (ad 68, .inl (y 0, 63, .inl (dayF 0))), (ad 72, .inl (y 0, 7, .inl powF)), (ad 71, .inl (y 0, 1093, .inl (fun _ => 0))), (ad 70, .inl (y 0, 6558, .inl (fun _ => 0)))]) rfl ?_
              refine j_iload_n (pc := 42) C d_Model_selfish_42 rfl 2 rfl ?_
              refine j_iload_n (pc := 43) C d_Model_selfish_43 rfl 1 rfl ?_
              refine j_icmp_geF (pc := 44) C (tgt := 55) d_Model_selfish_44 (by decide) (by decide) ?_
              refine j_aload_n (pc := 47) C d_Model_selfish_47 rfl 0 rfl ?_
              refine j_iload_n (pc := 48) C d_Model_selfish_48 rfl 2 rfl ?_
              refine j_callVi (pc := 49) C (c_M_actOf_0 l D y mo ad) kw_Model_525 kv_Model_actOf 0 10 rfl rfl ⟨by decide, by decide⟩ ⟨by decide, by decide⟩ (wr := [(ad 43, .inl (y 0, 8, .inl (fun _ => 0))), (ad 62, .inl (y 0, 63, .inl (dayF 0))), (ad 45, .inl (y 0, 14, .inl lakeF)), (ad 68, .inl (y 0, 63, .inl (dayF 0))), (ad 70, .inl (y 0, 6558, .inl (fun _ => 0)))]) [0, 5, 6] [1, 2, 3, 4, 7] rfl rfl (by decide) (by decide) (by decide) (As := [.int 0]) (rest := []) rfl (nb rfl) rfl d_Model_selfish_49 (fun r51 _ hr51 => ?_)
              subst hr51
              refine j_ws (ws' := [(ad 43, .inl (y 0, 8, .inl (fun _ => 0))), (ad 62, .inl (y 0, 63, .inl (dayF 0))), (ad 45, .inl (y 0, 14, .inl lakeF)), (ad 68, .inl (y 0, 63, .inl (dayF 0))), (ad 70, .inl (y 0, 6558, .inl (fun _ => 0)))]) rfl ?_
              refine j_st (st' := [.int 0]) rfl ?_
              refine j_goto (pc := 52) C (tgt := 64) d_Model_selfish_52 (by decide) ?_
              exact j_iret (pc := 64) C hr rfl () (by decide) [] rfl (by decide) (by decide) (by decide) d_Model_selfish_64
            · by_cases e52 : w = 1
              · subst e52
                refine j_iload_n (pc := 8) C d_Model_selfish_8 rfl 2 rfl ?_
                refine j_i2l (pc := 9) C (v := 1) d_Model_selfish_9 (by decide) ?_
                refine j_lconst (pc := 10) C (v := 0) d_Model_selfish_10 (by decide) ?_
                refine j_iload_n (pc := 11) C d_Model_selfish_11 rfl 1 rfl ?_
                refine j_iconst (pc := 12) C (v := 1) d_Model_selfish_12 (by decide) ?_
                refine j_isub (pc := 13) C (v := 4) d_Model_selfish_13 (by decide) ?_
                refine j_i2l (pc := 14) C (v := 4) d_Model_selfish_14 (by decide) ?_
                refine j_callSi (pc := 15) C (c_isIn_c l D y 1 0 4 1 0 4 (by decide) (by decide) (by decide)) kw_Model_240 ks_Model_isIn ⟨by decide, by decide⟩ ⟨by decide, by decide⟩ (wr := [(ad 43, .inl (y 0, 8, .inl (fun _ => 0))), (ad 45, .inl (y 0, 14, .inl lakeF)), (ad 68, .inl (y 0, 63, .inl f)), (ad 72, .inl (y 0, 7, .inl powF)), (ad 71, .inl (y 0, 1093, .inl (fun _ => 0))), (ad 70, .inl (y 0, 6558, .inl (fun _ => 0))), MB mo ad 0 0 0 0 0 0 0 (-1) 0 0 0 0 0 0 0 0 0 0 1 0, (ad 62, .inl (y 0, 63, .inl (dayF 0)))]) [] [0, 1, 2, 3, 4, 5, 6, 7] rfl rfl (by decide) (by decide) (by decide) (As := [.long 1, .long 0, .long 4]) (rest := []) rfl (nb rfl) rfl d_Model_selfish_15 (fun r53 _ hr53 => ?_)
                refine j_ws (ws' := [(ad 43, .inl (y 0, 8, .inl (fun _ => 0))), (ad 45, .inl (y 0, 14, .inl lakeF)), (ad 68, .inl (y 0, 63, .inl f)), (ad 72, .inl (y 0, 7, .inl powF)), (ad 71, .inl (y 0, 1093, .inl (fun _ => 0))), (ad 70, .inl (y 0, 6558, .inl (fun _ => 0))), MB mo ad 0 0 0 0 0 0 0 (-1) 0 0 0 0 0 0 0 0 0 0 1 0, (ad 62, .inl (y 0, 63, .inl (dayF 0)))]) rfl ?_
                rw [if_pos (by decide)] at hr53
                subst hr53
                refine j_if_neT (pc := 18) C (tgt := 36) d_Model_selfish_18 (by decide) (by decide) ?_
                refine j_aload_n (pc := 36) C d_Model_selfish_36 rfl 0 rfl ?_
                refine j_iload_n (pc := 37) C d_Model_selfish_37 rfl 1 rfl ?_
                refine j_iconst (pc := 38) C (v := 0) d_Model_selfish_38 (by decide) ?_
                refine j_st (st' := [.int 0, .int (nI (4 + 1)), .ref mo]) rfl ?_
                refine j_callVv (pc := 39) C (c_M_plans l D y mo ad 4 0 f (by decide)) kw_Model_522 kv_Model_plans 0 10 rfl rfl ⟨by decide, by decide⟩ ⟨by decide, by decide⟩ (wr := []) [6, 0, 7, 1, 2, 3, 4, 5] [] rfl rfl (by decide) (by decide) (by decide) (As := [.int (nI (4 + 1)), .int 0]) (rest := []) rfl (nb rfl) rfl d_Model_selfish_39 (fun _ _ => ?_)
                refine j_ws (ws' := [MB mo ad 0 0 0 0 0 0 0 (-1) 0 0 0 0 0 0 0 0 0 0 1 0, (ad 43, .inl (y 0, 8, .inl (fun _ => 0))), (ad 62, .inl (y 0, 63, .inl (dayF 0))), (ad 45, .inl (y 0, 14, .inl lakeF)), (ad 68, .inl (y 0, 63, .inl (dayF 0))), (ad 72, .inl (y 0, 7, .inl powF)), (ad 71, .inl (y 0, 1093, .inl (fun _ => 0))), (ad 70, .inl (y 0, 6558, .inl (fun _ => 0)))]) rfl ?_
                refine j_iload_n (pc := 42) C d_Model_selfish_42 rfl 2 rfl ?_
                refine j_iload_n (pc := 43) C d_Model_selfish_43 rfl 1 rfl ?_
                refine j_icmp_geF (pc := 44) C (tgt := 55) d_Model_selfish_44 (by decide) (by decide) ?_
                refine j_aload_n (pc := 47) C d_Model_selfish_47 rfl 0 rfl ?_
                refine j_iload_n (pc := 48) C d_Model_selfish_48 rfl 2 rfl ?_
                refine j_callVi (pc := 49) C (c_M_actOf_1 l D y mo ad) kw_Model_525 kv_Model_actOf 0 10 rfl rfl ⟨by decide, by decide⟩ ⟨by decide, by decide⟩ (wr := [(ad 43, .inl (y 0, 8, .inl (fun _ => 0))), (ad 62, .inl (y 0, 63, .inl (dayF 0))), (ad 45, .inl (y 0, 14, .inl lakeF)), (ad 68, .inl (y 0, 63, .inl (dayF 0))), (ad 70, .inl (y 0, 6558, .inl (fun _ => 0)))]) [0, 5, 6] [1, 2, 3, 4, 7] rfl rfl (by decide) (by decide) (by decide) (As := [.int 1]) (rest := []) rfl (nb rfl) rfl d_Model_selfish_49 (fun r54 _ hr54 => ?_)
                subst hr54
                refine j_ws (ws' := [(ad 43, .inl (y 0, 8, .inl (fun _ => 0))), (ad 62, .inl (y 0, 63, .inl (dayF 0))), (ad 45, .inl (y 0, 14, .inl lakeF)), (ad 68, .inl (y 0, 63, .inl (dayF 0))), (ad 70, .inl (y 0, 6558, .inl (fun _ => 0)))]) rfl ?_
                refine j_st (st' := [.int 0]) rfl ?_
                refine j_goto (pc := 52) C (tgt := 64) d_Model_selfish_52 (by decide) ?_
                exact j_iret (pc := 64) C hr rfl () (by decide) [] rfl (by decide) (by decide) (by decide) d_Model_selfish_64
              · by_cases e55 : w = 2
                · subst e55
                  refine j_iload_n (pc := 8) C d_Model_selfish_8 rfl 2 rfl ?_
                  refine j_i2l (pc := 9) C (v := 2) d_Model_selfish_9 (by decide) ?_
                  refine j_lconst (pc := 10) C (v := 0) d_Model_selfish_10 (by decide) ?_
                  refine j_iload_n (pc := 11) C d_Model_selfish_11 rfl 1 rfl ?_
                  refine j_iconst (pc := 12) C (v := 1) d_Model_selfish_12 (by decide) ?_
                  refine j_isub (pc := 13) C (v := 4) d_Model_selfish_13 (by decide) ?_
                  refine j_i2l (pc := 14) C (v := 4) d_Model_selfish_14 (by decide) ?_
                  refine j_callSi (pc := 15) C (c_isIn_c l D y 2 0 4 2 0 4 (by decide) (by decide) (by decide)) kw_Model_240 ks_Model_isIn ⟨by decide, by decide⟩ ⟨by decide, by decide⟩ (wr := [(ad 43, .inl (y 0, 8, .inl (fun _ => 0))), (ad 45, .inl (y 0, 14, .inl lakeF)), (ad 68, .inl (y 0, 63, .inl f)), (ad 72, .inl (y 0, 7, .inl powF)), (ad 71, .inl (y 0, 1093, .inl (fun _ => 0))), (ad 70, .inl (y 0, 6558, .inl (fun _ => 0))), MB mo ad 0 0 0 0 0 0 0 (-1) 0 0 0 0 0 0 0 0 0 0 1 0, (ad 62, .inl (y 0, 63, .inl (dayF 0)))]) [] [0, 1, 2, 3, 4, 5, 6, 7] rfl rfl (by decide) (by decide) (by decide) (As := [.long 2, .long 0, .long 4]) (rest := []) rfl (nb rfl) rfl d_Model_selfish_15 (fun r56 _ hr56 => ?_)
                  refine j_ws (ws' := [(ad 43, .inl (y 0, 8, .inl (fun _ => 0))), (ad 45, .inl (y 0, 14, .inl lakeF)), (ad 68, .inl (y 0, 63, .inl f)), (ad 72, .inl (y 0, 7, .inl powF)), (ad 71, .inl (y 0, 1093, .inl (fun _ => 0))), (ad 70, .inl (y 0, 6558, .inl (fun _ => 0))), MB mo ad 0 0 0 0 0 0 0 (-1) 0 0 0 0 0 0 0 0 0 0 1 0, (ad 62, .inl (y 0, 63, .inl (dayF 0)))]) rfl ?_
                  rw [if_pos (by decide)] at hr56
                  subst hr56
                  refine j_if_neT (pc := 18) C (tgt := 36) d_Model_selfish_18 (by decide) (by decide) ?_
                  refine j_aload_n (pc := 36) C d_Model_selfish_36 rfl 0 rfl ?_
                  refine j_iload_n (pc := 37) C d_Model_selfish_37 rfl 1 rfl ?_
                  refine j_iconst (pc := 38) C (v := 0) d_Model_selfish_38 (by decide) ?_
                  refine j_st (st' := [.int 0, .int (nI (4 + 1)), .ref mo]) rfl ?_
                  refine j_callVv (pc := 39) C (c_M_plans l D y mo ad 4 0 f (by decide)) kw_Model_522 kv_Model_plans 0 10 rfl rfl ⟨by decide, by decide⟩ ⟨by decide, by decide⟩ (wr := []) [6, 0, 7, 1, 2, 3, 4, 5] [] rfl rfl (by decide) (by decide) (by decide) (As := [.int (nI (4 + 1)), .int 0]) (rest := []) rfl (nb rfl) rfl d_Model_selfish_39 (fun _ _ => ?_)
                  refine j_ws (ws' := [MB mo ad 0 0 0 0 0 0 0 (-1) 0 0 0 0 0 0 0 0 0 0 1 0, (ad 43, .inl (y 0, 8, .inl (fun _ => 0))), (ad 62, .inl (y 0, 63, .inl (dayF 0))), (ad 45, .inl (y 0, 14, .inl lakeF)), (ad 68, .inl (y 0, 63, .inl (dayF 0))), (ad 72, .inl (y 0, 7, .inl powF)), (ad 71, .inl (y 0, 1093, .inl (fun _ => 0))), (ad 70, .inl (y 0, 6558, .inl (fun _ => 0)))]) rfl ?_
                  refine j_iload_n (pc := 42) C d_Model_selfish_42 rfl 2 rfl ?_
                  refine j_iload_n (pc := 43) C d_Model_selfish_43 rfl 1 rfl ?_
                  refine j_icmp_geF (pc := 44) C (tgt := 55) d_Model_selfish_44 (by decide) (by decide) ?_
                  refine j_aload_n (pc := 47) C d_Model_selfish_47 rfl 0 rfl ?_
                  refine j_iload_n (pc := 48) C d_Model_selfish_48 rfl 2 rfl ?_
                  refine j_callVi (pc := 49) C (c_M_actOf_2 l D y mo ad) kw_Model_525 kv_Model_actOf 0 10 rfl rfl ⟨by decide, by decide⟩ ⟨by decide, by decide⟩ (wr := [(ad 43, .inl (y 0, 8, .inl (fun _ => 0))), (ad 62, .inl (y 0, 63, .inl (dayF 0))), (ad 45, .inl (y 0, 14, .inl lakeF)), (ad 68, .inl (y 0, 63, .inl (dayF 0))), (ad 70, .inl (y 0, 6558, .inl (fun _ => 0)))]) [0, 5, 6] [1, 2, 3, 4, 7] rfl rfl (by decide) (by decide) (by decide) (As := [.int 2]) (rest := []) rfl (nb rfl) rfl d_Model_selfish_49 (fun r57 _ hr57 => ?_)
                  subst hr57
                  refine j_ws (ws' := [(ad 43, .inl (y 0, 8, .inl (fun _ => 0))), (ad 62, .inl (y 0, 63, .inl (dayF 0))), (ad 45, .inl (y 0, 14, .inl lakeF)), (ad 68, .inl (y 0, 63, .inl (dayF 0))), (ad 70, .inl (y 0, 6558, .inl (fun _ => 0)))]) rfl ?_
                  refine j_st (st' := [.int 0]) rfl ?_
                  refine j_goto (pc := 52) C (tgt := 64) d_Model_selfish_52 (by decide) ?_
                  exact j_iret (pc := 64) C hr rfl () (by decide) [] rfl (by decide) (by decide) (by decide) d_Model_selfish_64
                · by_cases e58 : w = 3
                  · subst e58
                    refine j_iload_n (pc := 8) C d_Model_selfish_8 rfl 2 rfl ?_
                    refine j_i2l (pc := 9) C (v := 3) d_Model_selfish_9 (by decide) ?_
                    refine j_lconst (pc := 10) C (v := 0) d_Model_selfish_10 (by decide) ?_
                    refine j_iload_n (pc := 11) C d_Model_selfish_11 rfl 1 rfl ?_
                    refine j_iconst (pc := 12) C (v := 1) d_Model_selfish_12 (by decide) ?_
                    refine j_isub (pc := 13) C (v := 4) d_Model_selfish_13 (by decide) ?_
                    refine j_i2l (pc := 14) C (v := 4) d_Model_selfish_14 (by decide) ?_
                    refine j_callSi (pc := 15) C (c_isIn_c l D y 3 0 4 3 0 4 (by decide) (by decide) (by decide)) kw_Model_240 ks_Model_isIn ⟨by decide, by decide⟩ ⟨by decide, by decide⟩ (wr := [(ad 43, .inl (y 0, 8, .inl (fun _ => 0))), (ad 45, .inl (y 0, 14, .inl lakeF)), (ad 68, .inl (y 0, 63, .inl f)), (ad 72, .inl (y 0, 7, .inl powF)), (ad 71, .inl (y 0, 1093, .inl (fun _ => 0))), (ad 70, .inl (y 0, 6558, .inl (fun _ => 0))), MB mo ad 0 0 0 0 0 0 0 (-1) 0 0 0 0 0 0 0 0 0 0 1 0, (ad 62, .inl (y 0, 63, .inl (dayF 0)))]) [] [0, 1, 2, 3, 4, 5, 6, 7] rfl rfl (by decide) (by decide) (by decide) (As := [.long 3, .long 0, .long 4]) (rest := []) rfl (nb rfl) rfl d_Model_selfish_15 (fun r59 _ hr59 => ?_)
                    refine j_ws (ws' := [(ad 43, .inl (y 0, 8, .inl (fun _ => 0))), (ad 45, .inl (y 0, 14, .inl lakeF)), (ad 68, .inl (y 0, 63, .inl f)), (ad 72, .inl (y 0, 7, .inl powF)), (ad 71, .inl (y 0, 1093, .inl (fun _ => 0))), (ad 70, .inl (y 0, 6558, .inl (fun _ => 0))), MB mo ad 0 0 0 0 0 0 0 (-1) 0 0 0 0 0 0 0 0 0 0 1 0, (ad 62, .inl (y 0, 63, .inl (dayF 0)))]) rfl ?_
                    rw [if_pos (by decide)] at hr59
                    subst hr59
                    refine j_if_neT (pc := 18) C (tgt := 36) d_Model_selfish_18 (by decide) (by decide) ?_
                    refine j_aload_n (pc := 36) C d_Model_selfish_36 rfl 0 rfl ?_
                    refine j_iload_n (pc := 37) C d_Model_selfish_37 rfl 1 rfl ?_
                    refine j_iconst (pc := 38) C (v := 0) d_Model_selfish_38 (by decide) ?_
                    refine j_st (st' := [.int 0, .int (nI (4 + 1)), .ref mo]) rfl ?_
                    refine j_callVv (pc := 39) C (c_M_plans l D y mo ad 4 0 f (by decide)) kw_Model_522 kv_Model_plans 0 10 rfl rfl ⟨by decide, by decide⟩ ⟨by decide, by decide⟩ (wr := []) [6, 0, 7, 1, 2, 3, 4, 5] [] rfl rfl (by decide) (by decide) (by decide) (As := [.int (nI (4 + 1)), .int 0]) (rest := []) rfl (nb rfl) rfl d_Model_selfish_39 (fun _ _ => ?_)
                    refine j_ws (ws' := [MB mo ad 0 0 0 0 0 0 0 (-1) 0 0 0 0 0 0 0 0 0 0 1 0, (ad 43, .inl (y 0, 8, .inl (fun _ => 0))), (ad 62, .inl (y 0, 63, .inl (dayF 0))), (ad 45, .inl (y 0, 14, .inl lakeF)), (ad 68, .inl (y 0, 63, .inl (dayF 0))), (ad 72, .inl (y 0, 7, .inl powF)), (ad 71, .inl (y 0, 1093, .inl (fun _ => 0))), (ad 70, .inl (y 0, 6558, .inl (fun _ => 0)))]) rfl ?_
                    refine j_iload_n (pc := 42) C d_Model_selfish_42 rfl 2 rfl ?_
                    refine j_iload_n (pc := 43) C d_Model_selfish_43 rfl 1 rfl ?_
                    refine j_icmp_geF (pc := 44) C (tgt := 55) d_Model_selfish_44 (by decide) (by decide) ?_
                    refine j_aload_n (pc := 47) C d_Model_selfish_47 rfl 0 rfl ?_
                    refine j_iload_n (pc := 48) C d_Model_selfish_48 rfl 2 rfl ?_
                    refine j_callVi (pc := 49) C (c_M_actOf_3 l D y mo ad) kw_Model_525 kv_Model_actOf 0 10 rfl rfl ⟨by decide, by decide⟩ ⟨by decide, by decide⟩ (wr := [(ad 43, .inl (y 0, 8, .inl (fun _ => 0))), (ad 62, .inl (y 0, 63, .inl (dayF 0))), (ad 45, .inl (y 0, 14, .inl lakeF)), (ad 68, .inl (y 0, 63, .inl (dayF 0))), (ad 70, .inl (y 0, 6558, .inl (fun _ => 0)))]) [0, 5, 6] [1, 2, 3, 4, 7] rfl rfl (by decide) (by decide) (by decide) (As := [.int 3]) (rest := []) rfl (nb rfl) rfl d_Model_selfish_49 (fun r60 _ hr60 => ?_)
                    subst hr60
                    refine j_ws (ws' := [(ad 43, .inl (y 0, 8, .inl (fun _ => 0))), (ad 62, .inl (y 0, 63, .inl (dayF 0))), (ad 45, .inl (y 0, 14, .inl lakeF)), (ad 68, .inl (y 0, 63, .inl (dayF 0))), (ad 70, .inl (y 0, 6558, .inl (fun _ => 0)))]) rfl ?_
                    refine j_st (st' := [.int 0]) rfl ?_
                    refine j_goto (pc := 52) C (tgt := 64) d_Model_selfish_52 (by decide) ?_
                    exact j_iret (pc := 64) C hr rfl () (by decide) [] rfl (by decide) (by decide) (by decide) d_Model_selfish_64
                  · by_cases e61 : w = 4
                    · subst e61
                      refine j_iload_n (pc := 8) C d_Model_selfish_8 rfl 2 rfl ?_
                      refine j_i2l (pc := 9) C (v := 4) d_Model_selfish_9 (by decide) ?_
                      refine j_lconst (pc := 10) C (v := 0) d_Model_selfish_10 (by decide) ?_
                      refine j_iload_n (pc := 11) C d_Model_selfish_11 rfl 1 rfl ?_
                      refine j_iconst (pc := 12) C (v := 1) d_Model_selfish_12 (by decide) ?_
                      refine j_isub (pc := 13) C (v := 4) d_Model_selfish_13 (by decide) ?_
                      refine j_i2l (pc := 14) C (v := 4) d_Model_selfish_14 (by decide) ?_
                      refine j_callSi (pc := 15) C (c_isIn_c l D y 4 0 4 4 0 4 (by decide) (by decide) (by decide)) kw_Model_240 ks_Model_isIn ⟨by decide, by decide⟩ ⟨by decide, by decide⟩ (wr := [(ad 43, .inl (y 0, 8, .inl (fun _ => 0))), (ad 45, .inl (y 0, 14, .inl lakeF)), (ad 68, .inl (y 0, 63, .inl f)), (ad 72, .inl (y 0, 7, .inl powF)), (ad 71, .inl (y 0, 1093, .inl (fun _ => 0))), (ad 70, .inl (y 0, 6558, .inl (fun _ => 0))), MB mo ad 0 0 0 0 0 0 0 (-1) 0 0 0 0 0 0 0 0 0 0 1 0, (ad 62, .inl (y 0, 63, .inl (dayF 0)))]) [] [0, 1, 2, 3, 4, 5, 6, 7] rfl rfl (by decide) (by decide) (by decide) (As := [.long 4, .long 0, .long 4]) (rest := []) rfl (nb rfl) rfl d_Model_selfish_15 (fun r62 _ hr62 => ?_)
                      refine j_ws (ws' := [(ad 43, .inl (y 0, 8, .inl (fun _ => 0))), (ad 45, .inl (y 0, 14, .inl lakeF)), (ad 68, .inl (y 0, 63, .inl f)), (ad 72, .inl (y 0, 7, .inl powF)), (ad 71, .inl (y 0, 1093, .inl (fun _ => 0))), (ad 70, .inl (y 0, 6558, .inl (fun _ => 0))), MB mo ad 0 0 0 0 0 0 0 (-1) 0 0 0 0 0 0 0 0 0 0 1 0, (ad 62, .inl (y 0, 63, .inl (dayF 0)))]) rfl ?_
                      rw [if_pos (by decide)] at hr62
                      subst hr62
                      refine j_if_neT (pc := 18) C (tgt := 36) d_Model_selfish_18 (by decide) (by decide) ?_
                      refine j_aload_n (pc := 36) C d_Model_selfish_36 rfl 0 rfl ?_
                      refine j_iload_n (pc := 37) C d_Model_selfish_37 rfl 1 rfl ?_
                      refine j_iconst (pc := 38) C (v := 0) d_Model_selfish_38 (by decide) ?_
                      refine j_st (st' := [.int 0, .int (nI (4 + 1)), .ref mo]) rfl ?_
                      refine j_callVv (pc := 39) C (c_M_plans l D y mo ad 4 0 f (by decide)) kw_Model_522 kv_Model_plans 0 10 rfl rfl ⟨by decide, by decide⟩ ⟨by decide, by decide⟩ (wr := []) [6, 0, 7, 1, 2, 3, 4, 5] [] rfl rfl (by decide) (by decide) (by decide) (As := [.int (nI (4 + 1)), .int 0]) (rest := []) rfl (nb rfl) rfl d_Model_selfish_39 (fun _ _ => ?_)
                      refine j_ws (ws' := [MB mo ad 0 0 0 0 0 0 0 (-1) 0 0 0 0 0 0 0 0 0 0 1 0, (ad 43, .inl (y 0, 8, .inl (fun _ => 0))), (ad 62, .inl (y 0, 63, .inl (dayF 0))), (ad 45, .inl (y 0, 14, .inl lakeF)), (ad 68, .inl (y 0, 63, .inl (dayF 0))), (ad 72, .inl (y 0, 7, .inl powF)), (ad 71, .inl (y 0, 1093, .inl (fun _ => 0))), (ad 70, .inl (y 0, 6558, .inl (fun _ => 0)))]) rfl ?_
                      refine j_iload_n (pc := 42) C d_Model_selfish_42 rfl 2 rfl ?_
                      refine j_iload_n (pc := 43) C d_Model_selfish_43 rfl 1 rfl ?_
                      refine j_icmp_geF (pc := 44) C (tgt := 55) d_Model_selfish_44 (by decide) (by decide) ?_
                      refine j_aload_n (pc := 47) C d_Model_selfish_47 rfl 0 rfl ?_
                      refine j_iload_n (pc := 48) C d_Model_selfish_48 rfl 2 rfl ?_
                      refine j_callVi (pc := 49) C (c_M_actOf_4 l D y mo ad) kw_Model_525 kv_Model_actOf 0 10 rfl rfl ⟨by decide, by decide⟩ ⟨by decide, by decide⟩ (wr := [(ad 43, .inl (y 0, 8, .inl (fun _ => 0))), (ad 62, .inl (y 0, 63, .inl (dayF 0))), (ad 45, .inl (y 0, 14, .inl lakeF)), (ad 68, .inl (y 0, 63, .inl (dayF 0))), (ad 70, .inl (y 0, 6558, .inl (fun _ => 0)))]) [0, 5, 6] [1, 2, 3, 4, 7] rfl rfl (by decide) (by decide) (by decide) (As := [.int 4]) (rest := []) rfl (nb rfl) rfl d_Model_selfish_49 (fun r63 _ hr63 => ?_)
                      subst hr63
                      refine j_ws (ws' := [(ad 43, .inl (y 0, 8, .inl (fun _ => 0))), (ad 62, .inl (y 0, 63, .inl (dayF 0))), (ad 45, .inl (y 0, 14, .inl lakeF)), (ad 68, .inl (y 0, 63, .inl (dayF 0))), (ad 70, .inl (y 0, 6558, .inl (fun _ => 0)))]) rfl ?_
                      refine j_st (st' := [.int 0]) rfl ?_
                      refine j_goto (pc := 52) C (tgt := 64) d_Model_selfish_52 (by decide) ?_
                      exact j_iret (pc := 64) C hr rfl () (by decide) [] rfl (by decide) (by decide) (by decide) d_Model_selfish_64
                    · refine j_iload_n (pc := 8) C d_Model_selfish_8 rfl 2 rfl ?_
                      refine j_i2l (pc := 9) C (v := w.toInt64) d_Model_selfish_9 rfl ?_
                      refine j_lconst (pc := 10) C (v := 0) d_Model_selfish_10 (by decide) ?_
                      refine j_iload_n (pc := 11) C d_Model_selfish_11 rfl 1 rfl ?_
                      refine j_iconst (pc := 12) C (v := 1) d_Model_selfish_12 (by decide) ?_
                      refine j_isub (pc := 13) C (v := 4) d_Model_selfish_13 (by decide) ?_
                      refine j_i2l (pc := 14) C (v := 4) d_Model_selfish_14 (by decide) ?_
                      refine j_callSi (pc := 15) C (c_isIn_x l D y w 0 4 0 4 (by decide) (by decide)) kw_Model_240 ks_Model_isIn ⟨by decide, by decide⟩ ⟨by decide, by decide⟩ (wr := [(ad 43, .inl (y 0, 8, .inl (fun _ => 0))), (ad 45, .inl (y 0, 14, .inl lakeF)), (ad 68, .inl (y 0, 63, .inl f)), (ad 72, .inl (y 0, 7, .inl powF)), (ad 71, .inl (y 0, 1093, .inl (fun _ => 0))), (ad 70, .inl (y 0, 6558, .inl (fun _ => 0))), MB mo ad 0 0 0 0 0 0 0 (-1) 0 0 0 0 0 0 0 0 0 0 1 0, (ad 62, .inl (y 0, 63, .inl (dayF 0)))]) [] [0, 1, 2, 3, 4, 5, 6, 7] rfl rfl (by decide) (by decide) (by decide) (As := [.long w.toInt64, .long 0, .long 4]) (rest := []) rfl (nb rfl) rfl d_Model_selfish_15 (fun r64 _ hr64 => ?_)
                      refine j_ws (ws' := [(ad 43, .inl (y 0, 8, .inl (fun _ => 0))), (ad 45, .inl (y 0, 14, .inl lakeF)), (ad 68, .inl (y 0, 63, .inl f)), (ad 72, .inl (y 0, 7, .inl powF)), (ad 71, .inl (y 0, 1093, .inl (fun _ => 0))), (ad 70, .inl (y 0, 6558, .inl (fun _ => 0))), MB mo ad 0 0 0 0 0 0 0 (-1) 0 0 0 0 0 0 0 0 0 0 1 0, (ad 62, .inl (y 0, 63, .inl (dayF 0)))]) rfl ?_
                      rw [if_neg (by simp only [← Int32.toInt_inj, (by decide : Int32.toInt 0 = 0), (by decide : Int32.toInt 1 = 1), (by decide : Int32.toInt 2 = 2), (by decide : Int32.toInt 3 = 3), (by decide : Int32.toInt 4 = 4), (by decide : Int32.toInt 5 = 5), (by decide : Int32.toInt 6 = 6), (by decide : Int32.toInt 7 = 7), (by decide : Int32.toInt 8 = 8), (by decide : Int32.toInt 9 = 9)] at e49 e52 e55 e58 e61; omega)] at hr64
                      subst hr64
                      refine j_if_neF (pc := 18) C (tgt := 36) d_Model_selfish_18 (by decide) (by decide) ?_
                      refine j_aload_n (pc := 21) C d_Model_selfish_21 rfl 0 rfl ?_
                      refine j_iload_n (pc := 22) C d_Model_selfish_22 rfl 2 rfl ?_
                      refine j_bipush (pc := 23) C (v := 10) d_Model_selfish_23 (by decide) ?_
                      refine j_isub (pc := 25) C (v := w - 10) d_Model_selfish_25 rfl ?_
                      refine j_callVi (pc := 26) C (c_M_isVillage l D y mo ad 0 0 1 (w - 10)) kw_Model_472 kv_Model_isVillage 0 10 rfl rfl ⟨by decide, by decide⟩ ⟨by decide, by decide⟩ (wr := [(ad 45, .inl (y 0, 14, .inl lakeF)), (ad 68, .inl (y 0, 63, .inl f)), (ad 72, .inl (y 0, 7, .inl powF)), (ad 71, .inl (y 0, 1093, .inl (fun _ => 0))), (ad 70, .inl (y 0, 6558, .inl (fun _ => 0))), (ad 62, .inl (y 0, 63, .inl (dayF 0)))]) [6, 0] [1, 2, 3, 4, 5, 7] rfl rfl (by decide) (by decide) (by decide) (As := [.int (w - 10)]) (rest := []) rfl (nb rfl) rfl d_Model_selfish_26 (fun r65 _ hr65 => ?_)
                      subst hr65
                      refine j_ws (ws' := [(ad 45, .inl (y 0, 14, .inl lakeF)), (ad 68, .inl (y 0, 63, .inl f)), (ad 72, .inl (y 0, 7, .inl powF)), (ad 71, .inl (y 0, 1093, .inl (fun _ => 0))), (ad 70, .inl (y 0, 6558, .inl (fun _ => 0))), (ad 62, .inl (y 0, 63, .inl (dayF 0))), MB mo ad 0 0 0 0 0 0 0 (-1) 0 0 0 0 0 0 0 0 0 0 1 0, (ad 43, .inl (y 0, 8, .inl (fun _ => 0)))]) rfl ?_
                      refine j_st (st' := [.int 0]) rfl ?_
                      refine j_if_neF (pc := 29) C (tgt := 36) d_Model_selfish_29 (by decide) (by decide) ?_
                      refine j_ldcw (pc := 32) C (v := (-1000000000)) (mt_7 (List.mem_of_getElem? (i := 94) rfl) rfl) d_Model_selfish_32 ?_
                      exact j_iret (pc := 35) C hr rfl () (by simp only [Int32.lt_iff_toInt_lt, Int32.le_iff_toInt_le, ← Int32.toInt_inj, (by decide : Int32.toInt 0 = 0), (by decide : Int32.toInt 1 = 1), (by decide : Int32.toInt 2 = 2), (by decide : Int32.toInt 3 = 3), (by decide : Int32.toInt 4 = 4), (by decide : Int32.toInt 5 = 5), (by decide : Int32.toInt 6 = 6), (by decide : Int32.toInt 7 = 7), (by decide : Int32.toInt 8 = 8), (by decide : Int32.toInt 9 = 9)] at e1 e8 e18 e31 e49 e52 e55 e58 e61 ⊢; rw [if_neg (by omega)]) [] rfl (by decide) (by decide) (by decide) d_Model_selfish_35
          · by_cases e66 : n = 6
            · subst e66
              refine j_aload_n (pc := 0) C d_Model_selfish_0 rfl 0 rfl ?_
              refine j_iload_n (pc := 1) C d_Model_selfish_1 rfl 1 rfl ?_
              refine j_callVi (pc := 2) C (c_M_canPlan_6 l D y mo ad) kw_Model_519 kv_Model_canPlan 0 10 rfl rfl ⟨by decide, by decide⟩ ⟨by decide, by decide⟩ (wr := [(ad 43, .inl (y 0, 8, .inl (fun _ => 0))), (ad 45, .inl (y 0, 14, .inl lakeF)), (ad 68, .inl (y 0, 63, .inl f)), (ad 72, .inl (y 0, 7, .inl powF)), (ad 71, .inl (y 0, 1093, .inl (fun _ => 0))), (ad 70, .inl (y 0, 6558, .inl (fun _ => 0)))]) [0, 2] [1, 3, 4, 5, 6, 7] rfl rfl (by decide) (by decide) (by decide) (As := [.int 6]) (rest := []) rfl (nb rfl) rfl d_Model_selfish_2 (fun r67 _ hr67 => ?_)
              subst hr67
              refine j_ws (ws' := [(ad 43, .inl (y 0, 8, .inl (fun _ => 0))), (ad 45, .inl (y 0, 14, .inl lakeF)), (ad 68, .inl (y 0, 63, .inl f)), (ad 72, .inl (y 0, 7, .inl powF)), (ad 71, .inl (y 0, 1093, .inl (fun _ => 0))), (ad 70, .inl (y 0, 6558, .inl (fun _ => 0))), MB mo ad 0 0 0 0 0 0 0 (-1) 0 0 0 0 0 0 0 0 0 0 1 0, (ad 62, .inl (y 0, 63, .inl (dayF 0)))]) rfl ?_
              refine j_st (st' := [.int 1]) rfl ?_
              refine j_if_eqF (pc := 5) C (tgt := 32) d_Model_selfish_5 (by decide) (by decide) ?_
              by_cases e68 : w = 0
              · subst e68
                refine j_iload_n (pc := 8) C d_Model_selfish_8 rfl 2 rfl ?_
                refine j_i2l (pc := 9) C (v := 0) d_Model_selfish_9 (by decide) ?_
                refine j_lconst (pc := 10) C (v := 0) d_Model_selfish_10 (by decide) ?_
                refine j_iload_n (pc := 11) C d_Model_selfish_11 rfl 1 rfl ?_
                refine j_iconst (pc := 12) C (v := 1) d_Model_selfish_12 (by decide) ?_
                refine j_isub (pc := 13) C (v := 5) d_Model_selfish_13 (by decide) ?_
                refine j_i2l (pc := 14) C (v := 5) d_Model_selfish_14 (by decide) ?_
                refine j_callSi (pc := 15) C (c_isIn_c l D y 0 0 5 0 0 5 (by decide) (by decide) (by decide)) kw_Model_240 ks_Model_isIn ⟨by decide, by decide⟩ ⟨by decide, by decide⟩ (wr := [(ad 43, .inl (y 0, 8, .inl (fun _ => 0))), (ad 45, .inl (y 0, 14, .inl lakeF)), (ad 68, .inl (y 0, 63, .inl f)), (ad 72, .inl (y 0, 7, .inl powF)), (ad 71, .inl (y 0, 1093, .inl (fun _ => 0))), (ad 70, .inl (y 0, 6558, .inl (fun _ => 0))), MB mo ad 0 0 0 0 0 0 0 (-1) 0 0 0 0 0 0 0 0 0 0 1 0, (ad 62, .inl (y 0, 63, .inl (dayF 0)))]) [] [0, 1, 2, 3, 4, 5, 6, 7] rfl rfl (by decide) (by decide) (by decide) (As := [.long 0, .long 0, .long 5]) (rest := []) rfl (nb rfl) rfl d_Model_selfish_15 (fun r69 _ hr69 => ?_)
                refine j_ws (ws' := [(ad 43, .inl (y 0, 8, .inl (fun _ => 0))), (ad 45, .inl (y 0, 14, .inl lakeF)), (ad 68, .inl (y 0, 63, .inl f)), (ad 72, .inl (y 0, 7, .inl powF)), (ad 71, .inl (y 0, 1093, .inl (fun _ => 0))), (ad 70, .inl (y 0, 6558, .inl (fun _ => 0))), MB mo ad 0 0 0 0 0 0 0 (-1) 0 0 0 0 0 0 0 0 0 0 1 0, (ad 62, .inl (y 0, 63, .inl (dayF 0)))]) rfl ?_
                rw [if_pos (by decide)] at hr69
                subst hr69
                refine j_if_neT (pc := 18) C (tgt := 36) d_Model_selfish_18 (by decide) (by decide) ?_
                refine j_aload_n (pc := 36) C d_Model_selfish_36 rfl 0 rfl ?_
                refine j_iload_n (pc := 37) C d_Model_selfish_37 rfl 1 rfl ?_
                refine j_iconst (pc := 38) C (v := 0) d_Model_selfish_38 (by decide) ?_
                refine j_st (st' := [.int 0, .int (nI (5 + 1)), .ref mo]) rfl ?_
                refine j_callVv (pc := 39) C (c_M_plans l D y mo ad 5 0 f (by decide)) kw_Model_522 kv_Model_plans 0 10 rfl rfl ⟨by decide, by decide⟩ ⟨by decide, by decide⟩ (wr := []) [6, 0, 7, 1, 2, 3, 4, 5] [] rfl rfl (by decide) (by decide) (by decide) (As := [.int (nI (5 + 1)), .int 0]) (rest := []) rfl (nb rfl) rfl d_Model_selfish_39 (fun _ _ => ?_)
                refine j_ws (ws' := [MB mo ad 0 0 0 0 0 0 0 (-1) 0 0 0 0 0 0 0 0 0 0 1 0, (ad 43, .inl (y 0, 8, .inl (fun _ => 0))), (ad 62, .inl (y 0, 63, .inl (dayF 0))), (ad 45, .inl (y 0, 14, .inl lakeF)), (ad 68, .inl (y 0, 63, .inl (dayF 0))), (ad 72, .inl (y 0, 7, .inl powF)), (ad 71, .inl (y 0, 1093, .inl (fun _ => 0))), (ad 70, .inl (y 0, 6558, .inl (fun _ => 0)))]) rfl ?_
                refine j_iload_n (pc := 42) C d_Model_selfish_42 rfl 2 rfl ?_
                refine j_iload_n (pc := 43) C d_Model_selfish_43 rfl 1 rfl ?_
                refine j_icmp_geF (pc := 44) C (tgt := 55) d_Model_selfish_44 (by decide) (by decide) ?_
                refine j_aload_n (pc := 47) C d_Model_selfish_47 rfl 0 rfl ?_
                refine j_iload_n (pc := 48) C d_Model_selfish_48 rfl 2 rfl ?_
                refine j_callVi (pc := 49) C (c_M_actOf_0 l D y mo ad) kw_Model_525 kv_Model_actOf 0 10 rfl rfl ⟨by decide, by decide⟩ ⟨by decide, by decide⟩ (wr := [(ad 43, .inl (y 0, 8, .inl (fun _ => 0))), (ad 62, .inl (y 0, 63, .inl (dayF 0))), (ad 45, .inl (y 0, 14, .inl lakeF)), (ad 68, .inl (y 0, 63, .inl (dayF 0))), (ad 70, .inl (y 0, 6558, .inl (fun _ => 0)))]) [0, 5, 6] [1, 2, 3, 4, 7] rfl rfl (by decide) (by decide) (by decide) (As := [.int 0]) (rest := []) rfl (nb rfl) rfl d_Model_selfish_49 (fun r70 _ hr70 => ?_)
                subst hr70
                refine j_ws (ws' := [(ad 43, .inl (y 0, 8, .inl (fun _ => 0))), (ad 62, .inl (y 0, 63, .inl (dayF 0))), (ad 45, .inl (y 0, 14, .inl lakeF)), (ad 68, .inl (y 0, 63, .inl (dayF 0))), (ad 70, .inl (y 0, 6558, .inl (fun _ => 0)))]) rfl ?_
                refine j_st (st' := [.int 0]) rfl ?_
                refine j_goto (pc := 52) C (tgt := 64) d_Model_selfish_52 (by decide) ?_
                exact j_iret (pc := 64) C hr rfl () (by decide) [] rfl (by decide) (by decide) (by decide) d_Model_selfish_64
              · by_cases e71 : w = 1
                · subst e71
                  refine j_iload_n (pc := 8) C d_Model_selfish_8 rfl 2 rfl ?_
                  refine j_i2l (pc := 9) C (v := 1) d_Model_selfish_9 (by decide) ?_
                  refine j_lconst (pc := 10) C (v := 0) d_Model_selfish_10 (by decide) ?_
                  refine j_iload_n (pc := 11) C d_Model_selfish_11 rfl 1 rfl ?_
                  refine j_iconst (pc := 12) C (v := 1) d_Model_selfish_12 (by decide) ?_
                  refine j_isub (pc := 13) C (v := 5) d_Model_selfish_13 (by decide) ?_
                  refine j_i2l (pc := 14) C (v := 5) d_Model_selfish_14 (by decide) ?_
                  refine j_callSi (pc := 15) C (c_isIn_c l D y 1 0 5 1 0 5 (by decide) (by decide) (by decide)) kw_Model_240 ks_Model_isIn ⟨by decide, by decide⟩ ⟨by decide, by decide⟩ (wr := [(ad 43, .inl (y 0, 8, .inl (fun _ => 0))), (ad 45, .inl (y 0, 14, .inl lakeF)), (ad 68, .inl (y 0, 63, .inl f)), (ad 72, .inl (y 0, 7, .inl powF)), (ad 71, .inl (y 0, 1093, .inl (fun _ => 0))), (ad 70, .inl (y 0, 6558, .inl (fun _ => 0))), MB mo ad 0 0 0 0 0 0 0 (-1) 0 0 0 0 0 0 0 0 0 0 1 0, (ad 62, .inl (y 0, 63, .inl (dayF 0)))]) [] [0, 1, 2, 3, 4, 5, 6, 7] rfl rfl (by decide) (by decide) (by decide) (As := [.long 1, .long 0, .long 5]) (rest := []) rfl (nb rfl) rfl d_Model_selfish_15 (fun r72 _ hr72 => ?_)
                  refine j_ws (ws' := [(ad 43, .inl (y 0, 8, .inl (fun _ => 0))), (ad 45, .inl (y 0, 14, .inl lakeF)), (ad 68, .inl (y 0, 63, .inl f)), (ad 72, .inl (y 0, 7, .inl powF)), (ad 71, .inl (y 0, 1093, .inl (fun _ => 0))), (ad 70, .inl (y 0, 6558, .inl (fun _ => 0))), MB mo ad 0 0 0 0 0 0 0 (-1) 0 0 0 0 0 0 0 0 0 0 1 0, (ad 62, .inl (y 0, 63, .inl (dayF 0)))]) rfl ?_
                  rw [if_pos (by decide)] at hr72
                  subst hr72
                  refine j_if_neT (pc := 18) C (tgt := 36) d_Model_selfish_18 (by decide) (by decide) ?_
                  refine j_aload_n (pc := 36) C d_Model_selfish_36 rfl 0 rfl ?_
                  refine j_iload_n (pc := 37) C d_Model_selfish_37 rfl 1 rfl ?_
                  refine j_iconst (pc := 38) C (v := 0) d_Model_selfish_38 (by decide) ?_
                  refine j_st (st' := [.int 0, .int (nI (5 + 1)), .ref mo]) rfl ?_
                  refine j_callVv (pc := 39) C (c_M_plans l D y mo ad 5 0 f (by decide)) kw_Model_522 kv_Model_plans 0 10 rfl rfl ⟨by decide, by decide⟩ ⟨by decide, by decide⟩ (wr := []) [6, 0, 7, 1, 2, 3, 4, 5] [] rfl rfl (by decide) (by decide) (by decide) (As := [.int (nI (5 + 1)), .int 0]) (rest := []) rfl (nb rfl) rfl d_Model_selfish_39 (fun _ _ => ?_)
                  refine j_ws (ws' := [MB mo ad 0 0 0 0 0 0 0 (-1) 0 0 0 0 0 0 0 0 0 0 1 0, (ad 43, .inl (y 0, 8, .inl (fun _ => 0))), (ad 62, .inl (y 0, 63, .inl (dayF 0))), (ad 45, .inl (y 0, 14, .inl lakeF)), (ad 68, .inl (y 0, 63, .inl (dayF 0))), (ad 72, .inl (y 0, 7, .inl powF)), (ad 71, .inl (y 0, 1093, .inl (fun _ => 0))), (ad 70, .inl (y 0, 6558, .inl (fun _ => 0)))]) rfl ?_
                  refine j_iload_n (pc := 42) C d_Model_selfish_42 rfl 2 rfl ?_
                  refine j_iload_n (pc := 43) C d_Model_selfish_43 rfl 1 rfl ?_
                  refine j_icmp_geF (pc := 44) C (tgt := 55) d_Model_selfish_44 (by decide) (by decide) ?_
                  refine j_aload_n (pc := 47) C d_Model_selfish_47 rfl 0 rfl ?_
                  refine j_iload_n (pc := 48) C d_Model_selfish_48 rfl 2 rfl ?_
                  refine j_callVi (pc := 49) C (c_M_actOf_1 l D y mo ad) kw_Model_525 kv_Model_actOf 0 10 rfl rfl ⟨by decide, by decide⟩ ⟨by decide, by decide⟩ (wr := [(ad 43, .inl (y 0, 8, .inl (fun _ => 0))), (ad 62, .inl (y 0, 63, .inl (dayF 0))), (ad 45, .inl (y 0, 14, .inl lakeF)), (ad 68, .inl (y 0, 63, .inl (dayF 0))), (ad 70, .inl (y 0, 6558, .inl (fun _ => 0)))]) [0, 5, 6] [1, 2, 3, 4, 7] rfl rfl (by decide) (by decide) (by decide) (As := [.int 1]) (rest := []) rfl (nb rfl) rfl d_Model_selfish_49 (fun r73 _ hr73 => ?_)
                  subst hr73
                  refine j_ws (ws' := [(ad 43, .inl (y 0, 8, .inl (fun _ => 0))), (ad 62, .inl (y 0, 63, .inl (dayF 0))), (ad 45, .inl (y 0, 14, .inl lakeF)), (ad 68, .inl (y 0, 63, .inl (dayF 0))), (ad 70, .inl (y 0, 6558, .inl (fun _ => 0)))]) rfl ?_
                  refine j_st (st' := [.int 0]) rfl ?_
                  refine j_goto (pc := 52) C (tgt := 64) d_Model_selfish_52 (by decide) ?_
                  exact j_iret (pc := 64) C hr rfl () (by decide) [] rfl (by decide) (by decide) (by decide) d_Model_selfish_64
                · by_cases e74 : w = 2
                  · subst e74
                    refine j_iload_n (pc := 8) C d_Model_selfish_8 rfl 2 rfl ?_
                    refine j_i2l (pc := 9) C (v := 2) d_Model_selfish_9 (by decide) ?_
                    refine j_lconst (pc := 10) C (v := 0) d_Model_selfish_10 (by decide) ?_
                    refine j_iload_n (pc := 11) C d_Model_selfish_11 rfl 1 rfl ?_
                    refine j_iconst (pc := 12) C (v := 1) d_Model_selfish_12 (by decide) ?_
                    refine j_isub (pc := 13) C (v := 5) d_Model_selfish_13 (by decide) ?_
                    refine j_i2l (pc := 14) C (v := 5) d_Model_selfish_14 (by decide) ?_
                    refine j_callSi (pc := 15) C (c_isIn_c l D y 2 0 5 2 0 5 (by decide) (by decide) (by decide)) kw_Model_240 ks_Model_isIn ⟨by decide, by decide⟩ ⟨by decide, by decide⟩ (wr := [(ad 43, .inl (y 0, 8, .inl (fun _ => 0))), (ad 45, .inl (y 0, 14, .inl lakeF)), (ad 68, .inl (y 0, 63, .inl f)), (ad 72, .inl (y 0, 7, .inl powF)), (ad 71, .inl (y 0, 1093, .inl (fun _ => 0))), (ad 70, .inl (y 0, 6558, .inl (fun _ => 0))), MB mo ad 0 0 0 0 0 0 0 (-1) 0 0 0 0 0 0 0 0 0 0 1 0, (ad 62, .inl (y 0, 63, .inl (dayF 0)))]) [] [0, 1, 2, 3, 4, 5, 6, 7] rfl rfl (by decide) (by decide) (by decide) (As := [.long 2, .long 0, .long 5]) (rest := []) rfl (nb rfl) rfl d_Model_selfish_15 (fun r75 _ hr75 => ?_)
                    refine j_ws (ws' := [(ad 43, .inl (y 0, 8, .inl (fun _ => 0))), (ad 45, .inl (y 0, 14, .inl lakeF)), (ad 68, .inl (y 0, 63, .inl f)), (ad 72, .inl (y 0, 7, .inl powF)), (ad 71, .inl (y 0, 1093, .inl (fun _ => 0))), (ad 70, .inl (y 0, 6558, .inl (fun _ => 0))), MB mo ad 0 0 0 0 0 0 0 (-1) 0 0 0 0 0 0 0 0 0 0 1 0, (ad 62, .inl (y 0, 63, .inl (dayF 0)))]) rfl ?_
                    rw [if_pos (by decide)] at hr75
                    subst hr75
                    refine j_if_neT (pc := 18) C (tgt := 36) d_Model_selfish_18 (by decide) (by decide) ?_
                    refine j_aload_n (pc := 36) C d_Model_selfish_36 rfl 0 rfl ?_
                    refine j_iload_n (pc := 37) C d_Model_selfish_37 rfl 1 rfl ?_
                    refine j_iconst (pc := 38) C (v := 0) d_Model_selfish_38 (by decide) ?_
                    refine j_st (st' := [.int 0, .int (nI (5 + 1)), .ref mo]) rfl ?_
                    refine j_callVv (pc := 39) C (c_M_plans l D y mo ad 5 0 f (by decide)) kw_Model_522 kv_Model_plans 0 10 rfl rfl ⟨by decide, by decide⟩ ⟨by decide, by decide⟩ (wr := []) [6, 0, 7, 1, 2, 3, 4, 5] [] rfl rfl (by decide) (by decide) (by decide) (As := [.int (nI (5 + 1)), .int 0]) (rest := []) rfl (nb rfl) rfl d_Model_selfish_39 (fun _ _ => ?_)
                    refine j_ws (ws' := [MB mo ad 0 0 0 0 0 0 0 (-1) 0 0 0 0 0 0 0 0 0 0 1 0, (ad 43, .inl (y 0, 8, .inl (fun _ => 0))), (ad 62, .inl (y 0, 63, .inl (dayF 0))), (ad 45, .inl (y 0, 14, .inl lakeF)), (ad 68, .inl (y 0, 63, .inl (dayF 0))), (ad 72, .inl (y 0, 7, .inl powF)), (ad 71, .inl (y 0, 1093, .inl (fun _ => 0))), (ad 70, .inl (y 0, 6558, .inl (fun _ => 0)))]) rfl ?_
                    refine j_iload_n (pc := 42) C d_Model_selfish_42 rfl 2 rfl ?_
                    refine j_iload_n (pc := 43) C d_Model_selfish_43 rfl 1 rfl ?_
                    refine j_icmp_geF (pc := 44) C (tgt := 55) d_Model_selfish_44 (by decide) (by decide) ?_
                    refine j_aload_n (pc := 47) C d_Model_selfish_47 rfl 0 rfl ?_
                    refine j_iload_n (pc := 48) C d_Model_selfish_48 rfl 2 rfl ?_
                    refine j_callVi (pc := 49) C (c_M_actOf_2 l D y mo ad) kw_Model_525 kv_Model_actOf 0 10 rfl rfl ⟨by decide, by decide⟩ ⟨by decide, by decide⟩ (wr := [(ad 43, .inl (y 0, 8, .inl (fun _ => 0))), (ad 62, .inl (y 0, 63, .inl (dayF 0))), (ad 45, .inl (y 0, 14, .inl lakeF)), (ad 68, .inl (y 0, 63, .inl (dayF 0))), (ad 70, .inl (y 0, 6558, .inl (fun _ => 0)))]) [0, 5, 6] [1, 2, 3, 4, 7] rfl rfl (by decide) (by decide) (by decide) (As := [.int 2]) (rest := []) rfl (nb rfl) rfl d_Model_selfish_49 (fun r76 _ hr76 => ?_)
                    subst hr76
                    refine j_ws (ws' := [(ad 43, .inl (y 0, 8, .inl (fun _ => 0))), (ad 62, .inl (y 0, 63, .inl (dayF 0))), (ad 45, .inl (y 0, 14, .inl lakeF)), (ad 68, .inl (y 0, 63, .inl (dayF 0))), (ad 70, .inl (y 0, 6558, .inl (fun _ => 0)))]) rfl ?_
                    refine j_st (st' := [.int 0]) rfl ?_
                    refine j_goto (pc := 52) C (tgt := 64) d_Model_selfish_52 (by decide) ?_
                    exact j_iret (pc := 64) C hr rfl () (by decide) [] rfl (by decide) (by decide) (by decide) d_Model_selfish_64
                  · by_cases e77 : w = 3
                    · subst e77
                      refine j_iload_n (pc := 8) C d_Model_selfish_8 rfl 2 rfl ?_
                      refine j_i2l (pc := 9) C (v := 3) d_Model_selfish_9 (by decide) ?_
                      refine j_lconst (pc := 10) C (v := 0) d_Model_selfish_10 (by decide) ?_
                      refine j_iload_n (pc := 11) C d_Model_selfish_11 rfl 1 rfl ?_
                      refine j_iconst (pc := 12) C (v := 1) d_Model_selfish_12 (by decide) ?_
                      refine j_isub (pc := 13) C (v := 5) d_Model_selfish_13 (by decide) ?_
                      refine j_i2l (pc := 14) C (v := 5) d_Model_selfish_14 (by decide) ?_
                      refine j_callSi (pc := 15) C (c_isIn_c l D y 3 0 5 3 0 5 (by decide) (by decide) (by decide)) kw_Model_240 ks_Model_isIn ⟨by decide, by decide⟩ ⟨by decide, by decide⟩ (wr := [(ad 43, .inl (y 0, 8, .inl (fun _ => 0))), (ad 45, .inl (y 0, 14, .inl lakeF)), (ad 68, .inl (y 0, 63, .inl f)), (ad 72, .inl (y 0, 7, .inl powF)), (ad 71, .inl (y 0, 1093, .inl (fun _ => 0))), (ad 70, .inl (y 0, 6558, .inl (fun _ => 0))), MB mo ad 0 0 0 0 0 0 0 (-1) 0 0 0 0 0 0 0 0 0 0 1 0, (ad 62, .inl (y 0, 63, .inl (dayF 0)))]) [] [0, 1, 2, 3, 4, 5, 6, 7] rfl rfl (by decide) (by decide) (by decide) (As := [.long 3, .long 0, .long 5]) (rest := []) rfl (nb rfl) rfl d_Model_selfish_15 (fun r78 _ hr78 => ?_)
                      refine j_ws (ws' := [(ad 43, .inl (y 0, 8, .inl (fun _ => 0))), (ad 45, .inl (y 0, 14, .inl lakeF)), (ad 68, .inl (y 0, 63, .inl f)), (ad 72, .inl (y 0, 7, .inl powF)), (ad 71, .inl (y 0, 1093, .inl (fun _ => 0))), (ad 70, .inl (y 0, 6558, .inl (fun _ => 0))), MB mo ad 0 0 0 0 0 0 0 (-1) 0 0 0 0 0 0 0 0 0 0 1 0, (ad 62, .inl (y 0, 63, .inl (dayF 0)))]) rfl ?_
                      rw [if_pos (by decide)] at hr78
                      subst hr78
                      refine j_if_neT (pc := 18) C (tgt := 36) d_Model_selfish_18 (by decide) (by decide) ?_
                      refine j_aload_n (pc := 36) C d_Model_selfish_36 rfl 0 rfl ?_
                      refine j_iload_n (pc := 37) C d_Model_selfish_37 rfl 1 rfl ?_
                      refine j_iconst (pc := 38) C (v := 0) d_Model_selfish_38 (by decide) ?_
                      refine j_st (st' := [.int 0, .int (nI (5 + 1)), .ref mo]) rfl ?_
                      refine j_callVv (pc := 39) C (c_M_plans l D y mo ad 5 0 f (by decide)) kw_Model_522 kv_Model_plans 0 10 rfl rfl ⟨by decide, by decide⟩ ⟨by decide, by decide⟩ (wr := []) [6, 0, 7, 1, 2, 3, 4, 5] [] rfl rfl (by decide) (by decide) (by decide) (As := [.int (nI (5 + 1)), .int 0]) (rest := []) rfl (nb rfl) rfl d_Model_selfish_39 (fun _ _ => ?_)
                      refine j_ws (ws' := [MB mo ad 0 0 0 0 0 0 0 (-1) 0 0 0 0 0 0 0 0 0 0 1 0, (ad 43, .inl (y 0, 8, .inl (fun _ => 0))), (ad 62, .inl (y 0, 63, .inl (dayF 0))), (ad 45, .inl (y 0, 14, .inl lakeF)), (ad 68, .inl (y 0, 63, .inl (dayF 0))), (ad 72, .inl (y 0, 7, .inl powF)), (ad 71, .inl (y 0, 1093, .inl (fun _ => 0))), (ad 70, .inl (y 0, 6558, .inl (fun _ => 0)))]) rfl ?_
                      refine j_iload_n (pc := 42) C d_Model_selfish_42 rfl 2 rfl ?_
                      refine j_iload_n (pc := 43) C d_Model_selfish_43 rfl 1 rfl ?_
                      refine j_icmp_geF (pc := 44) C (tgt := 55) d_Model_selfish_44 (by decide) (by decide) ?_
                      refine j_aload_n (pc := 47) C d_Model_selfish_47 rfl 0 rfl ?_
                      refine j_iload_n (pc := 48) C d_Model_selfish_48 rfl 2 rfl ?_
                      refine j_callVi (pc := 49) C (c_M_actOf_3 l D y mo ad) kw_Model_525 kv_Model_actOf 0 10 rfl rfl ⟨by decide, by decide⟩ ⟨by decide, by decide⟩ (wr := [(ad 43, .inl (y 0, 8, .inl (fun _ => 0))), (ad 62, .inl (y 0, 63, .inl (dayF 0))), (ad 45, .inl (y 0, 14, .inl lakeF)), (ad 68, .inl (y 0, 63, .inl (dayF 0))), (ad 70, .inl (y 0, 6558, .inl (fun _ => 0)))]) [0, 5, 6] [1, 2, 3, 4, 7] rfl rfl (by decide) (by decide) (by decide) (As := [.int 3]) (rest := []) rfl (nb rfl) rfl d_Model_selfish_49 (fun r79 _ hr79 => ?_)
                      subst hr79
                      refine j_ws (ws' := [(ad 43, .inl (y 0, 8, .inl (fun _ => 0))), (ad 62, .inl (y 0, 63, .inl (dayF 0))), (ad 45, .inl (y 0, 14, .inl lakeF)), (ad 68, .inl (y 0, 63, .inl (dayF 0))), (ad 70, .inl (y 0, 6558, .inl (fun _ => 0)))]) rfl ?_
                      refine j_st (st' := [.int 0]) rfl ?_
                      refine j_goto (pc := 52) C (tgt := 64) d_Model_selfish_52 (by decide) ?_
                      exact j_iret (pc := 64) C hr rfl () (by decide) [] rfl (by decide) (by decide) (by decide) d_Model_selfish_64
                    · by_cases e80 : w = 4
                      · subst e80
                        refine j_iload_n (pc := 8) C d_Model_selfish_8 rfl 2 rfl ?_
                        refine j_i2l (pc := 9) C (v := 4) d_Model_selfish_9 (by decide) ?_
                        refine j_lconst (pc := 10) C (v := 0) d_Model_selfish_10 (by decide) ?_
                        refine j_iload_n (pc := 11) C d_Model_selfish_11 rfl 1 rfl ?_
                        refine j_iconst (pc := 12) C (v := 1) d_Model_selfish_12 (by decide) ?_
                        refine j_isub (pc := 13) C (v := 5) d_Model_selfish_13 (by decide) ?_
                        refine j_i2l (pc := 14) C (v := 5) d_Model_selfish_14 (by decide) ?_
                        refine j_callSi (pc := 15) C (c_isIn_c l D y 4 0 5 4 0 5 (by decide) (by decide) (by decide)) kw_Model_240 ks_Model_isIn ⟨by decide, by decide⟩ ⟨by decide, by decide⟩ (wr := [(ad 43, .inl (y 0, 8, .inl (fun _ => 0))), (ad 45, .inl (y 0, 14, .inl lakeF)), (ad 68, .inl (y 0, 63, .inl f)), (ad 72, .inl (y 0, 7, .inl powF)), (ad 71, .inl (y 0, 1093, .inl (fun _ => 0))), (ad 70, .inl (y 0, 6558, .inl (fun _ => 0))), MB mo ad 0 0 0 0 0 0 0 (-1) 0 0 0 0 0 0 0 0 0 0 1 0, (ad 62, .inl (y 0, 63, .inl (dayF 0)))]) [] [0, 1, 2, 3, 4, 5, 6, 7] rfl rfl (by decide) (by decide) (by decide) (As := [.long 4, .long 0, .long 5]) (rest := []) rfl (nb rfl) rfl d_Model_selfish_15 (fun r81 _ hr81 => ?_)
                        refine j_ws (ws' := [(ad 43, .inl (y 0, 8, .inl (fun _ => 0))), (ad 45, .inl (y 0, 14, .inl lakeF)), (ad 68, .inl (y 0, 63, .inl f)), (ad 72, .inl (y 0, 7, .inl powF)), (ad 71, .inl (y 0, 1093, .inl (fun _ => 0))), (ad 70, .inl (y 0, 6558, .inl (fun _ => 0))), MB mo ad 0 0 0 0 0 0 0 (-1) 0 0 0 0 0 0 0 0 0 0 1 0, (ad 62, .inl (y 0, 63, .inl (dayF 0)))]) rfl ?_
                        rw [if_pos (by decide)] at hr81
                        subst hr81
                        refine j_if_neT (pc := 18) C (tgt := 36) d_Model_selfish_18 (by decide) (by decide) ?_
                        refine j_aload_n (pc := 36) C d_Model_selfish_36 rfl 0 rfl ?_
                        refine j_iload_n (pc := 37) C d_Model_selfish_37 rfl 1 rfl ?_
                        refine j_iconst (pc := 38) C (v := 0) d_Model_selfish_38 (by decide) ?_
                        refine j_st (st' := [.int 0, .int (nI (5 + 1)), .ref mo]) rfl ?_
                        refine j_callVv (pc := 39) C (c_M_plans l D y mo ad 5 0 f (by decide)) kw_Model_522 kv_Model_plans 0 10 rfl rfl ⟨by decide, by decide⟩ ⟨by decide, by decide⟩ (wr := []) [6, 0, 7, 1, 2, 3, 4, 5] [] rfl rfl (by decide) (by decide) (by decide) (As := [.int (nI (5 + 1)), .int 0]) (rest := []) rfl (nb rfl) rfl d_Model_selfish_39 (fun _ _ => ?_)
                        refine j_ws (ws' := [MB mo ad 0 0 0 0 0 0 0 (-1) 0 0 0 0 0 0 0 0 0 0 1 0, (ad 43, .inl (y 0, 8, .inl (fun _ => 0))), (ad 62, .inl (y 0, 63, .inl (dayF 0))), (ad 45, .inl (y 0, 14, .inl lakeF)), (ad 68, .inl (y 0, 63, .inl (dayF 0))), (ad 72, .inl (y 0, 7, .inl powF)), (ad 71, .inl (y 0, 1093, .inl (fun _ => 0))), (ad 70, .inl (y 0, 6558, .inl (fun _ => 0)))]) rfl ?_
                        refine j_iload_n (pc := 42) C d_Model_selfish_42 rfl 2 rfl ?_
                        refine j_iload_n (pc := 43) C d_Model_selfish_43 rfl 1 rfl ?_
                        refine j_icmp_geF (pc := 44) C (tgt := 55) d_Model_selfish_44 (by decide) (by decide) ?_
                        refine j_aload_n (pc := 47) C d_Model_selfish_47 rfl 0 rfl ?_
                        refine j_iload_n (pc := 48) C d_Model_selfish_48 rfl 2 rfl ?_
                        refine j_callVi (pc := 49) C (c_M_actOf_4 l D y mo ad) kw_Model_525 kv_Model_actOf 0 10 rfl rfl ⟨by decide, by decide⟩ ⟨by decide, by decide⟩ (wr := [(ad 43, .inl (y 0, 8, .inl (fun _ => 0))), (ad 62, .inl (y 0, 63, .inl (dayF 0))), (ad 45, .inl (y 0, 14, .inl lakeF)), (ad 68, .inl (y 0, 63, .inl (dayF 0))), (ad 70, .inl (y 0, 6558, .inl (fun _ => 0)))]) [0, 5, 6] [1, 2, 3, 4, 7] rfl rfl (by decide) (by decide) (by decide) (As := [.int 4]) (rest := []) rfl (nb rfl) rfl d_Model_selfish_49 (fun r82 _ hr82 => ?_)
                        subst hr82
                        refine j_ws (ws' := [(ad 43, .inl (y 0, 8, .inl (fun _ => 0))), (ad 62, .inl (y 0, 63, .inl (dayF 0))), (ad 45, .inl (y 0, 14, .inl lakeF)), (ad 68, .inl (y 0, 63, .inl (dayF 0))), (ad 70, .inl (y 0, 6558, .inl (fun _ => 0)))]) rfl ?_
                        refine j_st (st' := [.int 0]) rfl ?_
                        refine j_goto (pc := 52) C (tgt := 64) d_Model_selfish_52 (by decide) ?_
                        exact j_iret (pc := 64) C hr rfl () (by decide) [] rfl (by decide) (by decide) (by decide) d_Model_selfish_64
                      · by_cases e83 : w = 5
                        · subst e83
                          refine j_iload_n (pc := 8) C d_Model_selfish_8 rfl 2 rfl ?_
                          refine j_i2l (pc := 9) C (v := 5) d_Model_selfish_9 (by decide) ?_
                          refine j_lconst (pc := 10) C (v := 0) d_Model_selfish_10 (by decide) ?_
                          refine j_iload_n (pc := 11) C d_Model_selfish_11 rfl 1 rfl ?_
                          refine j_iconst (pc := 12) C (v := 1) d_Model_selfish_12 (by decide) ?_
                          refine j_isub (pc := 13) C (v := 5) d_Model_selfish_13 (by decide) ?_
                          refine j_i2l (pc := 14) C (v := 5) d_Model_selfish_14 (by decide) ?_
                          refine j_callSi (pc := 15) C (c_isIn_c l D y 5 0 5 5 0 5 (by decide) (by decide) (by decide)) kw_Model_240 ks_Model_isIn ⟨by decide, by decide⟩ ⟨by decide, by decide⟩ (wr := [(ad 43, .inl (y 0, 8, .inl (fun _ => 0))), (ad 45, .inl (y 0, 14, .inl lakeF)), (ad 68, .inl (y 0, 63, .inl f)), (ad 72, .inl (y 0, 7, .inl powF)), (ad 71, .inl (y 0, 1093, .inl (fun _ => 0))), (ad 70, .inl (y 0, 6558, .inl (fun _ => 0))), MB mo ad 0 0 0 0 0 0 0 (-1) 0 0 0 0 0 0 0 0 0 0 1 0, (ad 62, .inl (y 0, 63, .inl (dayF 0)))]) [] [0, 1, 2, 3, 4, 5, 6, 7] rfl rfl (by decide) (by decide) (by decide) (As := [.long 5, .long 0, .long 5]) (rest := []) rfl (nb rfl) rfl d_Model_selfish_15 (fun r84 _ hr84 => ?_)
                          refine j_ws (ws' := [(ad 43, .inl (y 0, 8, .inl (fun _ => 0))), (ad 45, .inl (y 0, 14, .inl lakeF)), (ad 68, .inl (y 0, 63, .inl f)), (ad 72, .inl (y 0, 7, .inl powF)), (ad 71, .inl (y 0, 1093, .inl (fun _ => 0))), (ad 70, .inl (y 0, 6558, .inl (fun _ => 0))), MB mo ad 0 0 0 0 0 0 0 (-1) 0 0 0 0 0 0 0 0 0 0 1 0, (ad 62, .inl (y 0, 63, .inl (dayF 0)))]) rfl ?_
                          rw [if_pos (by decide)] at hr84
                          subst hr84
                          refine j_if_neT (pc := 18) C (tgt := 36) d_Model_selfish_18 (by decide) (by decide) ?_
                          refine j_aload_n (pc := 36) C d_Model_selfish_36 rfl 0 rfl ?_
                          refine j_iload_n (pc := 37) C d_Model_selfish_37 rfl 1 rfl ?_
                          refine j_iconst (pc := 38) C (v := 0) d_Model_selfish_38 (by decide) ?_
                          refine j_st (st' := [.int 0, .int (nI (5 + 1)), .ref mo]) rfl ?_
                          refine j_callVv (pc := 39) C (c_M_plans l D y mo ad 5 0 f (by decide)) kw_Model_522 kv_Model_plans 0 10 rfl rfl ⟨by decide, by decide⟩ ⟨by decide, by decide⟩ (wr := []) [6, 0, 7, 1, 2, 3, 4, 5] [] rfl rfl (by decide) (by decide) (by decide) (As := [.int (nI (5 + 1)), .int 0]) (rest := []) rfl (nb rfl) rfl d_Model_selfish_39 (fun _ _ => ?_)
                          refine j_ws (ws' := [MB mo ad 0 0 0 0 0 0 0 (-1) 0 0 0 0 0 0 0 0 0 0 1 0, (ad 43, .inl (y 0, 8, .inl (fun _ => 0))), (ad 62, .inl (y 0, 63, .inl (dayF 0))), (ad 45, .inl (y 0, 14, .inl lakeF)), (ad 68, .inl (y 0, 63, .inl (dayF 0))), (ad 72, .inl (y 0, 7, .inl powF)), (ad 71, .inl (y 0, 1093, .inl (fun _ => 0))), (ad 70, .inl (y 0, 6558, .inl (fun _ => 0)))]) rfl ?_
                          refine j_iload_n (pc := 42) C d_Model_selfish_42 rfl 2 rfl ?_
                          refine j_iload_n (pc := 43) C d_Model_selfish_43 rfl 1 rfl ?_
                          refine j_icmp_geF (pc := 44) C (tgt := 55) d_Model_selfish_44 (by decide) (by decide) ?_
                          refine j_aload_n (pc := 47) C d_Model_selfish_47 rfl 0 rfl ?_
                          refine j_iload_n (pc := 48) C d_Model_selfish_48 rfl 2 rfl ?_
                          refine j_callVi (pc := 49) C (c_M_actOf_5 l D y mo ad) kw_Model_525 kv_Model_actOf 0 10 rfl rfl ⟨by decide, by decide⟩ ⟨by decide, by decide⟩ (wr := [(ad 43, .inl (y 0, 8, .inl (fun _ => 0))), (ad 62, .inl (y 0, 63, .inl (dayF 0))), (ad 45, .inl (y 0, 14, .inl lakeF)), (ad 68, .inl (y 0, 63, .inl (dayF 0))), (ad 70, .inl (y 0, 6558, .inl (fun _ => 0)))]) [0, 5, 6] [1, 2, 3, 4, 7] rfl rfl (by decide) (by decide) (by decide) (As := [.int 5]) (rest := []) rfl (nb rfl) rfl d_Model_selfish_49 (fun r85 _ hr85 => ?_)
                          subst hr85
                          refine j_ws (ws' := [(ad 43, .inl (y 0, 8, .inl (fun _ => 0))), (ad 62, .inl (y 0, 63, .inl (dayF 0))), (ad 45, .inl (y 0, 14, .inl lakeF)), (ad 68, .inl (y 0, 63, .inl (dayF 0))), (ad 70, .inl (y 0, 6558, .inl (fun _ => 0)))]) rfl ?_
                          refine j_st (st' := [.int 0]) rfl ?_
                          refine j_goto (pc := 52) C (tgt := 64) d_Model_selfish_52 (by decide) ?_
                          exact j_iret (pc := 64) C hr rfl () (by decide) [] rfl (by decide) (by decide) (by decide) d_Model_selfish_64
                        · refine j_iload_n (pc := 8) C d_Model_selfish_8 rfl 2 rfl ?_
                          refine j_i2l (pc := 9) C (v := w.toInt64) d_Model_selfish_9 rfl ?_
                          refine j_lconst (pc := 10) C (v := 0) d_Model_selfish_10 (by decide) ?_
                          refine j_iload_n (pc := 11) C d_Model_selfish_11 rfl 1 rfl ?_
                          refine j_iconst (pc := 12) C (v := 1) d_Model_selfish_12 (by decide) ?_
                          refine j_isub (pc := 13) C (v := 5) d_Model_selfish_13 (by decide) ?_
                          refine j_i2l (pc := 14) C (v := 5) d_Model_selfish_14 (by decide) ?_
                          refine j_callSi (pc := 15) C (c_isIn_x l D y w 0 5 0 5 (by decide) (by decide)) kw_Model_240 ks_Model_isIn ⟨by decide, by decide⟩ ⟨by decide, by decide⟩ (wr := [(ad 43, .inl (y 0, 8, .inl (fun _ => 0))), (ad 45, .inl (y 0, 14, .inl lakeF)), (ad 68, .inl (y 0, 63, .inl f)), (ad 72, .inl (y 0, 7, .inl powF)), (ad 71, .inl (y 0, 1093, .inl (fun _ => 0))), (ad 70, .inl (y 0, 6558, .inl (fun _ => 0))), MB mo ad 0 0 0 0 0 0 0 (-1) 0 0 0 0 0 0 0 0 0 0 1 0, (ad 62, .inl (y 0, 63, .inl (dayF 0)))]) [] [0, 1, 2, 3, 4, 5, 6, 7] rfl rfl (by decide) (by decide) (by decide) (As := [.long w.toInt64, .long 0, .long 5]) (rest := []) rfl (nb rfl) rfl d_Model_selfish_15 (fun r86 _ hr86 => ?_)
                          refine j_ws (ws' := [(ad 43, .inl (y 0, 8, .inl (fun _ => 0))), (ad 45, .inl (y 0, 14, .inl lakeF)), (ad 68, .inl (y 0, 63, .inl f)), (ad 72, .inl (y 0, 7, .inl powF)), (ad 71, .inl (y 0, 1093, .inl (fun _ => 0))), (ad 70, .inl (y 0, 6558, .inl (fun _ => 0))), MB mo ad 0 0 0 0 0 0 0 (-1) 0 0 0 0 0 0 0 0 0 0 1 0, (ad 62, .inl (y 0, 63, .inl (dayF 0)))]) rfl ?_
                          rw [if_neg (by simp only [← Int32.toInt_inj, (by decide : Int32.toInt 0 = 0), (by decide : Int32.toInt 1 = 1), (by decide : Int32.toInt 2 = 2), (by decide : Int32.toInt 3 = 3), (by decide : Int32.toInt 4 = 4), (by decide : Int32.toInt 5 = 5), (by decide : Int32.toInt 6 = 6), (by decide : Int32.toInt 7 = 7), (by decide : Int32.toInt 8 = 8), (by decide : Int32.toInt 9 = 9)] at e68 e71 e74 e77 e80 e83; omega)] at hr86
                          subst hr86
                          refine j_if_neF (pc := 18) C (tgt := 36) d_Model_selfish_18 (by decide) (by decide) ?_
                          refine j_aload_n (pc := 21) C d_Model_selfish_21 rfl 0 rfl ?_
                          refine j_iload_n (pc := 22) C d_Model_selfish_22 rfl 2 rfl ?_
                          refine j_bipush (pc := 23) C (v := 10) d_Model_selfish_23 (by decide) ?_
                          refine j_isub (pc := 25) C (v := w - 10) d_Model_selfish_25 rfl ?_
                          refine j_callVi (pc := 26) C (c_M_isVillage l D y mo ad 0 0 1 (w - 10)) kw_Model_472 kv_Model_isVillage 0 10 rfl rfl ⟨by decide, by decide⟩ ⟨by decide, by decide⟩ (wr := [(ad 45, .inl (y 0, 14, .inl lakeF)), (ad 68, .inl (y 0, 63, .inl f)), (ad 72, .inl (y 0, 7, .inl powF)), (ad 71, .inl (y 0, 1093, .inl (fun _ => 0))), (ad 70, .inl (y 0, 6558, .inl (fun _ => 0))), (ad 62, .inl (y 0, 63, .inl (dayF 0)))]) [6, 0] [1, 2, 3, 4, 5, 7] rfl rfl (by decide) (by decide) (by decide) (As := [.int (w - 10)]) (rest := []) rfl (nb rfl) rfl d_Model_selfish_26 (fun r87 _ hr87 => ?_)
                          subst hr87
                          refine j_ws (ws' := [(ad 45, .inl (y 0, 14, .inl lakeF)), (ad 68, .inl (y 0, 63, .inl f)), (ad 72, .inl (y 0, 7, .inl powF)), (ad 71, .inl (y 0, 1093, .inl (fun _ => 0))), (ad 70, .inl (y 0, 6558, .inl (fun _ => 0))), (ad 62, .inl (y 0, 63, .inl (dayF 0))), MB mo ad 0 0 0 0 0 0 0 (-1) 0 0 0 0 0 0 0 0 0 0 1 0, (ad 43, .inl (y 0, 8, .inl (fun _ => 0)))]) rfl ?_
                          refine j_st (st' := [.int 0]) rfl ?_
                          refine j_if_neF (pc := 29) C (tgt := 36) d_Model_selfish_29 (by decide) (by decide) ?_
                          refine j_ldcw (pc := 32) C (v := (-1000000000)) (mt_7 (List.mem_of_getElem? (i := 94) rfl) rfl) d_Model_selfish_32 ?_
                          exact j_iret (pc := 35) C hr rfl () (by simp only [Int32.lt_iff_toInt_lt, Int32.le_iff_toInt_le, ← Int32.toInt_inj, (by decide : Int32.toInt 0 = 0), (by decide : Int32.toInt 1 = 1), (by decide : Int32.toInt 2 = 2), (by decide : Int32.toInt 3 = 3), (by decide : Int32.toInt 4 = 4), (by decide : Int32.toInt 5 = 5), (by decide : Int32.toInt 6 = 6), (by decide : Int32.toInt 7 = 7), (by decide : Int32.toInt 8 = 8), (by decide : Int32.toInt 9 = 9)] at e1 e8 e18 e31 e47 e68 e71 e74 e77 e80 e83 ⊢; rw [if_neg (by omega)]) [] rfl (by decide) (by decide) (by decide) d_Model_selfish_35
            · refine j_aload_n (pc := 0) C d_Model_selfish_0 rfl 0 rfl ?_
              refine j_iload_n (pc := 1) C d_Model_selfish_1 rfl 1 rfl ?_
              refine j_callVi (pc := 2) C (c_M_canPlan_F l D y mo ad n (by simp only [← Int32.toInt_inj, (by decide : Int32.toInt 0 = 0), (by decide : Int32.toInt 1 = 1), (by decide : Int32.toInt 2 = 2), (by decide : Int32.toInt 3 = 3), (by decide : Int32.toInt 4 = 4), (by decide : Int32.toInt 5 = 5), (by decide : Int32.toInt 6 = 6), (by decide : Int32.toInt 7 = 7), (by decide : Int32.toInt 8 = 8), (by decide : Int32.toInt 9 = 9)] at e1 e8 e18 e31 e47 e66; omega)) kw_Model_519 kv_Model_canPlan 0 10 rfl rfl ⟨by decide, by decide⟩ ⟨by decide, by decide⟩ (wr := [(ad 43, .inl (y 0, 8, .inl (fun _ => 0))), (ad 45, .inl (y 0, 14, .inl lakeF)), (ad 68, .inl (y 0, 63, .inl f)), (ad 72, .inl (y 0, 7, .inl powF)), (ad 71, .inl (y 0, 1093, .inl (fun _ => 0))), (ad 70, .inl (y 0, 6558, .inl (fun _ => 0)))]) [0, 2] [1, 3, 4, 5, 6, 7] rfl rfl (by decide) (by decide) (by decide) (As := [.int n]) (rest := []) rfl (nb rfl) rfl d_Model_selfish_2 (fun r88 _ hr88 => ?_)
              subst hr88
              refine j_ws (ws' := [(ad 43, .inl (y 0, 8, .inl (fun _ => 0))), (ad 45, .inl (y 0, 14, .inl lakeF)), (ad 68, .inl (y 0, 63, .inl f)), (ad 72, .inl (y 0, 7, .inl powF)), (ad 71, .inl (y 0, 1093, .inl (fun _ => 0))), (ad 70, .inl (y 0, 6558, .inl (fun _ => 0))), MB mo ad 0 0 0 0 0 0 0 (-1) 0 0 0 0 0 0 0 0 0 0 1 0, (ad 62, .inl (y 0, 63, .inl (dayF 0)))]) rfl ?_
              refine j_st (st' := [.int 0]) rfl ?_
              refine j_if_eqT (pc := 5) C (tgt := 32) d_Model_selfish_5 (by decide) (by decide) ?_
              refine j_ldcw (pc := 32) C (v := (-1000000000)) (mt_7 (List.mem_of_getElem? (i := 94) rfl) rfl) d_Model_selfish_32 ?_
              exact j_iret (pc := 35) C hr rfl () (by simp only [Int32.lt_iff_toInt_lt, Int32.le_iff_toInt_le, ← Int32.toInt_inj, (by decide : Int32.toInt 0 = 0), (by decide : Int32.toInt 1 = 1), (by decide : Int32.toInt 2 = 2), (by decide : Int32.toInt 3 = 3), (by decide : Int32.toInt 4 = 4), (by decide : Int32.toInt 5 = 5), (by decide : Int32.toInt 6 = 6), (by decide : Int32.toInt 7 = 7), (by decide : Int32.toInt 8 = 8), (by decide : Int32.toInt 9 = 9)] at e1 e8 e18 e31 e47 e66; rw [if_neg (by omega)]) [] rfl (by decide) (by decide) (by decide) d_Model_selfish_35
theorem d_Model_common_0 : decode prog_13_method_95_code 0 = .ok (.aload_n 0, 1) := by decide +kernel
theorem d_Model_common_1 : decode prog_13_method_95_code 1 = .ok (.iload_n 1, 1) := by decide +kernel
theorem d_Model_common_2 : decode prog_13_method_95_code 2 = .ok (.invokevirtual 519, 3) := by decide +kernel
theorem d_Model_common_5 : decode prog_13_method_95_code 5 = .ok (.ifCond .eq 33, 3) := by decide +kernel
theorem d_Model_common_8 : decode prog_13_method_95_code 8 = .ok (.iload_n 2, 1) := by decide +kernel
theorem d_Model_common_9 : decode prog_13_method_95_code 9 = .ok (.i2l, 1) := by decide +kernel
theorem d_Model_common_10 : decode prog_13_method_95_code 10 = .ok (.lconst 0, 1) := by decide +kernel
theorem d_Model_common_11 : decode prog_13_method_95_code 11 = .ok (.iload_n 1, 1) := by decide +kernel
theorem d_Model_common_12 : decode prog_13_method_95_code 12 = .ok (.iconst 1, 1) := by decide +kernel
theorem d_Model_common_13 : decode prog_13_method_95_code 13 = .ok (.isub, 1) := by decide +kernel
theorem d_Model_common_14 : decode prog_13_method_95_code 14 = .ok (.i2l, 1) := by decide +kernel
theorem d_Model_common_15 : decode prog_13_method_95_code 15 = .ok (.invokestatic 240, 3) := by decide +kernel
theorem d_Model_common_18 : decode prog_13_method_95_code 18 = .ok (.ifCond .ne 24, 3) := by decide +kernel
theorem d_Model_common_42 : decode prog_13_method_95_code 42 = .ok (.aload_n 0, 1) := by decide +kernel
theorem d_Model_common_43 : decode prog_13_method_95_code 43 = .ok (.iload_n 1, 1) := by decide +kernel
theorem d_Model_common_44 : decode prog_13_method_95_code 44 = .ok (.iconst 1, 1) := by decide +kernel
theorem d_Model_common_45 : decode prog_13_method_95_code 45 = .ok (.invokevirtual 522, 3) := by decide +kernel
theorem d_Model_common_48 : decode prog_13_method_95_code 48 = .ok (.iload_n 2, 1) := by decide +kernel
theorem d_Model_common_49 : decode prog_13_method_95_code 49 = .ok (.iload_n 1, 1) := by decide +kernel
theorem d_Model_common_50 : decode prog_13_method_95_code 50 = .ok (.if_icmp .ge 11, 3) := by decide +kernel
theorem d_Model_common_53 : decode prog_13_method_95_code 53 = .ok (.aload_n 0, 1) := by decide +kernel
theorem d_Model_common_54 : decode prog_13_method_95_code 54 = .ok (.iload_n 2, 1) := by decide +kernel
theorem d_Model_common_55 : decode prog_13_method_95_code 55 = .ok (.invokevirtual 525, 3) := by decide +kernel
theorem d_Model_common_58 : decode prog_13_method_95_code 58 = .ok (.goto 25, 3) := by decide +kernel
theorem d_Model_common_83 : decode prog_13_method_95_code 83 = .ok (.ireturn, 1) := by decide +kernel
theorem d_Model_common_21 : decode prog_13_method_95_code 21 = .ok (.iload_n 2, 1) := by decide +kernel
theorem d_Model_common_22 : decode prog_13_method_95_code 22 = .ok (.bipush 9, 2) := by decide +kernel
theorem d_Model_common_24 : decode prog_13_method_95_code 24 = .ok (.if_icmp .eq 18, 3) := by decide +kernel
theorem d_Model_common_61 : decode prog_13_method_95_code 61 = .ok (.iload_n 2, 1) := by decide +kernel
theorem d_Model_common_62 : decode prog_13_method_95_code 62 = .ok (.bipush 9, 2) := by decide +kernel
theorem d_Model_common_64 : decode prog_13_method_95_code 64 = .ok (.if_icmp .ne 10, 3) := by decide +kernel
theorem d_Model_common_67 : decode prog_13_method_95_code 67 = .ok (.aload_n 0, 1) := by decide +kernel
theorem d_Model_common_68 : decode prog_13_method_95_code 68 = .ok (.invokevirtual 528, 3) := by decide +kernel
theorem kw_Model_528 : KW "NineBoardsModel" 528 ⟨"NineBoardsModel", "sumOfGets", "()I"⟩ prog_13_method_94_code 3 (some .int) 0 := ⟨(mt_7 (List.mem_of_getElem? (i := 230) rfl) rfl), (mt_1 (List.mem_of_getElem? (i := 16) rfl) rfl), (mt_7 (List.mem_of_getElem? (i := 233) rfl) rfl), by decide +kernel⟩
theorem kv_Model_sumOfGets : Cond.instanceMethod ⟨"NineBoardsModel", "sumOfGets", "()I"⟩ ∈ TB ∧ Cond.selects "NineBoardsModel" ⟨"NineBoardsModel", "sumOfGets", "()I"⟩ ⟨"NineBoardsModel", "sumOfGets", "()I"⟩ ∈ TB := ⟨(mt_7 (List.mem_of_getElem? (i := 232) rfl) rfl), (ms_0 (List.mem_map.mpr ⟨(⟨"NineBoardsModel", "sumOfGets", "()I"⟩, 79), List.mem_of_getElem? (i := 120) (by decide +kernel), rfl⟩) rfl)⟩
theorem d_Model_common_71 : decode prog_13_method_95_code 71 = .ok (.goto 12, 3) := by decide +kernel
theorem d_Model_common_27 : decode prog_13_method_95_code 27 = .ok (.aload_n 0, 1) := by decide +kernel
theorem d_Model_common_28 : decode prog_13_method_95_code 28 = .ok (.iload_n 2, 1) := by decide +kernel
theorem d_Model_common_29 : decode prog_13_method_95_code 29 = .ok (.bipush 10, 2) := by decide +kernel
theorem d_Model_common_31 : decode prog_13_method_95_code 31 = .ok (.isub, 1) := by decide +kernel
theorem d_Model_common_32 : decode prog_13_method_95_code 32 = .ok (.invokevirtual 472, 3) := by decide +kernel
theorem d_Model_common_35 : decode prog_13_method_95_code 35 = .ok (.ifCond .ne 7, 3) := by decide +kernel
theorem d_Model_common_38 : decode prog_13_method_95_code 38 = .ok (.ldc_w 475, 3) := by decide +kernel
theorem d_Model_common_41 : decode prog_13_method_95_code 41 = .ok (.ireturn, 1) := by decide +kernel
set_option maxHeartbeats 4000000 in
set_option maxRecDepth 100000 in
theorem c_M_common (l : Launch) (D : va_G) (y : Nat → ClassId) (mo : Nat) (ad : Nat → Nat) (n : Int32) (w : Int32) (f : Nat → Int32)  : CT l D y ⟨"NineBoardsModel", "common", "(II)I"⟩ prog_13_method_95_code 3 (some .int) ({ frames := 7, cells := 0, slots := 0, locals := 174 } : Room) [.ref mo, .int n, .int w] [MB mo ad 0 0 0 0 0 0 0 (-1) 0 0 0 0 0 0 0 0 0 0 1 0, (ad 43, .inl (y 0, 8, .inl (fun _ => 0))), (ad 62, .inl (y 0, 63, .inl (dayF 0))), (ad 45, .inl (y 0, 14, .inl lakeF)), (ad 68, .inl (y 0, 63, .inl f)), (ad 72, .inl (y 0, 7, .inl powF)), (ad 71, .inl (y 0, 1093, .inl (fun _ => 0))), (ad 70, .inl (y 0, 6558, .inl (fun _ => 0)))] (QI D [MB mo ad 0 0 0 0 0 0 0 (-1) 0 0 0 0 0 0 0 0 0 0 1 0, (ad 43, .inl (y 0, 8, .inl (fun _ => 0))), (ad 62, .inl (y 0, 63, .inl (dayF 0))), (ad 45, .inl (y 0, 14, .inl lakeF)), (ad 68, .inl (y 0, 63, .inl f)), (ad 72, .inl (y 0, 7, .inl powF)), (ad 71, .inl (y 0, 1093, .inl (fun _ => 0))), (ad 70, .inl (y 0, 6558, .inl (fun _ => 0)))] (fun (r : Int32) (_ : Unit) => r = if 1 ≤ n.toInt ∧ n.toInt ≤ 6 ∧ ((0 ≤ w.toInt ∧ w.toInt < n.toInt) ∨ w.toInt = 9) then 0 else -1000000000) (fun _ => [])) := by
  refine CT.of (by decide) (nb rfl) ?_
  intro p e s m args below meth c C hr
  refine j_lv (lv' := [(0, .ref mo), (1, .int n), (2, .int w)]) rfl ?_
  by_cases e1 : n = 1
  · subst e1
    refine j_aload_n (pc := 0) C d_Model_common_0 rfl 0 rfl ?_
    refine j_iload_n (pc := 1) C d_Model_common_1 rfl 1 rfl ?_
    refine j_callVi (pc := 2) C (c_M_canPlan_1 l D y mo ad) kw_Model_519 kv_Model_canPlan 0 10 rfl rfl ⟨by decide, by decide⟩ ⟨by decide, by decide⟩ (wr := [(ad 43, .inl (y 0, 8, .inl (fun _ => 0))), (ad 45, .inl (y 0, 14, .inl lakeF)), (ad 68, .inl (y 0, 63, .inl f)), (ad 72, .inl (y 0, 7, .inl powF)), (ad 71, .inl (y 0, 1093, .inl (fun _ => 0))), (ad 70, .inl (y 0, 6558, .inl (fun _ => 0)))]) [0, 2] [1, 3, 4, 5, 6, 7] rfl rfl (by decide) (by decide) (by decide) (As := [.int 1]) (rest := []) rfl (nb rfl) rfl d_Model_common_2 (fun r2 _ hr2 => ?_)
    subst hr2
    refine j_ws (ws' := [(ad 43, .inl (y 0, 8, .inl (fun _ => 0))), (ad 45, .inl (y 0, 14, .inl lakeF)), (ad 68, .inl (y 0, 63, .inl f)), (ad 72, .inl (y 0, 7, .inl powF)), (ad 71, .inl (y 0, 1093, .inl (fun _ => 0))), (ad 70, .inl (y 0, 6558, .inl (fun _ => 0))), MB mo ad 0 0 0 0 0 0 0 (-1) 0 0 0 0 0 0 0 0 0 0 1 0, (ad 62, .inl (y 0, 63, .inl (dayF 0)))]) rfl ?_
    refine j_st (st' := [.int 1]) rfl ?_
    refine j_if_eqF (pc := 5) C (tgt := 38) d_Model_common_5 (by decide) (by decide) ?_
    by_cases e3 : w = 0
    · subst e3
      refine j_iload_n (pc := 8) C d_Model_common_8 rfl 2 rfl ?_
      refine j_i2l (pc := 9) C (v := 0) d_Model_common_9 (by decide) ?_
      refine j_lconst (pc := 10) C (v := 0) d_Model_common_10 (by decide) ?_
      refine j_iload_n (pc := 11) C d_Model_common_11 rfl 1 rfl ?_
      refine j_iconst (pc := 12) C (v := 1) d_Model_common_12 (by decide) ?_
      refine j_isub (pc := 13) C (v := 0) d_Model_common_13 (by decide) ?_
      refine j_i2l (pc := 14) C (v := 0) d_Model_common_14 (by decide) ?_
      refine j_callSi (pc := 15) C (c_isIn_c l D y 0 0 0 0 0 0 (by decide) (by decide) (by decide)) kw_Model_240 ks_Model_isIn ⟨by decide, by decide⟩ ⟨by decide, by decide⟩ (wr := [(ad 43, .inl (y 0, 8, .inl (fun _ => 0))), (ad 45, .inl (y 0, 14, .inl lakeF)), (ad 68, .inl (y 0, 63, .inl f)), (ad 72, .inl (y 0, 7, .inl powF)), (ad 71, .inl (y 0, 1093, .inl (fun _ => 0))), (ad 70, .inl (y 0, 6558, .inl (fun _ => 0))), MB mo ad 0 0 0 0 0 0 0 (-1) 0 0 0 0 0 0 0 0 0 0 1 0, (ad 62, .inl (y 0, 63, .inl (dayF 0)))]) [] [0, 1, 2, 3, 4, 5, 6, 7] rfl rfl (by decide) (by decide) (by decide) (As := [.long 0, .long 0, .long 0]) (rest := []) rfl (nb rfl) rfl d_Model_common_15 (fun r4 _ hr4 => ?_)
      refine j_ws (ws' := [(ad 43, .inl (y 0, 8, .inl (fun _ => 0))), (ad 45, .inl (y 0, 14, .inl lakeF)), (ad 68, .inl (y 0, 63, .inl f)), (ad 72, .inl (y 0, 7, .inl powF)), (ad 71, .inl (y 0, 1093, .inl (fun _ => 0))), (ad 70, .inl (y 0, 6558, .inl (fun _ => 0))), MB mo ad 0 0 0 0 0 0 0 (-1) 0 0 0 0 0 0 0 0 0 0 1 0, (ad 62, .inl (y 0, 63, .inl (dayF 0)))]) rfl ?_
      rw [if_pos (by decide)] at hr4
      subst hr4
      refine j_if_neT (pc := 18) C (tgt := 42) d_Model_common_18 (by decide) (by decide) ?_
      refine j_aload_n (pc := 42) C d_Model_common_42 rfl 0 rfl ?_
      refine j_iload_n (pc := 43) C d_Model_common_43 rfl 1 rfl ?_
      refine j_iconst (pc := 44) C (v := 1) d_Model_common_44 (by decide) ?_
      refine j_st (st' := [.int 1, .int (nI (0 + 1)), .ref mo]) rfl ?_
      refine j_callVv (pc := 45) C (c_M_plans l D y mo ad 0 1 f (by decide)) kw_Model_522 kv_Model_plans 0 10 rfl rfl ⟨by decide, by decide⟩ ⟨by decide, by decide⟩ (wr := []) [6, 0, 7, 1, 2, 3, 4, 5] [] rfl rfl (by decide) (by decide) (by decide) (As := [.int (nI (0 + 1)), .int 1]) (rest := []) rfl (nb rfl) rfl d_Model_common_45 (fun _ _ => ?_)
      refine j_ws (ws' := [MB mo ad 0 0 0 0 0 0 0 (-1) 0 0 0 0 0 0 0 0 0 0 1 0, (ad 43, .inl (y 0, 8, .inl (fun _ => 0))), (ad 62, .inl (y 0, 63, .inl (dayF 0))), (ad 45, .inl (y 0, 14, .inl lakeF)), (ad 68, .inl (y 0, 63, .inl (dayF 0))), (ad 72, .inl (y 0, 7, .inl powF)), (ad 71, .inl (y 0, 1093, .inl (fun _ => 0))), (ad 70, .inl (y 0, 6558, .inl (fun _ => 0)))]) rfl ?_
      refine j_iload_n (pc := 48) C d_Model_common_48 rfl 2 rfl ?_
      refine j_iload_n (pc := 49) C d_Model_common_49 rfl 1 rfl ?_
      refine j_icmp_geF (pc := 50) C (tgt := 61) d_Model_common_50 (by decide) (by decide) ?_
      refine j_aload_n (pc := 53) C d_Model_common_53 rfl 0 rfl ?_
      refine j_iload_n (pc := 54) C d_Model_common_54 rfl 2 rfl ?_
      refine j_callVi (pc := 55) C (c_M_actOf_0 l D y mo ad) kw_Model_525 kv_Model_actOf 0 10 rfl rfl ⟨by decide, by decide⟩ ⟨by decide, by decide⟩ (wr := [(ad 43, .inl (y 0, 8, .inl (fun _ => 0))), (ad 62, .inl (y 0, 63, .inl (dayF 0))), (ad 45, .inl (y 0, 14, .inl lakeF)), (ad 68, .inl (y 0, 63, .inl (dayF 0))), (ad 70, .inl (y 0, 6558, .inl (fun _ => 0)))]) [0, 5, 6] [1, 2, 3, 4, 7] rfl rfl (by decide) (by decide) (by decide) (As := [.int 0]) (rest := []) rfl (nb rfl) rfl d_Model_common_55 (fun r5 _ hr5 => ?_)
      subst hr5
      refine j_ws (ws' := [(ad 43, .inl (y 0, 8, .inl (fun _ => 0))), (ad 62, .inl (y 0, 63, .inl (dayF 0))), (ad 45, .inl (y 0, 14, .inl lakeF)), (ad 68, .inl (y 0, 63, .inl (dayF 0))), (ad 70, .inl (y 0, 6558, .inl (fun _ => 0)))]) rfl ?_
      refine j_st (st' := [.int 0]) rfl ?_
      refine j_goto (pc := 58) C (tgt := 83) d_Model_common_58 (by decide) ?_
      exact j_iret (pc := 83) C hr rfl () (by decide) [] rfl (by decide) (by decide) (by decide) d_Model_common_83
    · by_cases e6 : w = 9
      · subst e6
        refine j_iload_n (pc := 8) C d_Model_common_8 rfl 2 rfl ?_
        refine j_i2l (pc := 9) C (v := 9) d_Model_common_9 (by decide) ?_
        refine j_lconst (pc := 10) C (v := 0) d_Model_common_10 (by decide) ?_
        refine j_iload_n (pc := 11) C d_Model_common_11 rfl 1 rfl ?_
        refine j_iconst (pc := 12) C (v := 1) d_Model_common_12 (by decide) ?_
        refine j_isub (pc := 13) C (v := 0) d_Model_common_13 (by decide) ?_
        refine j_i2l (pc := 14) C (v := 0) d_Model_common_14 (by decide) ?_
        refine j_callSi (pc := 15) C (c_isIn_c l D y 9 0 0 9 0 0 (by decide) (by decide) (by decide)) kw_Model_240 ks_Model_isIn ⟨by decide, by decide⟩ ⟨by decide, by decide⟩ (wr := [(ad 43, .inl (y 0, 8, .inl (fun _ => 0))), (ad 45, .inl (y 0, 14, .inl lakeF)), (ad 68, .inl (y 0, 63, .inl f)), (ad 72, .inl (y 0, 7, .inl powF)), (ad 71, .inl (y 0, 1093, .inl (fun _ => 0))), (ad 70, .inl (y 0, 6558, .inl (fun _ => 0))), MB mo ad 0 0 0 0 0 0 0 (-1) 0 0 0 0 0 0 0 0 0 0 1 0, (ad 62, .inl (y 0, 63, .inl (dayF 0)))]) [] [0, 1, 2, 3, 4, 5, 6, 7] rfl rfl (by decide) (by decide) (by decide) (As := [.long 9, .long 0, .long 0]) (rest := []) rfl (nb rfl) rfl d_Model_common_15 (fun r7 _ hr7 => ?_)
        refine j_ws (ws' := [(ad 43, .inl (y 0, 8, .inl (fun _ => 0))), (ad 45, .inl (y 0, 14, .inl lakeF)), (ad 68, .inl (y 0, 63, .inl f)), (ad 72, .inl (y 0, 7, .inl powF)), (ad 71, .inl (y 0, 1093, .inl (fun _ => 0))), (ad 70, .inl (y 0, 6558, .inl (fun _ => 0))), MB mo ad 0 0 0 0 0 0 0 (-1) 0 0 0 0 0 0 0 0 0 0 1 0, (ad 62, .inl (y 0, 63, .inl (dayF 0)))]) rfl ?_
        rw [if_neg (by decide)] at hr7
        subst hr7
        refine j_if_neF (pc := 18) C (tgt := 42) d_Model_common_18 (by decide) (by decide) ?_
        refine j_iload_n (pc := 21) C d_Model_common_21 rfl 2 rfl ?_
        refine j_bipush (pc := 22) C (v := 9) d_Model_common_22 (by decide) ?_
        refine j_icmp_eqT (pc := 24) C (tgt := 42) d_Model_common_24 (by decide) (by decide) ?_
        refine j_aload_n (pc := 42) C d_Model_common_42 rfl 0 rfl ?_
        refine j_iload_n (pc := 43) C d_Model_common_43 rfl 1 rfl ?_
        refine j_iconst (pc := 44) C (v := 1) d_Model_common_44 (by decide) ?_
        refine j_st (st' := [.int 1, .int (nI (0 + 1)), .ref mo]) rfl ?_
        refine j_callVv (pc := 45) C (c_M_plans l D y mo ad 0 1 f (by decide)) kw_Model_522 kv_Model_plans 0 10 rfl rfl ⟨by decide, by decide⟩ ⟨by decide, by decide⟩ (wr := []) [6, 0, 7, 1, 2, 3, 4, 5] [] rfl rfl (by decide) (by decide) (by decide) (As := [.int (nI (0 + 1)), .int 1]) (rest := []) rfl (nb rfl) rfl d_Model_common_45 (fun _ _ => ?_)
        refine j_ws (ws' := [MB mo ad 0 0 0 0 0 0 0 (-1) 0 0 0 0 0 0 0 0 0 0 1 0, (ad 43, .inl (y 0, 8, .inl (fun _ => 0))), (ad 62, .inl (y 0, 63, .inl (dayF 0))), (ad 45, .inl (y 0, 14, .inl lakeF)), (ad 68, .inl (y 0, 63, .inl (dayF 0))), (ad 72, .inl (y 0, 7, .inl powF)), (ad 71, .inl (y 0, 1093, .inl (fun _ => 0))), (ad 70, .inl (y 0, 6558, .inl (fun _ => 0)))]) rfl ?_
        refine j_iload_n (pc := 48) C d_Model_common_48 rfl 2 rfl ?_
        refine j_iload_n (pc := 49) C d_Model_common_49 rfl 1 rfl ?_
        refine j_icmp_geT (pc := 50) C (tgt := 61) d_Model_common_50 (by decide) (by decide) ?_
        refine j_iload_n (pc := 61) C d_Model_common_61 rfl 2 rfl ?_
        refine j_bipush (pc := 62) C (v := 9) d_Model_common_62 (by decide) ?_
        refine j_icmp_neF (pc := 64) C (tgt := 74) d_Model_common_64 (by decide) (by decide) ?_
        refine j_aload_n (pc := 67) C d_Model_common_67 rfl 0 rfl ?_
        refine j_callVi (pc := 68) C (c_M_sumOfGets l D y mo ad) kw_Model_528 kv_Model_sumOfGets 0 10 rfl rfl ⟨by decide, by decide⟩ ⟨by decide, by decide⟩ (wr := [(ad 62, .inl (y 0, 63, .inl (dayF 0))), (ad 45, .inl (y 0, 14, .inl lakeF)), (ad 68, .inl (y 0, 63, .inl (dayF 0))), (ad 72, .inl (y 0, 7, .inl powF)), (ad 71, .inl (y 0, 1093, .inl (fun _ => 0))), (ad 70, .inl (y 0, 6558, .inl (fun _ => 0)))]) [0, 1] [2, 3, 4, 5, 6, 7] rfl rfl (by decide) (by decide) (by decide) (As := []) (rest := []) rfl (nb rfl) rfl d_Model_common_68 (fun r8 _ hr8 => ?_)
        subst hr8
        refine j_ws (ws' := [(ad 62, .inl (y 0, 63, .inl (dayF 0))), (ad 45, .inl (y 0, 14, .inl lakeF)), (ad 68, .inl (y 0, 63, .inl (dayF 0))), (ad 72, .inl (y 0, 7, .inl powF)), (ad 71, .inl (y 0, 1093, .inl (fun _ => 0))), (ad 70, .inl (y 0, 6558, .inl (fun _ => 0)))]) rfl ?_
        refine j_st (st' := [.int 0]) rfl ?_
        refine j_goto (pc := 71) C (tgt := 83) d_Model_common_71 (by decide) ?_
        exact j_iret (pc := 83) C hr rfl () (by decide) [] rfl (by decide) (by decide) (by decide) d_Model_common_83
      · refine j_iload_n (pc := 8) C d_Model_common_8 rfl 2 rfl ?_
        refine j_i2l (pc := 9) C (v := w.toInt64) d_Model_common_9 rfl ?_
        refine j_lconst (pc := 10) C (v := 0) d_Model_common_10 (by decide) ?_
        refine j_iload_n (pc := 11) C d_Model_common_11 rfl 1 rfl ?_
        refine j_iconst (pc := 12) C (v := 1) d_Model_common_12 (by decide) ?_
        refine j_isub (pc := 13) C (v := 0) d_Model_common_13 (by decide) ?_
        refine j_i2l (pc := 14) C (v := 0) d_Model_common_14 (by decide) ?_
        refine j_callSi (pc := 15) C (c_isIn_x l D y w 0 0 0 0 (by decide) (by decide)) kw_Model_240 ks_Model_isIn ⟨by decide, by decide⟩ ⟨by decide, by decide⟩ (wr := [(ad 43, .inl (y 0, 8, .inl (fun _ => 0))), (ad 45, .inl (y 0, 14, .inl lakeF)), (ad 68, .inl (y 0, 63, .inl f)), (ad 72, .inl (y 0, 7, .inl powF)), (ad 71, .inl (y 0, 1093, .inl (fun _ => 0))), (ad 70, .inl (y 0, 6558, .inl (fun _ => 0))), MB mo ad 0 0 0 0 0 0 0 (-1) 0 0 0 0 0 0 0 0 0 0 1 0, (ad 62, .inl (y 0, 63, .inl (dayF 0)))]) [] [0, 1, 2, 3, 4, 5, 6, 7] rfl rfl (by decide) (by decide) (by decide) (As := [.long w.toInt64, .long 0, .long 0]) (rest := []) rfl (nb rfl) rfl d_Model_common_15 (fun r9 _ hr9 => ?_)
        refine j_ws (ws' := [(ad 43, .inl (y 0, 8, .inl (fun _ => 0))), (ad 45, .inl (y 0, 14, .inl lakeF)), (ad 68, .inl (y 0, 63, .inl f)), (ad 72, .inl (y 0, 7, .inl powF)), (ad 71, .inl (y 0, 1093, .inl (fun _ => 0))), (ad 70, .inl (y 0, 6558, .inl (fun _ => 0))), MB mo ad 0 0 0 0 0 0 0 (-1) 0 0 0 0 0 0 0 0 0 0 1 0, (ad 62, .inl (y 0, 63, .inl (dayF 0)))]) rfl ?_
        rw [if_neg (by simp only [← Int32.toInt_inj, (by decide : Int32.toInt 0 = 0), (by decide : Int32.toInt 1 = 1), (by decide : Int32.toInt 2 = 2), (by decide : Int32.toInt 3 = 3), (by decide : Int32.toInt 4 = 4), (by decide : Int32.toInt 5 = 5), (by decide : Int32.toInt 6 = 6), (by decide : Int32.toInt 7 = 7), (by decide : Int32.toInt 8 = 8), (by decide : Int32.toInt 9 = 9)] at e3 e6; omega)] at hr9
        subst hr9
        refine j_if_neF (pc := 18) C (tgt := 42) d_Model_common_18 (by decide) (by decide) ?_
        refine j_iload_n (pc := 21) C d_Model_common_21 rfl 2 rfl ?_
        refine j_bipush (pc := 22) C (v := 9) d_Model_common_22 (by decide) ?_
        refine j_icmp_eqF (pc := 24) C (tgt := 42) d_Model_common_24 (by decide) e6 ?_
        refine j_aload_n (pc := 27) C d_Model_common_27 rfl 0 rfl ?_
        refine j_iload_n (pc := 28) C d_Model_common_28 rfl 2 rfl ?_
        refine j_bipush (pc := 29) C (v := 10) d_Model_common_29 (by decide) ?_
        refine j_isub (pc := 31) C (v := w - 10) d_Model_common_31 rfl ?_
        refine j_callVi (pc := 32) C (c_M_isVillage l D y mo ad 0 0 1 (w - 10)) kw_Model_472 kv_Model_isVillage 0 10 rfl rfl ⟨by decide, by decide⟩ ⟨by decide, by decide⟩ (wr := [(ad 45, .inl (y 0, 14, .inl lakeF)), (ad 68, .inl (y 0, 63, .inl f)), (ad 72, .inl (y 0, 7, .inl powF)), (ad 71, .inl (y 0, 1093, .inl (fun _ => 0))), (ad 70, .inl (y 0, 6558, .inl (fun _ => 0))), (ad 62, .inl (y 0, 63, .inl (dayF 0)))]) [6, 0] [1, 2, 3, 4, 5, 7] rfl rfl (by decide) (by decide) (by decide) (As := [.int (w - 10)]) (rest := []) rfl (nb rfl) rfl d_Model_common_32 (fun r10 _ hr10 => ?_)
        subst hr10
        refine j_ws (ws' := [(ad 45, .inl (y 0, 14, .inl lakeF)), (ad 68, .inl (y 0, 63, .inl f)), (ad 72, .inl (y 0, 7, .inl powF)), (ad 71, .inl (y 0, 1093, .inl (fun _ => 0))), (ad 70, .inl (y 0, 6558, .inl (fun _ => 0))), (ad 62, .inl (y 0, 63, .inl (dayF 0))), MB mo ad 0 0 0 0 0 0 0 (-1) 0 0 0 0 0 0 0 0 0 0 1 0, (ad 43, .inl (y 0, 8, .inl (fun _ => 0)))]) rfl ?_
        refine j_st (st' := [.int 0]) rfl ?_
        refine j_if_neF (pc := 35) C (tgt := 42) d_Model_common_35 (by decide) (by decide) ?_
        refine j_ldcw (pc := 38) C (v := (-1000000000)) (mt_7 (List.mem_of_getElem? (i := 94) rfl) rfl) d_Model_common_38 ?_
        exact j_iret (pc := 41) C hr rfl () (by simp only [Int32.lt_iff_toInt_lt, Int32.le_iff_toInt_le, ← Int32.toInt_inj, (by decide : Int32.toInt 0 = 0), (by decide : Int32.toInt 1 = 1), (by decide : Int32.toInt 2 = 2), (by decide : Int32.toInt 3 = 3), (by decide : Int32.toInt 4 = 4), (by decide : Int32.toInt 5 = 5), (by decide : Int32.toInt 6 = 6), (by decide : Int32.toInt 7 = 7), (by decide : Int32.toInt 8 = 8), (by decide : Int32.toInt 9 = 9)] at e3 e6 ⊢; rw [if_neg (by omega)]) [] rfl (by decide) (by decide) (by decide) d_Model_common_41
  · by_cases e11 : n = 2
    · subst e11
      refine j_aload_n (pc := 0) C d_Model_common_0 rfl 0 rfl ?_
      refine j_iload_n (pc := 1) C d_Model_common_1 rfl 1 rfl ?_
      refine j_callVi (pc := 2) C (c_M_canPlan_2 l D y mo ad) kw_Model_519 kv_Model_canPlan 0 10 rfl rfl ⟨by decide, by decide⟩ ⟨by decide, by decide⟩ (wr := [(ad 43, .inl (y 0, 8, .inl (fun _ => 0))), (ad 45, .inl (y 0, 14, .inl lakeF)), (ad 68, .inl (y 0, 63, .inl f)), (ad 72, .inl (y 0, 7, .inl powF)), (ad 71, .inl (y 0, 1093, .inl (fun _ => 0))), (ad 70, .inl (y 0, 6558, .inl (fun _ => 0)))]) [0, 2] [1, 3, 4, 5, 6, 7] rfl rfl (by decide) (by decide) (by decide) (As := [.int 2]) (rest := []) rfl (nb rfl) rfl d_Model_common_2 (fun r12 _ hr12 => ?_)
      subst hr12
      refine j_ws (ws' := [(ad 43, .inl (y 0, 8, .inl (fun _ => 0))), (ad 45, .inl (y 0, 14, .inl lakeF)), (ad 68, .inl (y 0, 63, .inl f)), (ad 72, .inl (y 0, 7, .inl powF)), (ad 71, .inl (y 0, 1093, .inl (fun _ => 0))), (ad 70, .inl (y 0, 6558, .inl (fun _ => 0))), MB mo ad 0 0 0 0 0 0 0 (-1) 0 0 0 0 0 0 0 0 0 0 1 0, (ad 62, .inl (y 0, 63, .inl (dayF 0)))]) rfl ?_
      refine j_st (st' := [.int 1]) rfl ?_
      refine j_if_eqF (pc := 5) C (tgt := 38) d_Model_common_5 (by decide) (by decide) ?_
      by_cases e13 : w = 0
      · subst e13
        refine j_iload_n (pc := 8) C d_Model_common_8 rfl 2 rfl ?_
        refine j_i2l (pc := 9) C (v := 0) d_Model_common_9 (by decide) ?_
        refine j_lconst (pc := 10) C (v := 0) d_Model_common_10 (by decide) ?_
        refine j_iload_n (pc := 11) C d_Model_common_11 rfl 1 rfl ?_
        refine j_iconst (pc := 12) C (v := 1) d_Model_common_12 (by decide) ?_
        refine j_isub (pc := 13) C (v := 1) d_Model_common_13 (by decide) ?_
        refine j_i2l (pc := 14) C (v := 1) d_Model_common_14 (by decide) ?_
        refine j_callSi (pc := 15) C (c_isIn_c l D y 0 0 1 0 0 1 (by decide) (by decide) (by decide)) kw_Model_240 ks_Model_isIn ⟨by decide, by decide⟩ ⟨by decide, by decide⟩ (wr := [(ad 43, .inl (y 0, 8, .inl (fun _ => 0))), (ad 45, .inl (y 0, 14, .inl lakeF)), (ad 68, .inl (y 0, 63, .inl f)), (ad 72, .inl (y 0, 7, .inl powF)), (ad 71, .inl (y 0, 1093, .inl (fun _ => 0))), (ad 70, .inl (y 0, 6558, .inl (fun _ => 0))), MB mo ad 0 0 0 0 0 0 0 (-1) 0 0 0 0 0 0 0 0 0 0 1 0, (ad 62, .inl (y 0, 63, .inl (dayF 0)))]) [] [0, 1, 2, 3, 4, 5, 6, 7] rfl rfl (by decide) (by decide) (by decide) (As := [.long 0, .long 0, .long 1]) (rest := []) rfl (nb rfl) rfl d_Model_common_15 (fun r14 _ hr14 => ?_)
        refine j_ws (ws' := [(ad 43, .inl (y 0, 8, .inl (fun _ => 0))), (ad 45, .inl (y 0, 14, .inl lakeF)), (ad 68, .inl (y 0, 63, .inl f)), (ad 72, .inl (y 0, 7, .inl powF)), (ad 71, .inl (y 0, 1093, .inl (fun _ => 0))), (ad 70, .inl (y 0, 6558, .inl (fun _ => 0))), MB mo ad 0 0 0 0 0 0 0 (-1) 0 0 0 0 0 0 0 0 0 0 1 0, (ad 62, .inl (y 0, 63, .inl (dayF 0)))]) rfl ?_
        rw [if_pos (by decide)] at hr14
        subst hr14
        refine j_if_neT (pc := 18) C (tgt := 42) d_Model_common_18 (by decide) (by decide) ?_
        refine j_aload_n (pc := 42) C d_Model_common_42 rfl 0 rfl ?_
        refine j_iload_n (pc := 43) C d_Model_common_43 rfl 1 rfl ?_
        refine j_iconst (pc := 44) C (v := 1) d_Model_common_44 (by decide) ?_
        refine j_st (st' := [.int 1, .int (nI (1 + 1)), .ref mo]) rfl ?_
        refine j_callVv (pc := 45) C (c_M_plans l D y mo ad 1 1 f (by decide)) kw_Model_522 kv_Model_plans 0 10 rfl rfl ⟨by decide, by decide⟩ ⟨by decide, by decide⟩ (wr := []) [6, 0, 7, 1, 2, 3, 4, 5] [] rfl rfl (by decide) (by decide) (by decide) (As := [.int (nI (1 + 1)), .int 1]) (rest := []) rfl (nb rfl) rfl d_Model_common_45 (fun _ _ => ?_)
        refine j_ws (ws' := [MB mo ad 0 0 0 0 0 0 0 (-1) 0 0 0 0 0 0 0 0 0 0 1 0, (ad 43, .inl (y 0, 8, .inl (fun _ => 0))), (ad 62, .inl (y 0, 63, .inl (dayF 0))), (ad 45, .inl (y 0, 14, .inl lakeF)), (ad 68, .inl (y 0, 63, .inl (dayF 0))), (ad 72, .inl (y 0, 7, .inl powF)), (ad 71, .inl (y 0, 1093, .inl (fun _ => 0))), (ad 70, .inl (y 0, 6558, .inl (fun _ => 0)))]) rfl ?_
        refine j_iload_n (pc := 48) C d_Model_common_48 rfl 2 rfl ?_
        refine j_iload_n (pc := 49) C d_Model_common_49 rfl 1 rfl ?_
        refine j_icmp_geF (pc := 50) C (tgt := 61) d_Model_common_50 (by decide) (by decide) ?_
        refine j_aload_n (pc := 53) C d_Model_common_53 rfl 0 rfl ?_
        refine j_iload_n (pc := 54) C d_Model_common_54 rfl 2 rfl ?_
        refine j_callVi (pc := 55) C (c_M_actOf_0 l D y mo ad) kw_Model_525 kv_Model_actOf 0 10 rfl rfl ⟨by decide, by decide⟩ ⟨by decide, by decide⟩ (wr := [(ad 43, .inl (y 0, 8, .inl (fun _ => 0))), (ad 62, .inl (y 0, 63, .inl (dayF 0))), (ad 45, .inl (y 0, 14, .inl lakeF)), (ad 68, .inl (y 0, 63, .inl (dayF 0))), (ad 70, .inl (y 0, 6558, .inl (fun _ => 0)))]) [0, 5, 6] [1, 2, 3, 4, 7] rfl rfl (by decide) (by decide) (by decide) (As := [.int 0]) (rest := []) rfl (nb rfl) rfl d_Model_common_55 (fun r15 _ hr15 => ?_)
        subst hr15
        refine j_ws (ws' := [(ad 43, .inl (y 0, 8, .inl (fun _ => 0))), (ad 62, .inl (y 0, 63, .inl (dayF 0))), (ad 45, .inl (y 0, 14, .inl lakeF)), (ad 68, .inl (y 0, 63, .inl (dayF 0))), (ad 70, .inl (y 0, 6558, .inl (fun _ => 0)))]) rfl ?_
        refine j_st (st' := [.int 0]) rfl ?_
        refine j_goto (pc := 58) C (tgt := 83) d_Model_common_58 (by decide) ?_
        exact j_iret (pc := 83) C hr rfl () (by decide) [] rfl (by decide) (by decide) (by decide) d_Model_common_83
      · by_cases e16 : w = 1
        · subst e16
          refine j_iload_n (pc := 8) C d_Model_common_8 rfl 2 rfl ?_
          refine j_i2l (pc := 9) C (v := 1) d_Model_common_9 (by decide) ?_
          refine j_lconst (pc := 10) C (v := 0) d_Model_common_10 (by decide) ?_
          refine j_iload_n (pc := 11) C d_Model_common_11 rfl 1 rfl ?_
          refine j_iconst (pc := 12) C (v := 1) d_Model_common_12 (by decide) ?_
          refine j_isub (pc := 13) C (v := 1) d_Model_common_13 (by decide) ?_
          refine j_i2l (pc := 14) C (v := 1) d_Model_common_14 (by decide) ?_
          refine j_callSi (pc := 15) C (c_isIn_c l D y 1 0 1 1 0 1 (by decide) (by decide) (by decide)) kw_Model_240 ks_Model_isIn ⟨by decide, by decide⟩ ⟨by decide, by decide⟩ (wr := [(ad 43, .inl (y 0, 8, .inl (fun _ => 0))), (ad 45, .inl (y 0, 14, .inl lakeF)), (ad 68, .inl (y 0, 63, .inl f)), (ad 72, .inl (y 0, 7, .inl powF)), (ad 71, .inl (y 0, 1093, .inl (fun _ => 0))), (ad 70, .inl (y 0, 6558, .inl (fun _ => 0))), MB mo ad 0 0 0 0 0 0 0 (-1) 0 0 0 0 0 0 0 0 0 0 1 0, (ad 62, .inl (y 0, 63, .inl (dayF 0)))]) [] [0, 1, 2, 3, 4, 5, 6, 7] rfl rfl (by decide) (by decide) (by decide) (As := [.long 1, .long 0, .long 1]) (rest := []) rfl (nb rfl) rfl d_Model_common_15 (fun r17 _ hr17 => ?_)
          refine j_ws (ws' := [(ad 43, .inl (y 0, 8, .inl (fun _ => 0))), (ad 45, .inl (y 0, 14, .inl lakeF)), (ad 68, .inl (y 0, 63, .inl f)), (ad 72, .inl (y 0, 7, .inl powF)), (ad 71, .inl (y 0, 1093, .inl (fun _ => 0))), (ad 70, .inl (y 0, 6558, .inl (fun _ => 0))), MB mo ad 0 0 0 0 0 0 0 (-1) 0 0 0 0 0 0 0 0 0 0 1 0, (ad 62, .inl (y 0, 63, .inl (dayF 0)))]) rfl ?_
          rw [if_pos (by decide)] at hr17
          subst hr17
          refine j_if_neT (pc := 18) C (tgt := 42) d_Model_common_18 (by decide) (by decide) ?_
          refine j_aload_n (pc := 42) C d_Model_common_42 rfl 0 rfl ?_
          refine j_iload_n (pc := 43) C d_Model_common_43 rfl 1 rfl ?_
          refine j_iconst (pc := 44) C (v := 1) d_Model_common_44 (by decide) ?_
          refine j_st (st' := [.int 1, .int (nI (1 + 1)), .ref mo]) rfl ?_
          refine j_callVv (pc := 45) C (c_M_plans l D y mo ad 1 1 f (by decide)) kw_Model_522 kv_Model_plans 0 10 rfl rfl ⟨by decide, by decide⟩ ⟨by decide, by decide⟩ (wr := []) [6, 0, 7, 1, 2, 3, 4, 5] [] rfl rfl (by decide) (by decide) (by decide) (As := [.int (nI (1 + 1)), .int 1]) (rest := []) rfl (nb rfl) rfl d_Model_common_45 (fun _ _ => ?_)
          refine j_ws (ws' := [MB mo ad 0 0 0 0 0 0 0 (-1) 0 0 0 0 0 0 0 0 0 0 1 0, (ad 43, .inl (y 0, 8, .inl (fun _ => 0))), (ad 62, .inl (y 0, 63, .inl (dayF 0))), (ad 45, .inl (y 0, 14, .inl lakeF)), (ad 68, .inl (y 0, 63, .inl (dayF 0))), (ad 72, .inl (y 0, 7, .inl powF)), (ad 71, .inl (y 0, 1093, .inl (fun _ => 0))), (ad 70, .inl (y 0, 6558, .inl (fun _ => 0)))]) rfl ?_
          refine j_iload_n (pc := 48) C d_Model_common_48 rfl 2 rfl ?_
          refine j_iload_n (pc := 49) C d_Model_common_49 rfl 1 rfl ?_
          refine j_icmp_geF (pc := 50) C (tgt := 61) d_Model_common_50 (by decide) (by decide) ?_
          refine j_aload_n (pc := 53) C d_Model_common_53 rfl 0 rfl ?_
          refine j_iload_n (pc := 54) C d_Model_common_54 rfl 2 rfl ?_
          refine j_callVi (pc := 55) C (c_M_actOf_1 l D y mo ad) kw_Model_525 kv_Model_actOf 0 10 rfl rfl ⟨by decide, by decide⟩ ⟨by decide, by decide⟩ (wr := [(ad 43, .inl (y 0, 8, .inl (fun _ => 0))), (ad 62, .inl (y 0, 63, .inl (dayF 0))), (ad 45, .inl (y 0, 14, .inl lakeF)), (ad 68, .inl (y 0, 63, .inl (dayF 0))), (ad 70, .inl (y 0, 6558, .inl (fun _ => 0)))]) [0, 5, 6] [1, 2, 3, 4, 7] rfl rfl (by decide) (by decide) (by decide) (As := [.int 1]) (rest := []) rfl (nb rfl) rfl d_Model_common_55 (fun r18 _ hr18 => ?_)
          subst hr18
          refine j_ws (ws' := [(ad 43, .inl (y 0, 8, .inl (fun _ => 0))), (ad 62, .inl (y 0, 63, .inl (dayF 0))), (ad 45, .inl (y 0, 14, .inl lakeF)), (ad 68, .inl (y 0, 63, .inl (dayF 0))), (ad 70, .inl (y 0, 6558, .inl (fun _ => 0)))]) rfl ?_
          refine j_st (st' := [.int 0]) rfl ?_
          refine j_goto (pc := 58) C (tgt := 83) d_Model_common_58 (by decide) ?_
          exact j_iret (pc := 83) C hr rfl () (by decide) [] rfl (by decide) (by decide) (by decide) d_Model_common_83
        · by_cases e19 : w = 9
          · subst e19
            refine j_iload_n (pc := 8) C d_Model_common_8 rfl 2 rfl ?_
            refine j_i2l (pc := 9) C (v := 9) d_Model_common_9 (by decide) ?_
            refine j_lconst (pc := 10) C (v := 0) d_Model_common_10 (by decide) ?_
            refine j_iload_n (pc := 11) C d_Model_common_11 rfl 1 rfl ?_
            refine j_iconst (pc := 12) C (v := 1) d_Model_common_12 (by decide) ?_
            refine j_isub (pc := 13) C (v := 1) d_Model_common_13 (by decide) ?_
            refine j_i2l (pc := 14) C (v := 1) d_Model_common_14 (by decide) ?_
            refine j_callSi (pc := 15) C (c_isIn_c l D y 9 0 1 9 0 1 (by decide) (by decide) (by decide)) kw_Model_240 ks_Model_isIn ⟨by decide, by decide⟩ ⟨by decide, by decide⟩ (wr := [(ad 43, .inl (y 0, 8, .inl (fun _ => 0))), (ad 45, .inl (y 0, 14, .inl lakeF)), (ad 68, .inl (y 0, 63, .inl f)), (ad 72, .inl (y 0, 7, .inl powF)), (ad 71, .inl (y 0, 1093, .inl (fun _ => 0))), (ad 70, .inl (y 0, 6558, .inl (fun _ => 0))), MB mo ad 0 0 0 0 0 0 0 (-1) 0 0 0 0 0 0 0 0 0 0 1 0, (ad 62, .inl (y 0, 63, .inl (dayF 0)))]) [] [0, 1, 2, 3, 4, 5, 6, 7] rfl rfl (by decide) (by decide) (by decide) (As := [.long 9, .long 0, .long 1]) (rest := []) rfl (nb rfl) rfl d_Model_common_15 (fun r20 _ hr20 => ?_)
            refine j_ws (ws' := [(ad 43, .inl (y 0, 8, .inl (fun _ => 0))), (ad 45, .inl (y 0, 14, .inl lakeF)), (ad 68, .inl (y 0, 63, .inl f)), (ad 72, .inl (y 0, 7, .inl powF)), (ad 71, .inl (y 0, 1093, .inl (fun _ => 0))), (ad 70, .inl (y 0, 6558, .inl (fun _ => 0))), MB mo ad 0 0 0 0 0 0 0 (-1) 0 0 0 0 0 0 0 0 0 0 1 0, (ad 62, .inl (y 0, 63, .inl (dayF 0)))]) rfl ?_
            rw [if_neg (by decide)] at hr20
            subst hr20
            refine j_if_neF (pc := 18) C (tgt := 42) d_Model_common_18 (by decide) (by decide) ?_
            refine j_iload_n (pc := 21) C d_Model_common_21 rfl 2 rfl ?_
            refine j_bipush (pc := 22) C (v := 9) d_Model_common_22 (by decide) ?_
            refine j_icmp_eqT (pc := 24) C (tgt := 42) d_Model_common_24 (by decide) (by decide) ?_
            refine j_aload_n (pc := 42) C d_Model_common_42 rfl 0 rfl ?_
            refine j_iload_n (pc := 43) C d_Model_common_43 rfl 1 rfl ?_
            refine j_iconst (pc := 44) C (v := 1) d_Model_common_44 (by decide) ?_
            refine j_st (st' := [.int 1, .int (nI (1 + 1)), .ref mo]) rfl ?_
            refine j_callVv (pc := 45) C (c_M_plans l D y mo ad 1 1 f (by decide)) kw_Model_522 kv_Model_plans 0 10 rfl rfl ⟨by decide, by decide⟩ ⟨by decide, by decide⟩ (wr := []) [6, 0, 7, 1, 2, 3, 4, 5] [] rfl rfl (by decide) (by decide) (by decide) (As := [.int (nI (1 + 1)), .int 1]) (rest := []) rfl (nb rfl) rfl d_Model_common_45 (fun _ _ => ?_)
            refine j_ws (ws' := [MB mo ad 0 0 0 0 0 0 0 (-1) 0 0 0 0 0 0 0 0 0 0 1 0, (ad 43, .inl (y 0, 8, .inl (fun _ => 0))), (ad 62, .inl (y 0, 63, .inl (dayF 0))), (ad 45, .inl (y 0, 14, .inl lakeF)), (ad 68, .inl (y 0, 63, .inl (dayF 0))), (ad 72, .inl (y 0, 7, .inl powF)), (ad 71, .inl (y 0, 1093, .inl (fun _ => 0))), (ad 70, .inl (y 0, 6558, .inl (fun _ => 0)))]) rfl ?_
            refine j_iload_n (pc := 48) C d_Model_common_48 rfl 2 rfl ?_
            refine j_iload_n (pc := 49) C d_Model_common_49 rfl 1 rfl ?_
            refine j_icmp_geT (pc := 50) C (tgt := 61) d_Model_common_50 (by decide) (by decide) ?_
            refine j_iload_n (pc := 61) C d_Model_common_61 rfl 2 rfl ?_
            refine j_bipush (pc := 62) C (v := 9) d_Model_common_62 (by decide) ?_
            refine j_icmp_neF (pc := 64) C (tgt := 74) d_Model_common_64 (by decide) (by decide) ?_
            refine j_aload_n (pc := 67) C d_Model_common_67 rfl 0 rfl ?_
            refine j_callVi (pc := 68) C (c_M_sumOfGets l D y mo ad) kw_Model_528 kv_Model_sumOfGets 0 10 rfl rfl ⟨by decide, by decide⟩ ⟨by decide, by decide⟩ (wr := [(ad 62, .inl (y 0, 63, .inl (dayF 0))), (ad 45, .inl (y 0, 14, .inl lakeF)), (ad 68, .inl (y 0, 63, .inl (dayF 0))), (ad 72, .inl (y 0, 7, .inl powF)), (ad 71, .inl (y 0, 1093, .inl (fun _ => 0))), (ad 70, .inl (y 0, 6558, .inl (fun _ => 0)))]) [0, 1] [2, 3, 4, 5, 6, 7] rfl rfl (by decide) (by decide) (by decide) (As := []) (rest := []) rfl (nb rfl) rfl d_Model_common_68 (fun r21 _ hr21 => ?_)
            subst hr21
            refine j_ws (ws' := [(ad 62, .inl (y 0, 63, .inl (dayF 0))), (ad 45, .inl (y 0, 14, .inl lakeF)), (ad 68, .inl (y 0, 63, .inl (dayF 0))), (ad 72, .inl (y 0, 7, .inl powF)), (ad 71, .inl (y 0, 1093, .inl (fun _ => 0))), (ad 70, .inl (y 0, 6558, .inl (fun _ => 0)))]) rfl ?_
            refine j_st (st' := [.int 0]) rfl ?_
            refine j_goto (pc := 71) C (tgt := 83) d_Model_common_71 (by decide) ?_
            exact j_iret (pc := 83) C hr rfl () (by decide) [] rfl (by decide) (by decide) (by decide) d_Model_common_83
          · refine j_iload_n (pc := 8) C d_Model_common_8 rfl 2 rfl ?_
            refine j_i2l (pc := 9) C (v := w.toInt64) d_Model_common_9 rfl ?_
            refine j_lconst (pc := 10) C (v := 0) d_Model_common_10 (by decide) ?_
            refine j_iload_n (pc := 11) C d_Model_common_11 rfl 1 rfl ?_
            refine j_iconst (pc := 12) C (v := 1) d_Model_common_12 (by decide) ?_
            refine j_isub (pc := 13) C (v := 1) d_Model_common_13 (by decide) ?_
            refine j_i2l (pc := 14) C (v := 1) d_Model_common_14 (by decide) ?_
            refine j_callSi (pc := 15) C (c_isIn_x l D y w 0 1 0 1 (by decide) (by decide)) kw_Model_240 ks_Model_isIn ⟨by decide, by decide⟩ ⟨by decide, by decide⟩ (wr := [(ad 43, .inl (y 0, 8, .inl (fun _ => 0))), (ad 45, .inl (y 0, 14, .inl lakeF)), (ad 68, .inl (y 0, 63, .inl f)), (ad 72, .inl (y 0, 7, .inl powF)), (ad 71, .inl (y 0, 1093, .inl (fun _ => 0))), (ad 70, .inl (y 0, 6558, .inl (fun _ => 0))), MB mo ad 0 0 0 0 0 0 0 (-1) 0 0 0 0 0 0 0 0 0 0 1 0, (ad 62, .inl (y 0, 63, .inl (dayF 0)))]) [] [0, 1, 2, 3, 4, 5, 6, 7] rfl rfl (by decide) (by decide) (by decide) (As := [.long w.toInt64, .long 0, .long 1]) (rest := []) rfl (nb rfl) rfl d_Model_common_15 (fun r22 _ hr22 => ?_)
            refine j_ws (ws' := [(ad 43, .inl (y 0, 8, .inl (fun _ => 0))), (ad 45, .inl (y 0, 14, .inl lakeF)), (ad 68, .inl (y 0, 63, .inl f)), (ad 72, .inl (y 0, 7, .inl powF)), (ad 71, .inl (y 0, 1093, .inl (fun _ => 0))), (ad 70, .inl (y 0, 6558, .inl (fun _ => 0))), MB mo ad 0 0 0 0 0 0 0 (-1) 0 0 0 0 0 0 0 0 0 0 1 0, (ad 62, .inl (y 0, 63, .inl (dayF 0)))]) rfl ?_
            rw [if_neg (by simp only [← Int32.toInt_inj, (by decide : Int32.toInt 0 = 0), (by decide : Int32.toInt 1 = 1), (by decide : Int32.toInt 2 = 2), (by decide : Int32.toInt 3 = 3), (by decide : Int32.toInt 4 = 4), (by decide : Int32.toInt 5 = 5), (by decide : Int32.toInt 6 = 6), (by decide : Int32.toInt 7 = 7), (by decide : Int32.toInt 8 = 8), (by decide : Int32.toInt 9 = 9)] at e13 e16 e19; omega)] at hr22
            subst hr22
            refine j_if_neF (pc := 18) C (tgt := 42) d_Model_common_18 (by decide) (by decide) ?_
            refine j_iload_n (pc := 21) C d_Model_common_21 rfl 2 rfl ?_
            refine j_bipush (pc := 22) C (v := 9) d_Model_common_22 (by decide) ?_
            refine j_icmp_eqF (pc := 24) C (tgt := 42) d_Model_common_24 (by decide) e19 ?_
            refine j_aload_n (pc := 27) C d_Model_common_27 rfl 0 rfl ?_
            refine j_iload_n (pc := 28) C d_Model_common_28 rfl 2 rfl ?_
            refine j_bipush (pc := 29) C (v := 10) d_Model_common_29 (by decide) ?_
            refine j_isub (pc := 31) C (v := w - 10) d_Model_common_31 rfl ?_
            refine j_callVi (pc := 32) C (c_M_isVillage l D y mo ad 0 0 1 (w - 10)) kw_Model_472 kv_Model_isVillage 0 10 rfl rfl ⟨by decide, by decide⟩ ⟨by decide, by decide⟩ (wr := [(ad 45, .inl (y 0, 14, .inl lakeF)), (ad 68, .inl (y 0, 63, .inl f)), (ad 72, .inl (y 0, 7, .inl powF)), (ad 71, .inl (y 0, 1093, .inl (fun _ => 0))), (ad 70, .inl (y 0, 6558, .inl (fun _ => 0))), (ad 62, .inl (y 0, 63, .inl (dayF 0)))]) [6, 0] [1, 2, 3, 4, 5, 7] rfl rfl (by decide) (by decide) (by decide) (As := [.int (w - 10)]) (rest := []) rfl (nb rfl) rfl d_Model_common_32 (fun r23 _ hr23 => ?_)
            subst hr23
            refine j_ws (ws' := [(ad 45, .inl (y 0, 14, .inl lakeF)), (ad 68, .inl (y 0, 63, .inl f)), (ad 72, .inl (y 0, 7, .inl powF)), (ad 71, .inl (y 0, 1093, .inl (fun _ => 0))), (ad 70, .inl (y 0, 6558, .inl (fun _ => 0))), (ad 62, .inl (y 0, 63, .inl (dayF 0))), MB mo ad 0 0 0 0 0 0 0 (-1) 0 0 0 0 0 0 0 0 0 0 1 0, (ad 43, .inl (y 0, 8, .inl (fun _ => 0)))]) rfl ?_
            refine j_st (st' := [.int 0]) rfl ?_
            refine j_if_neF (pc := 35) C (tgt := 42) d_Model_common_35 (by decide) (by decide) ?_
            refine j_ldcw (pc := 38) C (v := (-1000000000)) (mt_7 (List.mem_of_getElem? (i := 94) rfl) rfl) d_Model_common_38 ?_
            exact j_iret (pc := 41) C hr rfl () (by simp only [Int32.lt_iff_toInt_lt, Int32.le_iff_toInt_le, ← Int32.toInt_inj, (by decide : Int32.toInt 0 = 0), (by decide : Int32.toInt 1 = 1), (by decide : Int32.toInt 2 = 2), (by decide : Int32.toInt 3 = 3), (by decide : Int32.toInt 4 = 4), (by decide : Int32.toInt 5 = 5), (by decide : Int32.toInt 6 = 6), (by decide : Int32.toInt 7 = 7), (by decide : Int32.toInt 8 = 8), (by decide : Int32.toInt 9 = 9)] at e1 e13 e16 e19 ⊢; rw [if_neg (by omega)]) [] rfl (by decide) (by decide) (by decide) d_Model_common_41
    · by_cases e24 : n = 3
      · subst e24
        refine j_aload_n (pc := 0) C d_Model_common_0 rfl 0 rfl ?_
        refine j_iload_n (pc := 1) C d_Model_common_1 rfl 1 rfl ?_
        refine j_callVi (pc := 2) C (c_M_canPlan_3 l D y mo ad) kw_Model_519 kv_Model_canPlan 0 10 rfl rfl ⟨by decide, by decide⟩ ⟨by decide, by decide⟩ (wr := [(ad 43, .inl (y 0, 8, .inl (fun _ => 0))), (ad 45, .inl (y 0, 14, .inl lakeF)), (ad 68, .inl (y 0, 63, .inl f)), (ad 72, .inl (y 0, 7, .inl powF)), (ad 71, .inl (y 0, 1093, .inl (fun _ => 0))), (ad 70, .inl (y 0, 6558, .inl (fun _ => 0)))]) [0, 2] [1, 3, 4, 5, 6, 7] rfl rfl (by decide) (by decide) (by decide) (As := [.int 3]) (rest := []) rfl (nb rfl) rfl d_Model_common_2 (fun r25 _ hr25 => ?_)
        subst hr25
        refine j_ws (ws' := [(ad 43, .inl (y 0, 8, .inl (fun _ => 0))), (ad 45, .inl (y 0, 14, .inl lakeF)), (ad 68, .inl (y 0, 63, .inl f)), (ad 72, .inl (y 0, 7, .inl powF)), (ad 71, .inl (y 0, 1093, .inl (fun _ => 0))), (ad 70, .inl (y 0, 6558, .inl (fun _ => 0))), MB mo ad 0 0 0 0 0 0 0 (-1) 0 0 0 0 0 0 0 0 0 0 1 0, (ad 62, .inl (y 0, 63, .inl (dayF 0)))]) rfl ?_
        refine j_st (st' := [.int 1]) rfl ?_
        refine j_if_eqF (pc := 5) C (tgt := 38) d_Model_common_5 (by decide) (by decide) ?_
        by_cases e26 : w = 0
        · subst e26
          refine j_iload_n (pc := 8) C d_Model_common_8 rfl 2 rfl ?_
          refine j_i2l (pc := 9) C (v := 0) d_Model_common_9 (by decide) ?_
          refine j_lconst (pc := 10) C (v := 0) d_Model_common_10 (by decide) ?_
          refine j_iload_n (pc := 11) C d_Model_common_11 rfl 1 rfl ?_
          refine j_iconst (pc := 12) C (v := 1) d_Model_common_12 (by decide) ?_
          refine j_isub (pc := 13) C (v := 2) d_Model_common_13 (by decide) ?_
          refine j_i2l (pc := 14) C (v := 2) d_Model_common_14 (by decide) ?_
          refine j_callSi (pc := 15) C (c_isIn_c l D y 0 0 2 0 0 2 (by decide) (by decide) (by decide)) kw_Model_240 ks_Model_isIn ⟨by decide, by decide⟩ ⟨by decide, by decide⟩ (wr := [(ad 43, .inl (y 0, 8, .inl (fun _ => 0))), (ad 45, .inl (y 0, 14, .inl lakeF)), (ad 68, .inl (y 0, 63, .inl f)), (ad 72, .inl (y 0, 7, .inl powF)), (ad 71, .inl (y 0, 1093, .inl (fun _ => 0))), (ad 70, .inl (y 0, 6558, .inl (fun _ => 0))), MB mo ad 0 0 0 0 0 0 0 (-1) 0 0 0 0 0 0 0 0 0 0 1 0, (ad 62, .inl (y 0, 63, .inl (dayF 0)))]) [] [0, 1, 2, 3, 4, 5, 6, 7] rfl rfl (by decide) (by decide) (by decide) (As := [.long 0, .long 0, .long 2]) (rest := []) rfl (nb rfl) rfl d_Model_common_15 (fun r27 _ hr27 => ?_)
          refine j_ws (ws' := [(ad 43, .inl (y 0, 8, .inl (fun _ => 0))), (ad 45, .inl (y 0, 14, .inl lakeF)), (ad 68, .inl (y 0, 63, .inl f)), (ad 72, .inl (y 0, 7, .inl powF)), (ad 71, .inl (y 0, 1093, .inl (fun _ => 0))), (ad 70, .inl (y 0, 6558, .inl (fun _ => 0))), MB mo ad 0 0 0 0 0 0 0 (-1) 0 0 0 0 0 0 0 0 0 0 1 0, (ad 62, .inl (y 0, 63, .inl (dayF 0)))]) rfl ?_
          rw [if_pos (by decide)] at hr27
          subst hr27
          refine j_if_neT (pc := 18) C (tgt := 42) d_Model_common_18 (by decide) (by decide) ?_
          refine j_aload_n (pc := 42) C d_Model_common_42 rfl 0 rfl ?_
          refine j_iload_n (pc := 43) C d_Model_common_43 rfl 1 rfl ?_
          refine j_iconst (pc := 44) C (v := 1) d_Model_common_44 (by decide) ?_
          refine j_st (st' := [.int 1, .int (nI (2 + 1)), .ref mo]) rfl ?_
          refine j_callVv (pc := 45) C (c_M_plans l D y mo ad 2 1 f (by decide)) kw_Model_522 kv_Model_plans 0 10 rfl rfl ⟨by decide, by decide⟩ ⟨by decide, by decide⟩ (wr := []) [6, 0, 7, 1, 2, 3, 4, 5] [] rfl rfl (by decide) (by decide) (by decide) (As := [.int (nI (2 + 1)), .int 1]) (rest := []) rfl (nb rfl) rfl d_Model_common_45 (fun _ _ => ?_)
          refine j_ws (ws' := [MB mo ad 0 0 0 0 0 0 0 (-1) 0 0 0 0 0 0 0 0 0 0 1 0, (ad 43, .inl (y 0, 8, .inl (fun _ => 0))), (ad 62, .inl (y 0, 63, .inl (dayF 0))), (ad 45, .inl (y 0, 14, .inl lakeF)), (ad 68, .inl (y 0, 63, .inl (dayF 0))), (ad 72, .inl (y 0, 7, .inl powF)), (ad 71, .inl (y 0, 1093, .inl (fun _ => 0))), (ad 70, .inl (y 0, 6558, .inl (fun _ => 0)))]) rfl ?_
          refine j_iload_n (pc := 48) C d_Model_common_48 rfl 2 rfl ?_
          refine j_iload_n (pc := 49) C d_Model_common_49 rfl 1 rfl ?_
          refine j_icmp_geF (pc := 50) C (tgt := 61) d_Model_common_50 (by decide) (by decide) ?_
          refine j_aload_n (pc := 53) C d_Model_common_53 rfl 0 rfl ?_
          refine j_iload_n (pc := 54) C d_Model_common_54 rfl 2 rfl ?_
          refine j_callVi (pc := 55) C (c_M_actOf_0 l D y mo ad) kw_Model_525 kv_Model_actOf 0 10 rfl rfl ⟨by decide, by decide⟩ ⟨by decide, by decide⟩ (wr := [(ad 43, .inl (y 0, 8, .inl (fun _ => 0))), (ad 62, .inl (y 0, 63, .inl (dayF 0))), (ad 45, .inl (y 0, 14, .inl lakeF)), (ad 68, .inl (y 0, 63, .inl (dayF 0))), (ad 70, .inl (y 0, 6558, .inl (fun _ => 0)))]) [0, 5, 6] [1, 2, 3, 4, 7] rfl rfl (by decide) (by decide) (by decide) (As := [.int 0]) (rest := []) rfl (nb rfl) rfl d_Model_common_55 (fun r28 _ hr28 => ?_)
          subst hr28
          refine j_ws (ws' := [(ad 43, .inl (y 0, 8, .inl (fun _ => 0))), (ad 62, .inl (y 0, 63, .inl (dayF 0))), (ad 45, .inl (y 0, 14, .inl lakeF)), (ad 68, .inl (y 0, 63, .inl (dayF 0))), (ad 70, .inl (y 0, 6558, .inl (fun _ => 0)))]) rfl ?_
          refine j_st (st' := [.int 0]) rfl ?_
          refine j_goto (pc := 58) C (tgt := 83) d_Model_common_58 (by decide) ?_
          exact j_iret (pc := 83) C hr rfl () (by decide) [] rfl (by decide) (by decide) (by decide) d_Model_common_83
        · by_cases e29 : w = 1
          · subst e29
            refine j_iload_n (pc := 8) C d_Model_common_8 rfl 2 rfl ?_
            refine j_i2l (pc := 9) C (v := 1) d_Model_common_9 (by decide) ?_
            refine j_lconst (pc := 10) C (v := 0) d_Model_common_10 (by decide) ?_
            refine j_iload_n (pc := 11) C d_Model_common_11 rfl 1 rfl ?_
            refine j_iconst (pc := 12) C (v := 1) d_Model_common_12 (by decide) ?_
            refine j_isub (pc := 13) C (v := 2) d_Model_common_13 (by decide) ?_
            refine j_i2l (pc := 14) C (v := 2) d_Model_common_14 (by decide) ?_
            refine j_callSi (pc := 15) C (c_isIn_c l D y 1 0 2 1 0 2 (by decide) (by decide) (by decide)) kw_Model_240 ks_Model_isIn ⟨by decide, by decide⟩ ⟨by decide, by decide⟩ (wr := [(ad 43, .inl (y 0, 8, .inl (fun _ => 0))), (ad 45, .inl (y 0, 14, .inl lakeF)), (ad 68, .inl (y 0, 63, .inl f)), (ad 72, .inl (y 0, 7, .inl powF)), (ad 71, .inl (y 0, 1093, .inl (fun _ => 0))), (ad 70, .inl (y 0, 6558, .inl (fun _ => 0))), MB mo ad 0 0 0 0 0 0 0 (-1) 0 0 0 0 0 0 0 0 0 0 1 0, (ad 62, .inl (y 0, 63, .inl (dayF 0)))]) [] [0, 1, 2, 3, 4, 5, 6, 7] rfl rfl (by decide) (by decide) (by decide) (As := [.long 1, .long 0, .long 2]) (rest := []) rfl (nb rfl) rfl d_Model_common_15 (fun r30 _ hr30 => ?_)
            refine j_ws (ws' := [(ad 43, .inl (y 0, 8, .inl (fun _ => 0))), (ad 45, .inl (y 0, 14, .inl lakeF)), (ad 68, .inl (y 0, 63, .inl f)), (ad 72, .inl (y 0, 7, .inl powF)), (ad 71, .inl (y 0, 1093, .inl (fun _ => 0))), (ad 70, .inl (y 0, 6558, .inl (fun _ => 0))), MB mo ad 0 0 0 0 0 0 0 (-1) 0 0 0 0 0 0 0 0 0 0 1 0, (ad 62, .inl (y 0, 63, .inl (dayF 0)))]) rfl ?_
            rw [if_pos (by decide)] at hr30
            subst hr30
            refine j_if_neT (pc := 18) C (tgt := 42) d_Model_common_18 (by decide) (by decide) ?_
            refine j_aload_n (pc := 42) C d_Model_common_42 rfl 0 rfl ?_
            refine j_iload_n (pc := 43) C d_Model_common_43 rfl 1 rfl ?_
            refine j_iconst (pc := 44) C (v := 1) d_Model_common_44 (by decide) ?_
            refine j_st (st' := [.int 1, .int (nI (2 + 1)), .ref mo]) rfl ?_
            refine j_callVv (pc := 45) C (c_M_plans l D y mo ad 2 1 f (by decide)) kw_Model_522 kv_Model_plans 0 10 rfl rfl ⟨by decide, by decide⟩ ⟨by decide, by decide⟩ (wr := []) [6, 0, 7, 1, 2, 3, 4, 5] [] rfl rfl (by decide) (by decide) (by decide) (As := [.int (nI (2 + 1)), .int 1]) (rest := []) rfl (nb rfl) rfl d_Model_common_45 (fun _ _ => ?_)
            refine j_ws (ws' := [MB mo ad 0 0 0 0 0 0 0 (-1) 0 0 0 0 0 0 0 0 0 0 1 0, (ad 43, .inl (y 0, 8, .inl (fun _ => 0))), (ad 62, .inl (y 0, 63, .inl (dayF 0))), (ad 45, .inl (y 0, 14, .inl lakeF)), (ad 68, .inl (y 0, 63, .inl (dayF 0))), (ad 72, .inl (y 0, 7, .inl powF)), (ad 71, .inl (y 0, 1093, .inl (fun _ => 0))), (ad 70, .inl (y 0, 6558, .inl (fun _ => 0)))]) rfl ?_
            refine j_iload_n (pc := 48) C d_Model_common_48 rfl 2 rfl ?_
            refine j_iload_n (pc := 49) C d_Model_common_49 rfl 1 rfl ?_
            refine j_icmp_geF (pc := 50) C (tgt := 61) d_Model_common_50 (by decide) (by decide) ?_
            refine j_aload_n (pc := 53) C d_Model_common_53 rfl 0 rfl ?_
            refine j_iload_n (pc := 54) C d_Model_common_54 rfl 2 rfl ?_
            refine j_callVi (pc := 55) C (c_M_actOf_1 l D y mo ad) kw_Model_525 kv_Model_actOf 0 10 rfl rfl ⟨by decide, by decide⟩ ⟨by decide, by decide⟩ (wr := [(ad 43, .inl (y 0, 8, .inl (fun _ => 0))), (ad 62, .inl (y 0, 63, .inl (dayF 0))), (ad 45, .inl (y 0, 14, .inl lakeF)), (ad 68, .inl (y 0, 63, .inl (dayF 0))), (ad 70, .inl (y 0, 6558, .inl (fun _ => 0)))]) [0, 5, 6] [1, 2, 3, 4, 7] rfl rfl (by decide) (by decide) (by decide) (As := [.int 1]) (rest := []) rfl (nb rfl) rfl d_Model_common_55 (fun r31 _ hr31 => ?_)
            subst hr31
            refine j_ws (ws' := [(ad 43, .inl (y 0, 8, .inl (fun _ => 0))), (ad 62, .inl (y 0, 63, .inl (dayF 0))), (ad 45, .inl (y 0, 14, .inl lakeF)), (ad 68, .inl (y 0, 63, .inl (dayF 0))), (ad 70, .inl (y 0, 6558, .inl (fun _ => 0)))]) rfl ?_
            refine j_st (st' := [.int 0]) rfl ?_
            refine j_goto (pc := 58) C (tgt := 83) d_Model_common_58 (by decide) ?_
            exact j_iret (pc := 83) C hr rfl () (by decide) [] rfl (by decide) (by decide) (by decide) d_Model_common_83
          · by_cases e32 : w = 2
            · subst e32
              refine j_iload_n (pc := 8) C d_Model_common_8 rfl 2 rfl ?_
              refine j_i2l (pc := 9) C (v := 2) d_Model_common_9 (by decide) ?_
              refine j_lconst (pc := 10) C (v := 0) d_Model_common_10 (by decide) ?_
              refine j_iload_n (pc := 11) C d_Model_common_11 rfl 1 rfl ?_
              refine j_iconst (pc := 12) C (v := 1) d_Model_common_12 (by decide) ?_
              refine j_isub (pc := 13) C (v := 2) d_Model_common_13 (by decide) ?_
              refine j_i2l (pc := 14) C (v := 2) d_Model_common_14 (by decide) ?_
              refine j_callSi (pc := 15) C (c_isIn_c l D y 2 0 2 2 0 2 (by decide) (by decide) (by decide)) kw_Model_240 ks_Model_isIn ⟨by decide, by decide⟩ ⟨by decide, by decide⟩ (wr := [(ad 43, .inl (y 0, 8, .inl (fun _ => 0))), (ad 45, .inl (y 0, 14, .inl lakeF)), (ad 68, .inl (y 0, 63, .inl f)), (ad 72, .inl (y 0, 7, .inl powF)), (ad 71, .inl (y 0, 1093, .inl (fun _ => 0))), (ad 70, .inl (y 0, 6558, .inl (fun _ => 0))), MB mo ad 0 0 0 0 0 0 0 (-1) 0 0 0 0 0 0 0 0 0 0 1 0, (ad 62, .inl (y 0, 63, .inl (dayF 0)))]) [] [0, 1, 2, 3, 4, 5, 6, 7] rfl rfl (by decide) (by decide) (by decide) (As := [.long 2, .long 0, .long 2]) (rest := []) rfl (nb rfl) rfl d_Model_common_15 (fun r33 _ hr33 => ?_)
              refine j_ws (ws' := [(ad 43, .inl (y 0, 8, .inl (fun _ => 0))), (ad 45, .inl (y 0, 14, .inl lakeF)), (ad 68, .inl (y 0, 63, .inl f)), (ad 72, .inl (y 0, 7, .inl powF)), (ad 71, .inl (y 0, 1093, .inl (fun _ => 0))), (ad 70, .inl (y 0, 6558, .inl (fun _ => 0))), MB mo ad 0 0 0 0 0 0 0 (-1) 0 0 0 0 0 0 0 0 0 0 1 0, (ad 62, .inl (y 0, 63, .inl (dayF 0)))]) rfl ?_
              rw [if_pos (by decide)] at hr33
              subst hr33
              refine j_if_neT (pc := 18) C (tgt := 42) d_Model_common_18 (by decide) (by decide) ?_
              refine j_aload_n (pc := 42) C d_Model_common_42 rfl 0 rfl ?_
              refine j_iload_n (pc := 43) C d_Model_common_43 rfl 1 rfl ?_
              refine j_iconst (pc := 44) C (v := 1) d_Model_common_44 (by decide) ?_
              refine j_st (st' := [.int 1, .int (nI (2 + 1)), .ref mo]) rfl ?_
              refine j_callVv (pc := 45) C (c_M_plans l D y mo ad 2 1 f (by decide)) kw_Model_522 kv_Model_plans 0 10 rfl rfl ⟨by decide, by decide⟩ ⟨by decide, by decide⟩ (wr := []) [6, 0, 7, 1, 2, 3, 4, 5] [] rfl rfl (by decide) (by decide) (by decide) (As := [.int (nI (2 + 1)), .int 1]) (rest := []) rfl (nb rfl) rfl d_Model_common_45 (fun _ _ => ?_)
              refine j_ws (ws' := [MB mo ad 0 0 0 0 0 0 0 (-1) 0 0 0 0 0 0 0 0 0 0 1 0, (ad 43, .inl (y 0, 8, .inl (fun _ => 0))), (ad 62, .inl (y 0, 63, .inl (dayF 0))), (ad 45, .inl (y 0, 14, .inl lakeF)), (ad 68, .inl (y 0, 63, .inl (dayF 0))), (ad 72, .inl (y 0, 7, .inl powF)), (ad 71, .inl (y 0, 1093, .inl (fun _ => 0))), (ad 70, .inl (y 0, 6558, .inl (fun _ => 0)))]) rfl ?_
              refine j_iload_n (pc := 48) C d_Model_common_48 rfl 2 rfl ?_
              refine j_iload_n (pc := 49) C d_Model_common_49 rfl 1 rfl ?_
              refine j_icmp_geF (pc := 50) C (tgt := 61) d_Model_common_50 (by decide) (by decide) ?_
              refine j_aload_n (pc := 53) C d_Model_common_53 rfl 0 rfl ?_
              refine j_iload_n (pc := 54) C d_Model_common_54 rfl 2 rfl ?_
              refine j_callVi (pc := 55) C (c_M_actOf_2 l D y mo ad) kw_Model_525 kv_Model_actOf 0 10 rfl rfl ⟨by decide, by decide⟩ ⟨by decide, by decide⟩ (wr := [(ad 43, .inl (y 0, 8, .inl (fun _ => 0))), (ad 62, .inl (y 0, 63, .inl (dayF 0))), (ad 45, .inl (y 0, 14, .inl lakeF)), (ad 68, .inl (y 0, 63, .inl (dayF 0))), (ad 70, .inl (y 0, 6558, .inl (fun _ => 0)))]) [0, 5, 6] [1, 2, 3, 4, 7] rfl rfl (by decide) (by decide) (by decide) (As := [.int 2]) (rest := []) rfl (nb rfl) rfl d_Model_common_55 (fun r34 _ hr34 => ?_)
              subst hr34
              refine j_ws (ws' := [(ad 43, .inl (y 0, 8, .inl (fun _ => 0))), (ad 62, .inl (y 0, 63, .inl (dayF 0))), (ad 45, .inl (y 0, 14, .inl lakeF)), (ad 68, .inl (y 0, 63, .inl (dayF 0))), (ad 70, .inl (y 0, 6558, .inl (fun _ => 0)))]) rfl ?_
              refine j_st (st' := [.int 0]) rfl ?_
              refine j_goto (pc := 58) C (tgt := 83) d_Model_common_58 (by decide) ?_
              exact j_iret (pc := 83) C hr rfl () (by decide) [] rfl (by decide) (by decide) (by decide) d_Model_common_83
            · by_cases e35 : w = 9
              · subst e35
                refine j_iload_n (pc := 8) C d_Model_common_8 rfl 2 rfl ?_
                refine j_i2l (pc := 9) C (v := 9) d_Model_common_9 (by decide) ?_
                refine j_lconst (pc := 10) C (v := 0) d_Model_common_10 (by decide) ?_
                refine j_iload_n (pc := 11) C d_Model_common_11 rfl 1 rfl ?_
                refine j_iconst (pc := 12) C (v := 1) d_Model_common_12 (by decide) ?_
                refine j_isub (pc := 13) C (v := 2) d_Model_common_13 (by decide) ?_
                refine j_i2l (pc := 14) C (v := 2) d_Model_common_14 (by decide) ?_
                refine j_callSi (pc := 15) C (c_isIn_c l D y 9 0 2 9 0 2 (by decide) (by decide) (by decide)) kw_Model_240 ks_Model_isIn ⟨by decide, by decide⟩ ⟨by decide, by decide⟩ (wr := [(ad 43, .inl (y 0, 8, .inl (fun _ => 0))), (ad 45, .inl (y 0, 14, .inl lakeF)), (ad 68, .inl (y 0, 63, .inl f)), (ad 72, .inl (y 0, 7, .inl powF)), (ad 71, .inl (y 0, 1093, .inl (fun _ => 0))), (ad 70, .inl (y 0, 6558, .inl (fun _ => 0))), MB mo ad 0 0 0 0 0 0 0 (-1) 0 0 0 0 0 0 0 0 0 0 1 0, (ad 62, .inl (y 0, 63, .inl (dayF 0)))]) [] [0, 1, 2, 3, 4, 5, 6, 7] rfl rfl (by decide) (by decide) (by decide) (As := [.long 9, .long 0, .long 2]) (rest := []) rfl (nb rfl) rfl d_Model_common_15 (fun r36 _ hr36 => ?_)
                refine j_ws (ws' := [(ad 43, .inl (y 0, 8, .inl (fun _ => 0))), (ad 45, .inl (y 0, 14, .inl lakeF)), (ad 68, .inl (y 0, 63, .inl f)), (ad 72, .inl (y 0, 7, .inl powF)), (ad 71, .inl (y 0, 1093, .inl (fun _ => 0))), (ad 70, .inl (y 0, 6558, .inl (fun _ => 0))), MB mo ad 0 0 0 0 0 0 0 (-1) 0 0 0 0 0 0 0 0 0 0 1 0, (ad 62, .inl (y 0, 63, .inl (dayF 0)))]) rfl ?_
                rw [if_neg (by decide)] at hr36
                subst hr36
                refine j_if_neF (pc := 18) C (tgt := 42) d_Model_common_18 (by decide) (by decide) ?_
                refine j_iload_n (pc := 21) C d_Model_common_21 rfl 2 rfl ?_
                refine j_bipush (pc := 22) C (v := 9) d_Model_common_22 (by decide) ?_
                refine j_icmp_eqT (pc := 24) C (tgt := 42) d_Model_common_24 (by decide) (by decide) ?_
                refine j_aload_n (pc := 42) C d_Model_common_42 rfl 0 rfl ?_
                refine j_iload_n (pc := 43) C d_Model_common_43 rfl 1 rfl ?_
                refine j_iconst (pc := 44) C (v := 1) d_Model_common_44 (by decide) ?_
                refine j_st (st' := [.int 1, .int (nI (2 + 1)), .ref mo]) rfl ?_
                refine j_callVv (pc := 45) C (c_M_plans l D y mo ad 2 1 f (by decide)) kw_Model_522 kv_Model_plans 0 10 rfl rfl ⟨by decide, by decide⟩ ⟨by decide, by decide⟩ (wr := []) [6, 0, 7, 1, 2, 3, 4, 5] [] rfl rfl (by decide) (by decide) (by decide) (As := [.int (nI (2 + 1)), .int 1]) (rest := []) rfl (nb rfl) rfl d_Model_common_45 (fun _ _ => ?_)
                refine j_ws (ws' := [MB mo ad 0 0 0 0 0 0 0 (-1) 0 0 0 0 0 0 0 0 0 0 1 0, (ad 43, .inl (y 0, 8, .inl (fun _ => 0))), (ad 62, .inl (y 0, 63, .inl (dayF 0))), (ad 45, .inl (y 0, 14, .inl lakeF)), (ad 68, .inl (y 0, 63, .inl (dayF 0))), (ad 72, .inl (y 0, 7, .inl powF)), (ad 71, .inl (y 0, 1093, .inl (fun _ => 0))), (ad 70, .inl (y 0, 6558, .inl (fun _ => 0)))]) rfl ?_
                refine j_iload_n (pc := 48) C d_Model_common_48 rfl 2 rfl ?_
                refine j_iload_n (pc := 49) C d_Model_common_49 rfl 1 rfl ?_
                refine j_icmp_geT (pc := 50) C (tgt := 61) d_Model_common_50 (by decide) (by decide) ?_
                refine j_iload_n (pc := 61) C d_Model_common_61 rfl 2 rfl ?_
                refine j_bipush (pc := 62) C (v := 9) d_Model_common_62 (by decide) ?_
                refine j_icmp_neF (pc := 64) C (tgt := 74) d_Model_common_64 (by decide) (by decide) ?_
                refine j_aload_n (pc := 67) C d_Model_common_67 rfl 0 rfl ?_
                refine j_callVi (pc := 68) C (c_M_sumOfGets l D y mo ad) kw_Model_528 kv_Model_sumOfGets 0 10 rfl rfl ⟨by decide, by decide⟩ ⟨by decide, by decide⟩ (wr := [(ad 62, .inl (y 0, 63, .inl (dayF 0))), (ad 45, .inl (y 0, 14, .inl lakeF)), (ad 68, .inl (y 0, 63, .inl (dayF 0))), (ad 72, .inl (y 0, 7, .inl powF)), (ad 71, .inl (y 0, 1093, .inl (fun _ => 0))), (ad 70, .inl (y 0, 6558, .inl (fun _ => 0)))]) [0, 1] [2, 3, 4, 5, 6, 7] rfl rfl (by decide) (by decide) (by decide) (As := []) (rest := []) rfl (nb rfl) rfl d_Model_common_68 (fun r37 _ hr37 => ?_)
                subst hr37
                refine j_ws (ws' := [(ad 62, .inl (y 0, 63, .inl (dayF 0))), (ad 45, .inl (y 0, 14, .inl lakeF)), (ad 68, .inl (y 0, 63, .inl (dayF 0))), (ad 72, .inl (y 0, 7, .inl powF)), (ad 71, .inl (y 0, 1093, .inl (fun _ => 0))), (ad 70, .inl (y 0, 6558, .inl (fun _ => 0)))]) rfl ?_
                refine j_st (st' := [.int 0]) rfl ?_
                refine j_goto (pc := 71) C (tgt := 83) d_Model_common_71 (by decide) ?_
                exact j_iret (pc := 83) C hr rfl () (by decide) [] rfl (by decide) (by decide) (by decide) d_Model_common_83
              · refine j_iload_n (pc := 8) C d_Model_common_8 rfl 2 rfl ?_
                refine j_i2l (pc := 9) C (v := w.toInt64) d_Model_common_9 rfl ?_
                refine j_lconst (pc := 10) C (v := 0) d_Model_common_10 (by decide) ?_
                refine j_iload_n (pc := 11) C d_Model_common_11 rfl 1 rfl ?_
                refine j_iconst (pc := 12) C (v := 1) d_Model_common_12 (by decide) ?_
                refine j_isub (pc := 13) C (v := 2) d_Model_common_13 (by decide) ?_
                refine j_i2l (pc := 14) C (v := 2) d_Model_common_14 (by decide) ?_
                refine j_callSi (pc := 15) C (c_isIn_x l D y w 0 2 0 2 (by decide) (by decide)) kw_Model_240 ks_Model_isIn ⟨by decide, by decide⟩ ⟨by decide, by decide⟩ (wr := [(ad 43, .inl (y 0, 8, .inl (fun _ => 0))), (ad 45, .inl (y 0, 14, .inl lakeF)), (ad 68, .inl (y 0, 63, .inl f)), (ad 72, .inl (y 0, 7, .inl powF)), (ad 71, .inl (y 0, 1093, .inl (fun _ => 0))), (ad 70, .inl (y 0, 6558, .inl (fun _ => 0))), MB mo ad 0 0 0 0 0 0 0 (-1) 0 0 0 0 0 0 0 0 0 0 1 0, (ad 62, .inl (y 0, 63, .inl (dayF 0)))]) [] [0, 1, 2, 3, 4, 5, 6, 7] rfl rfl (by decide) (by decide) (by decide) (As := [.long w.toInt64, .long 0, .long 2]) (rest := []) rfl (nb rfl) rfl d_Model_common_15 (fun r38 _ hr38 => ?_)
                refine j_ws (ws' := [(ad 43, .inl (y 0, 8, .inl (fun _ => 0))), (ad 45, .inl (y 0, 14, .inl lakeF)), (ad 68, .inl (y 0, 63, .inl f)), (ad 72, .inl (y 0, 7, .inl powF)), (ad 71, .inl (y 0, 1093, .inl (fun _ => 0))), (ad 70, .inl (y 0, 6558, .inl (fun _ => 0))), MB mo ad 0 0 0 0 0 0 0 (-1) 0 0 0 0 0 0 0 0 0 0 1 0, (ad 62, .inl (y 0, 63, .inl (dayF 0)))]) rfl ?_
                rw [if_neg (by simp only [← Int32.toInt_inj, (by decide : Int32.toInt 0 = 0), (by decide : Int32.toInt 1 = 1), (by decide : Int32.toInt 2 = 2), (by decide : Int32.toInt 3 = 3), (by decide : Int32.toInt 4 = 4), (by decide : Int32.toInt 5 = 5), (by decide : Int32.toInt 6 = 6), (by decide : Int32.toInt 7 = 7), (by decide : Int32.toInt 8 = 8), (by decide : Int32.toInt 9 = 9)] at e26 e29 e32 e35; omega)] at hr38
                subst hr38
                refine j_if_neF (pc := 18) C (tgt := 42) d_Model_common_18 (by decide) (by decide) ?_
                refine j_iload_n (pc := 21) C d_Model_common_21 rfl 2 rfl ?_
                refine j_bipush (pc := 22) C (v := 9) d_Model_common_22 (by decide) ?_
                refine j_icmp_eqF (pc := 24) C (tgt := 42) d_Model_common_24 (by decide) e35 ?_
                refine j_aload_n (pc := 27) C d_Model_common_27 rfl 0 rfl ?_
                refine j_iload_n (pc := 28) C d_Model_common_28 rfl 2 rfl ?_
                refine j_bipush (pc := 29) C (v := 10) d_Model_common_29 (by decide) ?_
                refine j_isub (pc := 31) C (v := w - 10) d_Model_common_31 rfl ?_
                refine j_callVi (pc := 32) C (c_M_isVillage l D y mo ad 0 0 1 (w - 10)) kw_Model_472 kv_Model_isVillage 0 10 rfl rfl ⟨by decide, by decide⟩ ⟨by decide, by decide⟩ (wr := [(ad 45, .inl (y 0, 14, .inl lakeF)), (ad 68, .inl (y 0, 63, .inl f)), (ad 72, .inl (y 0, 7, .inl powF)), (ad 71, .inl (y 0, 1093, .inl (fun _ => 0))), (ad 70, .inl (y 0, 6558, .inl (fun _ => 0))), (ad 62, .inl (y 0, 63, .inl (dayF 0)))]) [6, 0] [1, 2, 3, 4, 5, 7] rfl rfl (by decide) (by decide) (by decide) (As := [.int (w - 10)]) (rest := []) rfl (nb rfl) rfl d_Model_common_32 (fun r39 _ hr39 => ?_)
                subst hr39
                refine j_ws (ws' := [(ad 45, .inl (y 0, 14, .inl lakeF)), (ad 68, .inl (y 0, 63, .inl f)), (ad 72, .inl (y 0, 7, .inl powF)), (ad 71, .inl (y 0, 1093, .inl (fun _ => 0))), (ad 70, .inl (y 0, 6558, .inl (fun _ => 0))), (ad 62, .inl (y 0, 63, .inl (dayF 0))), MB mo ad 0 0 0 0 0 0 0 (-1) 0 0 0 0 0 0 0 0 0 0 1 0, (ad 43, .inl (y 0, 8, .inl (fun _ => 0)))]) rfl ?_
                refine j_st (st' := [.int 0]) rfl ?_
                refine j_if_neF (pc := 35) C (tgt := 42) d_Model_common_35 (by decide) (by decide) ?_
                refine j_ldcw (pc := 38) C (v := (-1000000000)) (mt_7 (List.mem_of_getElem? (i := 94) rfl) rfl) d_Model_common_38 ?_
                exact j_iret (pc := 41) C hr rfl () (by simp only [Int32.lt_iff_toInt_lt, Int32.le_iff_toInt_le, ← Int32.toInt_inj, (by decide : Int32.toInt 0 = 0), (by decide : Int32.toInt 1 = 1), (by decide : Int32.toInt 2 = 2), (by decide : Int32.toInt 3 = 3), (by decide : Int32.toInt 4 = 4), (by decide : Int32.toInt 5 = 5), (by decide : Int32.toInt 6 = 6), (by decide : Int32.toInt 7 = 7), (by decide : Int32.toInt 8 = 8), (by decide : Int32.toInt 9 = 9)] at e1 e11 e26 e29 e32 e35 ⊢; rw [if_neg (by omega)]) [] rfl (by decide) (by decide) (by decide) d_Model_common_41
      · by_cases e40 : n = 4
        · subst e40
          refine j_aload_n (pc := 0) C d_Model_common_0 rfl 0 rfl ?_
          refine j_iload_n (pc := 1) C d_Model_common_1 rfl 1 rfl ?_
          refine j_callVi (pc := 2) C (c_M_canPlan_4 l D y mo ad) kw_Model_519 kv_Model_canPlan 0 10 rfl rfl ⟨by decide, by decide⟩ ⟨by decide, by decide⟩ (wr := [(ad 43, .inl (y 0, 8, .inl (fun _ => 0))), (ad 45, .inl (y 0, 14, .inl lakeF)), (ad 68, .inl (y 0, 63, .inl f)), (ad 72, .inl (y 0, 7, .inl powF)), (ad 71, .inl (y 0, 1093, .inl (fun _ => 0))), (ad 70, .inl (y 0, 6558, .inl (fun _ => 0)))]) [0, 2] [1, 3, 4, 5, 6, 7] rfl rfl (by decide) (by decide) (by decide) (As := [.int 4]) (rest := []) rfl (nb rfl) rfl d_Model_common_2 (fun r41 _ hr41 => ?_)
          subst hr41
          refine j_ws (ws' := [(ad 43, .inl (y 0, 8, .inl (fun _ => 0))), (ad 45, .inl (y 0, 14, .inl lakeF)), (ad 68, .inl (y 0, 63, .inl f)), (ad 72, .inl (y 0, 7, .inl powF)), (ad 71, .inl (y 0, 1093, .inl (fun _ => 0))), (ad 70, .inl (y 0, 6558, .inl (fun _ => 0))), MB mo ad 0 0 0 0 0 0 0 (-1) 0 0 0 0 0 0 0 0 0 0 1 0, (ad 62, .inl (y 0, 63, .inl (dayF 0)))]) rfl ?_
          refine j_st (st' := [.int 1]) rfl ?_
          refine j_if_eqF (pc := 5) C (tgt := 38) d_Model_common_5 (by decide) (by decide) ?_
          by_cases e42 : w = 0
          · subst e42
            refine j_iload_n (pc := 8) C d_Model_common_8 rfl 2 rfl ?_
            refine j_i2l (pc := 9) C (v := 0) d_Model_common_9 (by decide) ?_
            refine j_lconst (pc := 10) C (v := 0) d_Model_common_10 (by decide) ?_
            refine j_iload_n (pc := 11) C d_Model_common_11 rfl 1 rfl ?_
            refine j_iconst (pc := 12) C (v := 1) d_Model_common_12 (by decide) ?_
            refine j_isub (pc := 13) C (v := 3) d_Model_common_13 (by decide) ?_
            refine j_i2l (pc := 14) C (v := 3) d_Model_common_14 (by decide) ?_
            refine j_callSi (pc := 15) C (c_isIn_c l D y 0 0 3 0 0 3 (by decide) (by decide) (by decide)) kw_Model_240 ks_Model_isIn ⟨by decide, by decide⟩ ⟨by decide, by decide⟩ (wr := [(ad 43, .inl (y 0, 8, .inl (fun _ => 0))), (ad 45, .inl (y 0, 14, .inl lakeF)), (ad 68, .inl (y 0, 63, .inl f)), (ad 72, .inl (y 0, 7, .inl powF)), (ad 71, .inl (y 0, 1093, .inl (fun _ => 0))), (ad 70, .inl (y 0, 6558, .inl (fun _ => 0))), MB mo ad 0 0 0 0 0 0 0 (-1) 0 0 0 0 0 0 0 0 0 0 1 0, (ad 62, .inl (y 0, 63, .inl (dayF 0)))]) [] [0, 1, 2, 3, 4, 5, 6, 7] rfl rfl (by decide) (by decide) (by decide) (As := [.long 0, .long 0, .long 3]) (rest := []) rfl (nb rfl) rfl d_Model_common_15 (fun r43 _ hr43 => ?_)
            refine j_ws (ws' := [(ad 43, .inl (y 0, 8, .inl (fun _ => 0))), (ad 45, .inl (y 0, 14, .inl lakeF)), (ad 68, .inl (y 0, 63, .inl f)), (ad 72, .inl (y 0, 7, .inl powF)), (ad 71, .inl (y 0, 1093, .inl (fun _ => 0))), (ad 70, .inl (y 0, 6558, .inl (fun _ => 0))), MB mo ad 0 0 0 0 0 0 0 (-1) 0 0 0 0 0 0 0 0 0 0 1 0, (ad 62, .inl (y 0, 63, .inl (dayF 0)))]) rfl ?_
            rw [if_pos (by decide)] at hr43
            subst hr43
            refine j_if_neT (pc := 18) C (tgt := 42) d_Model_common_18 (by decide) (by decide) ?_
            refine j_aload_n (pc := 42) C d_Model_common_42 rfl 0 rfl ?_
            refine j_iload_n (pc := 43) C d_Model_common_43 rfl 1 rfl ?_
            refine j_iconst (pc := 44) C (v := 1) d_Model_common_44 (by decide) ?_
            refine j_st (st' := [.int 1, .int (nI (3 + 1)), .ref mo]) rfl ?_
            refine j_callVv (pc := 45) C (c_M_plans l D y mo ad 3 1 f (by decide)) kw_Model_522 kv_Model_plans 0 10 rfl rfl ⟨by decide, by decide⟩ ⟨by decide, by decide⟩ (wr := []) [6, 0, 7, 1, 2, 3, 4, 5] [] rfl rfl (by decide) (by decide) (by decide) (As := [.int (nI (3 + 1)), .int 1]) (rest := []) rfl (nb rfl) rfl d_Model_common_45 (fun _ _ => ?_)
            refine j_ws (ws' := [MB mo ad 0 0 0 0 0 0 0 (-1) 0 0 0 0 0 0 0 0 0 0 1 0, (ad 43, .inl (y 0, 8, .inl (fun _ => 0))), (ad 62, .inl (y 0, 63, .inl (dayF 0))), (ad 45, .inl (y 0, 14, .inl lakeF)), (ad 68, .inl (y 0, 63, .inl (dayF 0))), (ad 72, .inl (y 0, 7, .inl powF)), (ad 71, .inl (y 0, 1093, .inl (fun _ => 0))), (ad 70, .inl (y 0, 6558, .inl (fun _ => 0)))]) rfl ?_
            refine j_iload_n (pc := 48) C d_Model_common_48 rfl 2 rfl ?_
            refine j_iload_n (pc := 49) C d_Model_common_49 rfl 1 rfl ?_
            refine j_icmp_geF (pc := 50) C (tgt := 61) d_Model_common_50 (by decide) (by decide) ?_
            refine j_aload_n (pc := 53) C d_Model_common_53 rfl 0 rfl ?_
            refine j_iload_n (pc := 54) C d_Model_common_54 rfl 2 rfl ?_
            refine j_callVi (pc := 55) C (c_M_actOf_0 l D y mo ad) kw_Model_525 kv_Model_actOf 0 10 rfl rfl ⟨by decide, by decide⟩ ⟨by decide, by decide⟩ (wr := [(ad 43, .inl (y 0, 8, .inl (fun _ => 0))), (ad 62, .inl (y 0, 63, .inl (dayF 0))), (ad 45, .inl (y 0, 14, .inl lakeF)), (ad 68, .inl (y 0, 63, .inl (dayF 0))), (ad 70, .inl (y 0, 6558, .inl (fun _ => 0)))]) [0, 5, 6] [1, 2, 3, 4, 7] rfl rfl (by decide) (by decide) (by decide) (As := [.int 0]) (rest := []) rfl (nb rfl) rfl d_Model_common_55 (fun r44 _ hr44 => ?_)
            subst hr44
            refine j_ws (ws' := [(ad 43, .inl (y 0, 8, .inl (fun _ => 0))), (ad 62, .inl (y 0, 63, .inl (dayF 0))), (ad 45, .inl (y 0, 14, .inl lakeF)), (ad 68, .inl (y 0, 63, .inl (dayF 0))), (ad 70, .inl (y 0, 6558, .inl (fun _ => 0)))]) rfl ?_
            refine j_st (st' := [.int 0]) rfl ?_
            refine j_goto (pc := 58) C (tgt := 83) d_Model_common_58 (by decide) ?_
            exact j_iret (pc := 83) C hr rfl () (by decide) [] rfl (by decide) (by decide) (by decide) d_Model_common_83
          · by_cases e45 : w = 1
            · subst e45
              refine j_iload_n (pc := 8) C d_Model_common_8 rfl 2 rfl ?_
              refine j_i2l (pc := 9) C (v := 1) d_Model_common_9 (by decide) ?_
              refine j_lconst (pc := 10) C (v := 0) d_Model_common_10 (by decide) ?_
              refine j_iload_n (pc := 11) C d_Model_common_11 rfl 1 rfl ?_
              refine j_iconst (pc := 12) C (v := 1) d_Model_common_12 (by decide) ?_
              refine j_isub (pc := 13) C (v := 3) d_Model_common_13 (by decide) ?_
              refine j_i2l (pc := 14) C (v := 3) d_Model_common_14 (by decide) ?_
              refine j_callSi (pc := 15) C (c_isIn_c l D y 1 0 3 1 0 3 (by decide) (by decide) (by decide)) kw_Model_240 ks_Model_isIn ⟨by decide, by decide⟩ ⟨by decide, by decide⟩ (wr := [(ad 43, .inl (y 0, 8, .inl (fun _ => 0))), (ad 45, .inl (y 0, 14, .inl lakeF)), (ad 68, .inl (y 0, 63, .inl f)), (ad 72, .inl (y 0, 7, .inl powF)), (ad 71, .inl (y 0, 1093, .inl (fun _ => 0))), (ad 70, .inl (y 0, 6558, .inl (fun _ => 0))), MB mo ad 0 0 0 0 0 0 0 (-1) 0 0 0 0 0 0 0 0 0 0 1 0, (ad 62, .inl (y 0, 63, .inl (dayF 0)))]) [] [0, 1, 2, 3, 4, 5, 6, 7] rfl rfl (by decide) (by decide) (by decide) (As := [.long 1, .long 0, .long 3]) (rest := []) rfl (nb rfl) rfl d_Model_common_15 (fun r46 _ hr46 => ?_)
              refine j_ws (ws' := [(ad 43, .inl (y 0, 8, .inl (fun _ => 0))), (ad 45, .inl (y 0, 14, .inl lakeF)), (ad 68, .inl (y 0, 63, .inl f)), (ad 72, .inl (y 0, 7, .inl powF)), (ad 71, .inl (y 0, 1093, .inl (fun _ => 0))), (ad 70, .inl (y 0, 6558, .inl (fun _ => 0))), MB mo ad 0 0 0 0 0 0 0 (-1) 0 0 0 0 0 0 0 0 0 0 1 0, (ad 62, .inl (y 0, 63, .inl (dayF 0)))]) rfl ?_
              rw [if_pos (by decide)] at hr46
              subst hr46
              refine j_if_neT (pc := 18) C (tgt := 42) d_Model_common_18 (by decide) (by decide) ?_
              refine j_aload_n (pc := 42) C d_Model_common_42 rfl 0 rfl ?_
              refine j_iload_n (pc := 43) C d_Model_common_43 rfl 1 rfl ?_
              refine j_iconst (pc := 44) C (v := 1) d_Model_common_44 (by decide) ?_
              refine j_st (st' := [.int 1, .int (nI (3 + 1)), .ref mo]) rfl ?_
              refine j_callVv (pc := 45) C (c_M_plans l D y mo ad 3 1 f (by decide)) kw_Model_522 kv_Model_plans 0 10 rfl rfl ⟨by decide, by decide⟩ ⟨by decide, by decide⟩ (wr := []) [6, 0, 7, 1, 2, 3, 4, 5] [] rfl rfl (by decide) (by decide) (by decide) (As := [.int (nI (3 + 1)), .int 1]) (rest := []) rfl (nb rfl) rfl d_Model_common_45 (fun _ _ => ?_)
              refine j_ws (ws' := [MB mo ad 0 0 0 0 0 0 0 (-1) 0 0 0 0 0 0 0 0 0 0 1 0, (ad 43, .inl (y 0, 8, .inl (fun _ => 0))), (ad 62, .inl (y 0, 63, .inl (dayF 0))), (ad 45, .inl (y 0, 14, .inl lakeF)), (ad 68, .inl (y 0, 63, .inl (dayF 0))), (ad 72, .inl (y 0, 7, .inl powF)), (ad 71, .inl (y 0, 1093, .inl (fun _ => 0))), (ad 70, .inl (y 0, 6558, .inl (fun _ => 0)))]) rfl ?_
              refine j_iload_n (pc := 48) C d_Model_common_48 rfl 2 rfl ?_
              refine j_iload_n (pc := 49) C d_Model_common_49 rfl 1 rfl ?_
              refine j_icmp_geF (pc := 50) C (tgt := 61) d_Model_common_50 (by decide) (by decide) ?_
              refine j_aload_n (pc := 53) C d_Model_common_53 rfl 0 rfl ?_
              refine j_iload_n (pc := 54) C d_Model_common_54 rfl 2 rfl ?_
              refine j_callVi (pc := 55) C (c_M_actOf_1 l D y mo ad) kw_Model_525 kv_Model_actOf 0 10 rfl rfl ⟨by decide, by decide⟩ ⟨by decide, by decide⟩ (wr := [(ad 43, .inl (y 0, 8, .inl (fun _ => 0))), (ad 62, .inl (y 0, 63, .inl (dayF 0))), (ad 45, .inl (y 0, 14, .inl lakeF)), (ad 68, .inl (y 0, 63, .inl (dayF 0))), (ad 70, .inl (y 0, 6558, .inl (fun _ => 0)))]) [0, 5, 6] [1, 2, 3, 4, 7] rfl rfl (by decide) (by decide) (by decide) (As := [.int 1]) (rest := []) rfl (nb rfl) rfl d_Model_common_55 (fun r47 _ hr47 => ?_)
              subst hr47
              refine j_ws (ws' := [(ad 43, .inl (y 0, 8, .inl (fun _ => 0))), (ad 62, .inl (y 0, 63, .inl (dayF 0))), (ad 45, .inl (y 0, 14, .inl lakeF)), (ad 68, .inl (y 0, 63, .inl (dayF 0))), (ad 70, .inl (y 0, 6558, .inl (fun _ => 0)))]) rfl ?_
              refine j_st (st' := [.int 0]) rfl ?_
              refine j_goto (pc := 58) C (tgt := 83) d_Model_common_58 (by decide) ?_
              exact j_iret (pc := 83) C hr rfl () (by decide) [] rfl (by decide) (by decide) (by decide) d_Model_common_83
            · by_cases e48 : w = 2
              · subst e48
                refine j_iload_n (pc := 8) C d_Model_common_8 rfl 2 rfl ?_
                refine j_i2l (pc := 9) C (v := 2) d_Model_common_9 (by decide) ?_
                refine j_lconst (pc := 10) C (v := 0) d_Model_common_10 (by decide) ?_
                refine j_iload_n (pc := 11) C d_Model_common_11 rfl 1 rfl ?_
                refine j_iconst (pc := 12) C (v := 1) d_Model_common_12 (by decide) ?_
                refine j_isub (pc := 13) C (v := 3) d_Model_common_13 (by decide) ?_
                refine j_i2l (pc := 14) C (v := 3) d_Model_common_14 (by decide) ?_
                refine j_callSi (pc := 15) C (c_isIn_c l D y 2 0 3 2 0 3 (by decide) (by decide) (by decide)) kw_Model_240 ks_Model_isIn ⟨by decide, by decide⟩ ⟨by decide, by decide⟩ (wr := [(ad 43, .inl (y 0, 8, .inl (fun _ => 0))), (ad 45, .inl (y 0, 14, .inl lakeF)), (ad 68, .inl (y 0, 63, .inl f)), (ad 72, .inl (y 0, 7, .inl powF)), (ad 71, .inl (y 0, 1093, .inl (fun _ => 0))), (ad 70, .inl (y 0, 6558, .inl (fun _ => 0))), MB mo ad 0 0 0 0 0 0 0 (-1) 0 0 0 0 0 0 0 0 0 0 1 0, (ad 62, .inl (y 0, 63, .inl (dayF 0)))]) [] [0, 1, 2, 3, 4, 5, 6, 7] rfl rfl (by decide) (by decide) (by decide) (As := [.long 2, .long 0, .long 3]) (rest := []) rfl (nb rfl) rfl d_Model_common_15 (fun r49 _ hr49 => ?_)
                refine j_ws (ws' := [(ad 43, .inl (y 0, 8, .inl (fun _ => 0))), (ad 45, .inl (y 0, 14, .inl lakeF)), (ad 68, .inl (y 0, 63, .inl f)), (ad 72, .inl (y 0, 7, .inl powF)), (ad 71, .inl (y 0, 1093, .inl (fun _ => 0))), (ad 70, .inl (y 0, 6558, .inl (fun _ => 0))), MB mo ad 0 0 0 0 0 0 0 (-1) 0 0 0 0 0 0 0 0 0 0 1 0, (ad 62, .inl (y 0, 63, .inl (dayF 0)))]) rfl ?_
                rw [if_pos (by decide)] at hr49
                subst hr49
                refine j_if_neT (pc := 18) C (tgt := 42) d_Model_common_18 (by decide) (by decide) ?_
                refine j_aload_n (pc := 42) C d_Model_common_42 rfl 0 rfl ?_
                refine j_iload_n (pc := 43) C d_Model_common_43 rfl 1 rfl ?_
                refine j_iconst (pc := 44) C (v := 1) d_Model_common_44 (by decide) ?_
                refine j_st (st' := [.int 1, .int (nI (3 + 1)), .ref mo]) rfl ?_
                refine j_callVv (pc := 45) C (c_M_plans l D y mo ad 3 1 f (by decide)) kw_Model_522 kv_Model_plans 0 10 rfl rfl ⟨by decide, by decide⟩ ⟨by decide, by decide⟩ (wr := []) [6, 0, 7, 1, 2, 3, 4, 5] [] rfl rfl (by decide) (by decide) (by decide) (As := [.int (nI (3 + 1)), .int 1]) (rest := []) rfl (nb rfl) rfl d_Model_common_45 (fun _ _ => ?_)
                refine j_ws (ws' := [MB mo ad 0 0 0 0 0 0 0 (-1) 0 0 0 0 0 0 0 0 0 0 1 0, (ad 43, .inl (y 0, 8, .inl (fun _ => 0))), (ad 62, .inl (y 0, 63, .inl (dayF 0))), (ad 45, .inl (y 0, 14, .inl lakeF)), (ad 68, .inl (y 0, 63, .inl (dayF 0))), (ad 72, .inl (y 0, 7, .inl powF)), (ad 71, .inl (y 0, 1093, .inl (fun _ => 0))), (ad 70, .inl (y 0, 6558, .inl (fun _ => 0)))]) rfl ?_
                refine j_iload_n (pc := 48) C d_Model_common_48 rfl 2 rfl ?_
                refine j_iload_n (pc := 49) C d_Model_common_49 rfl 1 rfl ?_
                refine j_icmp_geF (pc := 50) C (tgt := 61) d_Model_common_50 (by decide) (by decide) ?_
                refine j_aload_n (pc := 53) C d_Model_common_53 rfl 0 rfl ?_
                refine j_iload_n (pc := 54) C d_Model_common_54 rfl 2 rfl ?_
                refine j_callVi (pc := 55) C (c_M_actOf_2 l D y mo ad) kw_Model_525 kv_Model_actOf 0 10 rfl rfl ⟨by decide, by decide⟩ ⟨by decide, by decide⟩ (wr := [(ad 43, .inl (y 0, 8, .inl (fun _ => 0))), (ad 62, .inl (y 0, 63, .inl (dayF 0))), (ad 45, .inl (y 0, 14, .inl lakeF)), (ad 68, .inl (y 0, 63, .inl (dayF 0))), (ad 70, .inl (y 0, 6558, .inl (fun _ => 0)))]) [0, 5, 6] [1, 2, 3, 4, 7] rfl rfl (by decide) (by decide) (by decide) (As := [.int 2]) (rest := []) rfl (nb rfl) rfl d_Model_common_55 (fun r50 _ hr50 => ?_)
                subst hr50
                refine j_ws (ws' := [(ad 43, .inl (y 0, 8, .inl (fun _ => 0))), (ad 62, .inl (y 0, 63, .inl (dayF 0))), (ad 45, .inl (y 0, 14, .inl lakeF)), (ad 68, .inl (y 0, 63, .inl (dayF 0))), (ad 70, .inl (y 0, 6558, .inl (fun _ => 0)))]) rfl ?_
                refine j_st (st' := [.int 0]) rfl ?_
                refine j_goto (pc := 58) C (tgt := 83) d_Model_common_58 (by decide) ?_
                exact j_iret (pc := 83) C hr rfl () (by decide) [] rfl (by decide) (by decide) (by decide) d_Model_common_83
              · by_cases e51 : w = 3
                · subst e51
                  refine j_iload_n (pc := 8) C d_Model_common_8 rfl 2 rfl ?_
                  refine j_i2l (pc := 9) C (v := 3) d_Model_common_9 (by decide) ?_
                  refine j_lconst (pc := 10) C (v := 0) d_Model_common_10 (by decide) ?_
                  refine j_iload_n (pc := 11) C d_Model_common_11 rfl 1 rfl ?_
                  refine j_iconst (pc := 12) C (v := 1) d_Model_common_12 (by decide) ?_
                  refine j_isub (pc := 13) C (v := 3) d_Model_common_13 (by decide) ?_
                  refine j_i2l (pc := 14) C (v := 3) d_Model_common_14 (by decide) ?_
                  refine j_callSi (pc := 15) C (c_isIn_c l D y 3 0 3 3 0 3 (by decide) (by decide) (by decide)) kw_Model_240 ks_Model_isIn ⟨by decide, by decide⟩ ⟨by decide, by decide⟩ (wr := [(ad 43, .inl (y 0, 8, .inl (fun _ => 0))), (ad 45, .inl (y 0, 14, .inl lakeF)), (ad 68, .inl (y 0, 63, .inl f)), (ad 72, .inl (y 0, 7, .inl powF)), (ad 71, .inl (y 0, 1093, .inl (fun _ => 0))), (ad 70, .inl (y 0, 6558, .inl (fun _ => 0))), MB mo ad 0 0 0 0 0 0 0 (-1) 0 0 0 0 0 0 0 0 0 0 1 0, (ad 62, .inl (y 0, 63, .inl (dayF 0)))]) [] [0, 1, 2, 3, 4, 5, 6, 7] rfl rfl (by decide) (by decide) (by decide) (As := [.long 3, .long 0, .long 3]) (rest := []) rfl (nb rfl) rfl d_Model_common_15 (fun r52 _ hr52 => ?_)
                  refine j_ws (ws' := [(ad 43, .inl (y 0, 8, .inl (fun _ => 0))), (ad 45, .inl (y 0, 14, .inl lakeF)), (ad 68, .inl (y 0, 63, .inl f)), (ad 72, .inl (y 0, 7, .inl powF)), (ad 71, .inl (y 0, 1093, .inl (fun _ => 0))), (ad 70, .inl (y 0, 6558, .inl (fun _ => 0))), MB mo ad 0 0 0 0 0 0 0 (-1) 0 0 0 0 0 0 0 0 0 0 1 0, (ad 62, .inl (y 0, 63, .inl (dayF 0)))]) rfl ?_
                  rw [if_pos (by decide)] at hr52
                  subst hr52
                  refine j_if_neT (pc := 18) C (tgt := 42) d_Model_common_18 (by decide) (by decide) ?_
                  refine j_aload_n (pc := 42) C d_Model_common_42 rfl 0 rfl ?_
                  refine j_iload_n (pc := 43) C d_Model_common_43 rfl 1 rfl ?_
                  refine j_iconst (pc := 44) C (v := 1) d_Model_common_44 (by decide) ?_
                  refine j_st (st' := [.int 1, .int (nI (3 + 1)), .ref mo]) rfl ?_
                  refine j_callVv (pc := 45) C (c_M_plans l D y mo ad 3 1 f (by decide)) kw_Model_522 kv_Model_plans 0 10 rfl rfl ⟨by decide, by decide⟩ ⟨by decide, by decide⟩ (wr := []) [6, 0, 7, 1, 2, 3, 4, 5] [] rfl rfl (by decide) (by decide) (by decide) (As := [.int (nI (3 + 1)), .int 1]) (rest := []) rfl (nb rfl) rfl d_Model_common_45 (fun _ _ => ?_)
                  refine j_ws (ws' := [MB mo ad 0 0 0 0 0 0 0 (-1) 0 0 0 0 0 0 0 0 0 0 1 0, (ad 43, .inl (y 0, 8, .inl (fun _ => 0))), (ad 62, .inl (y 0, 63, .inl (dayF 0))), (ad 45, .inl (y 0, 14, .inl lakeF)), (ad 68, .inl (y 0, 63, .inl (dayF 0))), (ad 72, .inl (y 0, 7, .inl powF)), (ad 71, .inl (y 0, 1093, .inl (fun _ => 0))), (ad 70, .inl (y 0, 6558, .inl (fun _ => 0)))]) rfl ?_
                  refine j_iload_n (pc := 48) C d_Model_common_48 rfl 2 rfl ?_
                  refine j_iload_n (pc := 49) C d_Model_common_49 rfl 1 rfl ?_
                  refine j_icmp_geF (pc := 50) C (tgt := 61) d_Model_common_50 (by decide) (by decide) ?_
                  refine j_aload_n (pc := 53) C d_Model_common_53 rfl 0 rfl ?_
                  refine j_iload_n (pc := 54) C d_Model_common_54 rfl 2 rfl ?_
                  refine j_callVi (pc := 55) C (c_M_actOf_3 l D y mo ad) kw_Model_525 kv_Model_actOf 0 10 rfl rfl ⟨by decide, by decide⟩ ⟨by decide, by decide⟩ (wr := [(ad 43, .inl (y 0, 8, .inl (fun _ => 0))), (ad 62, .inl (y 0, 63, .inl (dayF 0))), (ad 45, .inl (y 0, 14, .inl lakeF)), (ad 68, .inl (y 0, 63, .inl (dayF 0))), (ad 70, .inl (y 0, 6558, .inl (fun _ => 0)))]) [0, 5, 6] [1, 2, 3, 4, 7] rfl rfl (by decide) (by decide) (by decide) (As := [.int 3]) (rest := []) rfl (nb rfl) rfl d_Model_common_55 (fun r53 _ hr53 => ?_)
                  subst hr53
                  refine j_ws (ws' := [(ad 43, .inl (y 0, 8, .inl (fun _ => 0))), (ad 62, .inl (y 0, 63, .inl (dayF 0))), (ad 45, .inl (y 0, 14, .inl lakeF)), (ad 68, .inl (y 0, 63, .inl (dayF 0))), (ad 70, .inl (y 0, 6558, .inl (fun _ => 0)))]) rfl ?_
                  refine j_st (st' := [.int 0]) rfl ?_
                  refine j_goto (pc := 58) C (tgt := 83) d_Model_common_58 (by decide) ?_
                  exact j_iret (pc := 83) C hr rfl () (by decide) [] rfl (by decide) (by decide) (by decide) d_Model_common_83
                · by_cases e54 : w = 9
                  · subst e54
                    refine j_iload_n (pc := 8) C d_Model_common_8 rfl 2 rfl ?_
                    refine j_i2l (pc := 9) C (v := 9) d_Model_common_9 (by decide) ?_
                    refine j_lconst (pc := 10) C (v := 0) d_Model_common_10 (by decide) ?_
                    refine j_iload_n (pc := 11) C d_Model_common_11 rfl 1 rfl ?_
                    refine j_iconst (pc := 12) C (v := 1) d_Model_common_12 (by decide) ?_
                    refine j_isub (pc := 13) C (v := 3) d_Model_common_13 (by decide) ?_
                    refine j_i2l (pc := 14) C (v := 3) d_Model_common_14 (by decide) ?_
                    refine j_callSi (pc := 15) C (c_isIn_c l D y 9 0 3 9 0 3 (by decide) (by decide) (by decide)) kw_Model_240 ks_Model_isIn ⟨by decide, by decide⟩ ⟨by decide, by decide⟩ (wr := [(ad 43, .inl (y 0, 8, .inl (fun _ => 0))), (ad 45, .inl (y 0, 14, .inl lakeF)), (ad 68, .inl (y 0, 63, .inl f)), (ad 72, .inl (y 0, 7, .inl powF)), (ad 71, .inl (y 0, 1093, .inl (fun _ => 0))), (ad 70, .inl (y 0, 6558, .inl (fun _ => 0))), MB mo ad 0 0 0 0 0 0 0 (-1) 0 0 0 0 0 0 0 0 0 0 1 0, (ad 62, .inl (y 0, 63, .inl (dayF 0)))]) [] [0, 1, 2, 3, 4, 5, 6, 7] rfl rfl (by decide) (by decide) (by decide) (As := [.long 9, .long 0, .long 3]) (rest := []) rfl (nb rfl) rfl d_Model_common_15 (fun r55 _ hr55 => ?_)
                    refine j_ws (ws' := [(ad 43, .inl (y 0, 8, .inl (fun _ => 0))), (ad 45, .inl (y 0, 14, .inl lakeF)), (ad 68, .inl (y 0, 63, .inl f)), (ad 72, .inl (y 0, 7, .inl powF)), (ad 71, .inl (y 0, 1093, .inl (fun _ => 0))), (ad 70, .inl (y 0, 6558, .inl (fun _ => 0))), MB mo ad 0 0 0 0 0 0 0 (-1) 0 0 0 0 0 0 0 0 0 0 1 0, (ad 62, .inl (y 0, 63, .inl (dayF 0)))]) rfl ?_
                    rw [if_neg (by decide)] at hr55
                    subst hr55
                    refine j_if_neF (pc := 18) C (tgt := 42) d_Model_common_18 (by decide) (by decide) ?_
                    refine j_iload_n (pc := 21) C d_Model_common_21 rfl 2 rfl ?_
                    refine j_bipush (pc := 22) C (v := 9) d_Model_common_22 (by decide) ?_
                    refine j_icmp_eqT (pc := 24) C (tgt := 42) d_Model_common_24 (by decide) (by decide) ?_
                    refine j_aload_n (pc := 42) C d_Model_common_42 rfl 0 rfl ?_
                    refine j_iload_n (pc := 43) C d_Model_common_43 rfl 1 rfl ?_
                    refine j_iconst (pc := 44) C (v := 1) d_Model_common_44 (by decide) ?_
                    refine j_st (st' := [.int 1, .int (nI (3 + 1)), .ref mo]) rfl ?_
                    refine j_callVv (pc := 45) C (c_M_plans l D y mo ad 3 1 f (by decide)) kw_Model_522 kv_Model_plans 0 10 rfl rfl ⟨by decide, by decide⟩ ⟨by decide, by decide⟩ (wr := []) [6, 0, 7, 1, 2, 3, 4, 5] [] rfl rfl (by decide) (by decide) (by decide) (As := [.int (nI (3 + 1)), .int 1]) (rest := []) rfl (nb rfl) rfl d_Model_common_45 (fun _ _ => ?_)
                    refine j_ws (ws' := [MB mo ad 0 0 0 0 0 0 0 (-1) 0 0 0 0 0 0 0 0 0 0 1 0, (ad 43, .inl (y 0, 8, .inl (fun _ => 0))), (ad 62, .inl (y 0, 63, .inl (dayF 0))), (ad 45, .inl (y 0, 14, .inl lakeF)), (ad 68, .inl (y 0, 63, .inl (dayF 0))), (ad 72, .inl (y 0, 7, .inl powF)), (ad 71, .inl (y 0, 1093, .inl (fun _ => 0))), (ad 70, .inl (y 0, 6558, .inl (fun _ => 0)))]) rfl ?_
                    refine j_iload_n (pc := 48) C d_Model_common_48 rfl 2 rfl ?_
                    refine j_iload_n (pc := 49) C d_Model_common_49 rfl 1 rfl ?_
                    refine j_icmp_geT (pc := 50) C (tgt := 61) d_Model_common_50 (by decide) (by decide) ?_
                    refine j_iload_n (pc := 61) C d_Model_common_61 rfl 2 rfl ?_
                    refine j_bipush (pc := 62) C (v := 9) d_Model_common_62 (by decide) ?_
                    refine j_icmp_neF (pc := 64) C (tgt := 74) d_Model_common_64 (by decide) (by decide) ?_
                    refine j_aload_n (pc := 67) C d_Model_common_67 rfl 0 rfl ?_
                    refine j_callVi (pc := 68) C (c_M_sumOfGets l D y mo ad) kw_Model_528 kv_Model_sumOfGets 0 10 rfl rfl ⟨by decide, by decide⟩ ⟨by decide, by decide⟩ (wr := [(ad 62, .inl (y 0, 63, .inl (dayF 0))), (ad 45, .inl (y 0, 14, .inl lakeF)), (ad 68, .inl (y 0, 63, .inl (dayF 0))), (ad 72, .inl (y 0, 7, .inl powF)), (ad 71, .inl (y 0, 1093, .inl (fun _ => 0))), (ad 70, .inl (y 0, 6558, .inl (fun _ => 0)))]) [0, 1] [2, 3, 4, 5, 6, 7] rfl rfl (by decide) (by decide) (by decide) (As := []) (rest := []) rfl (nb rfl) rfl d_Model_common_68 (fun r56 _ hr56 => ?_)
                    subst hr56
                    refine j_ws (ws' := [(ad 62, .inl (y 0, 63, .inl (dayF 0))), (ad 45, .inl (y 0, 14, .inl lakeF)), (ad 68, .inl (y 0, 63, .inl (dayF 0))), (ad 72, .inl (y 0, 7, .inl powF)), (ad 71, .inl (y 0, 1093, .inl (fun _ => 0))), (ad 70, .inl (y 0, 6558, .inl (fun _ => 0)))]) rfl ?_
                    refine j_st (st' := [.int 0]) rfl ?_
                    refine j_goto (pc := 71) C (tgt := 83) d_Model_common_71 (by decide) ?_
                    exact j_iret (pc := 83) C hr rfl () (by decide) [] rfl (by decide) (by decide) (by decide) d_Model_common_83
                  · refine j_iload_n (pc := 8) C d_Model_common_8 rfl 2 rfl ?_
                    refine j_i2l (pc := 9) C (v := w.toInt64) d_Model_common_9 rfl ?_
                    refine j_lconst (pc := 10) C (v := 0) d_Model_common_10 (by decide) ?_
                    refine j_iload_n (pc := 11) C d_Model_common_11 rfl 1 rfl ?_
                    refine j_iconst (pc := 12) C (v := 1) d_Model_common_12 (by decide) ?_
                    refine j_isub (pc := 13) C (v := 3) d_Model_common_13 (by decide) ?_
                    refine j_i2l (pc := 14) C (v := 3) d_Model_common_14 (by decide) ?_
                    refine j_callSi (pc := 15) C (c_isIn_x l D y w 0 3 0 3 (by decide) (by decide)) kw_Model_240 ks_Model_isIn ⟨by decide, by decide⟩ ⟨by decide, by decide⟩ (wr := [(ad 43, .inl (y 0, 8, .inl (fun _ => 0))), (ad 45, .inl (y 0, 14, .inl lakeF)), (ad 68, .inl (y 0, 63, .inl f)), (ad 72, .inl (y 0, 7, .inl powF)), (ad 71, .inl (y 0, 1093, .inl (fun _ => 0))), (ad 70, .inl (y 0, 6558, .inl (fun _ => 0))), MB mo ad 0 0 0 0 0 0 0 (-1) 0 0 0 0 0 0 0 0 0 0 1 0, (ad 62, .inl (y 0, 63, .inl (dayF 0)))]) [] [0, 1, 2, 3, 4, 5, 6, 7] rfl rfl (by decide) (by decide) (by decide) (As := [.long w.toInt64, .long 0, .long 3]) (rest := []) rfl (nb rfl) rfl d_Model_common_15 (fun r57 _ hr57 => ?_)
                    refine j_ws (ws' := [(ad 43, .inl (y 0, 8, .inl (fun _ => 0))), (ad 45, .inl (y 0, 14, .inl lakeF)), (ad 68, .inl (y 0, 63, .inl f)), (ad 72, .inl (y 0, 7, .inl powF)), (ad 71, .inl (y 0, 1093, .inl (fun _ => 0))), (ad 70, .inl (y 0, 6558, .inl (fun _ => 0))), MB mo ad 0 0 0 0 0 0 0 (-1) 0 0 0 0 0 0 0 0 0 0 1 0, (ad 62, .inl (y 0, 63, .inl (dayF 0)))]) rfl ?_
                    rw [if_neg (by simp only [← Int32.toInt_inj, (by decide : Int32.toInt 0 = 0), (by decide : Int32.toInt 1 = 1), (by decide : Int32.toInt 2 = 2), (by decide : Int32.toInt 3 = 3), (by decide : Int32.toInt 4 = 4), (by decide : Int32.toInt 5 = 5), (by decide : Int32.toInt 6 = 6), (by decide : Int32.toInt 7 = 7), (by decide : Int32.toInt 8 = 8), (by decide : Int32.toInt 9 = 9)] at e42 e45 e48 e51 e54; omega)] at hr57
                    subst hr57
                    refine j_if_neF (pc := 18) C (tgt := 42) d_Model_common_18 (by decide) (by decide) ?_
                    refine j_iload_n (pc := 21) C d_Model_common_21 rfl 2 rfl ?_
                    refine j_bipush (pc := 22) C (v := 9) d_Model_common_22 (by decide) ?_
                    refine j_icmp_eqF (pc := 24) C (tgt := 42) d_Model_common_24 (by decide) e54 ?_
                    refine j_aload_n (pc := 27) C d_Model_common_27 rfl 0 rfl ?_
                    refine j_iload_n (pc := 28) C d_Model_common_28 rfl 2 rfl ?_
                    refine j_bipush (pc := 29) C (v := 10) d_Model_common_29 (by decide) ?_
                    refine j_isub (pc := 31) C (v := w - 10) d_Model_common_31 rfl ?_
                    refine j_callVi (pc := 32) C (c_M_isVillage l D y mo ad 0 0 1 (w - 10)) kw_Model_472 kv_Model_isVillage 0 10 rfl rfl ⟨by decide, by decide⟩ ⟨by decide, by decide⟩ (wr := [(ad 45, .inl (y 0, 14, .inl lakeF)), (ad 68, .inl (y 0, 63, .inl f)), (ad 72, .inl (y 0, 7, .inl powF)), (ad 71, .inl (y 0, 1093, .inl (fun _ => 0))), (ad 70, .inl (y 0, 6558, .inl (fun _ => 0))), (ad 62, .inl (y 0, 63, .inl (dayF 0)))]) [6, 0] [1, 2, 3, 4, 5, 7] rfl rfl (by decide) (by decide) (by decide) (As := [.int (w - 10)]) (rest := []) rfl (nb rfl) rfl d_Model_common_32 (fun r58 _ hr58 => ?_)
                    subst hr58
                    refine j_ws (ws' := [(ad 45, .inl (y 0, 14, .inl lakeF)), (ad 68, .inl (y 0, 63, .inl f)), (ad 72, .inl (y 0, 7, .inl powF)), (ad 71, .inl (y 0, 1093, .inl (fun _ => 0))), (ad 70, .inl (y 0, 6558, .inl (fun _ => 0))), (ad 62, .inl (y 0, 63, .inl (dayF 0))), MB mo ad 0 0 0 0 0 0 0 (-1) 0 0 0 0 0 0 0 0 0 0 1 0, (ad 43, .inl (y 0, 8, .inl (fun _ => 0)))]) rfl ?_
                    refine j_st (st' := [.int 0]) rfl ?_
                    refine j_if_neF (pc := 35) C (tgt := 42) d_Model_common_35 (by decide) (by decide) ?_
                    refine j_ldcw (pc := 38) C (v := (-1000000000)) (mt_7 (List.mem_of_getElem? (i := 94) rfl) rfl) d_Model_common_38 ?_
                    exact j_iret (pc := 41) C hr rfl () (by simp only [Int32.lt_iff_toInt_lt, Int32.le_iff_toInt_le, ← Int32.toInt_inj, (by decide : Int32.toInt 0 = 0), (by decide : Int32.toInt 1 = 1), (by decide : Int32.toInt 2 = 2), (by decide : Int32.toInt 3 = 3), (by decide : Int32.toInt 4 = 4), (by decide : Int32.toInt 5 = 5), (by decide : Int32.toInt 6 = 6), (by decide : Int32.toInt 7 = 7), (by decide : Int32.toInt 8 = 8), (by decide : Int32.toInt 9 = 9)] at e1 e11 e24 e42 e45 e48 e51 e54 ⊢; rw [if_neg (by omega)]) [] rfl (by decide) (by decide) (by decide) d_Model_common_41
        · by_cases e59 : n = 5
          · subst e59
            refine j_aload_n (pc := 0) C d_Model_common_0 rfl 0 rfl ?_
            refine j_iload_n (pc := 1) C d_Model_common_1 rfl 1 rfl ?_
            refine j_callVi (pc := 2) C (c_M_canPlan_5 l D y mo ad) kw_Model_519 kv_Model_canPlan 0 10 rfl rfl ⟨by decide, by decide⟩ ⟨by decide, by decide⟩ (wr := [(ad 43, .inl (y 0, 8, .inl (fun _ => 0))), (ad 45, .inl (y 0, 14, .inl lakeF)), (ad 68, .inl (y 0, 63, .inl f)), (ad 72, .inl (y 0, 7, .inl powF)), (ad 71, .inl (y 0, 1093, .inl (fun _ => 0))), (ad 70, .inl (y 0, 6558, .inl (fun _ => 0)))]) [0, 2] [1, 3, 4, 5, 6, 7] rfl rfl (by decide) (by decide) (by decide) (As := [.int 5]) (rest := []) rfl (nb rfl) rfl d_Model_common_2 (fun r60 _ hr60 => ?_)
            subst hr60
            refine j_ws (ws' := [(ad 43, .inl (y 0, 8, .inl (fun _ => 0))), (ad 45, .inl (y 0, 14, .inl lakeF)), (ad 68, .inl (y 0, 63, .inl f)), (ad 72, .inl (y 0, 7, .inl powF)), (ad 71, .inl (y 0, 1093, .inl (fun _ => 0))), (ad 70, .inl (y 0, 6558, .inl (fun _ => 0))), MB mo ad 0 0 0 0 0 0 0 (-1) 0 0 0 0 0 0 0 0 0 0 1 0, (ad 62, .inl (y 0, 63, .inl (dayF 0)))]) rfl ?_
            refine j_st (st' := [.int 1]) rfl ?_
            refine j_if_eqF (pc := 5) C (tgt := 38) d_Model_common_5 (by decide) (by decide) ?_
            by_cases e61 : w = 0
            · subst e61
              refine j_iload_n (pc := 8) C d_Model_common_8 rfl 2 rfl ?_
              refine j_i2l (pc := 9) C (v := 0) d_Model_common_9 (by decide) ?_
              refine j_lconst (pc := 10) C (v := 0) d_Model_common_10 (by decide) ?_
              refine j_iload_n (pc := 11) C d_Model_common_11 rfl 1 rfl ?_
              refine j_iconst (pc := 12) C (v := 1) d_Model_common_12 (by decide) ?_
              refine j_isub (pc := 13) C (v := 4) d_Model_common_13 (by decide) ?_
              refine j_i2l (pc := 14) C (v := 4) d_Model_common_14 (by decide) ?_
              refine j_callSi (pc := 15) C (c_isIn_c l D y 0 0 4 0 0 4 (by decide) (by decide) (by decide)) kw_Model_240 ks_Model_isIn ⟨by decide, by decide⟩ ⟨by decide, by decide⟩ (wr := [(ad 43, .inl (y 0, 8, .inl (fun _ => 0))), (ad 45, .inl (y 0, 14, .inl lakeF)), (ad 68, .inl (y 0, 63, .inl f)), (ad 72, .inl (y 0, 7, .inl powF)), (ad 71, .inl (y 0, 1093, .inl (fun _ => 0))), (ad 70, .inl (y 0, 6558, .inl (fun _ => 0))), MB mo ad 0 0 0 0 0 0 0 (-1) 0 0 0 0 0 0 0 0 0 0 1 0, (ad 62, .inl (y 0, 63, .inl (dayF 0)))]) [] [0, 1, 2, 3, 4, 5, 6, 7] rfl rfl (by decide) (by decide) (by decide) (As := [.long 0, .long 0, .long 4]) (rest := []) rfl (nb rfl) rfl d_Model_common_15 (fun r62 _ hr62 => ?_)
              refine j_ws (ws' := [(ad 43, .inl (y 0, 8, .inl (fun _ => 0))), (ad 45, .inl (y 0, 14, .inl lakeF)), (ad 68, .inl (y 0, 63, .inl f)), (ad 72, .inl (y 0, 7, .inl powF)), (ad 71, .inl (y 0, 1093, .inl (fun _ => 0))), (ad 70, .inl (y 0, 6558, .inl (fun _ => 0))), MB mo ad 0 0 0 0 0 0 0 (-1) 0 0 0 0 0 0 0 0 0 0 1 0, (ad 62, .inl (y 0, 63, .inl (dayF 0)))]) rfl ?_
              rw [if_pos (by decide)] at hr62
              subst hr62
              refine j_if_neT (pc := 18) C (tgt := 42) d_Model_common_18 (by decide) (by decide) ?_
              refine j_aload_n (pc := 42) C d_Model_common_42 rfl 0 rfl ?_
              refine j_iload_n (pc := 43) C d_Model_common_43 rfl 1 rfl ?_
              refine j_iconst (pc := 44) C (v := 1) d_Model_common_44 (by decide) ?_
              refine j_st (st' := [.int 1, .int (nI (4 + 1)), .ref mo]) rfl ?_
              refine j_callVv (pc := 45) C (c_M_plans l D y mo ad 4 1 f (by decide)) kw_Model_522 kv_Model_plans 0 10 rfl rfl ⟨by decide, by decide⟩ ⟨by decide, by decide⟩ (wr := []) [6, 0, 7, 1, 2, 3, 4, 5] [] rfl rfl (by decide) (by decide) (by decide) (As := [.int (nI (4 + 1)), .int 1]) (rest := []) rfl (nb rfl) rfl d_Model_common_45 (fun _ _ => ?_)
              refine j_ws (ws' := [MB mo ad 0 0 0 0 0 0 0 (-1) 0 0 0 0 0 0 0 0 0 0 1 0, (ad 43, .inl (y 0, 8, .inl (fun _ => 0))), (ad 62, .inl (y 0, 63, .inl (dayF 0))), (ad 45, .inl (y 0, 14, .inl lakeF)), (ad 68, .inl (y 0, 63, .inl (dayF 0))), (ad 72, .inl (y 0, 7, .inl powF)), (ad 71, .inl (y 0, 1093, .inl (fun _ => 0))), (ad 70, .inl (y 0, 6558, .inl (fun _ => 0)))]) rfl ?_
              refine j_iload_n (pc := 48) C d_Model_common_48 rfl 2 rfl ?_
              refine j_iload_n (pc := 49) C d_Model_common_49 rfl 1 rfl ?_
              refine j_icmp_geF (pc := 50) C (tgt := 61) d_Model_common_50 (by decide) (by decide) ?_
              refine j_aload_n (pc := 53) C d_Model_common_53 rfl 0 rfl ?_
              refine j_iload_n (pc := 54) C d_Model_common_54 rfl 2 rfl ?_
              refine j_callVi (pc := 55) C (c_M_actOf_0 l D y mo ad) kw_Model_525 kv_Model_actOf 0 10 rfl rfl ⟨by decide, by decide⟩ ⟨by decide, by decide⟩ (wr := [(ad 43, .inl (y 0, 8, .inl (fun _ => 0))), (ad 62, .inl (y 0, 63, .inl (dayF 0))), (ad 45, .inl (y 0, 14, .inl lakeF)), (ad 68, .inl (y 0, 63, .inl (dayF 0))), (ad 70, .inl (y 0, 6558, .inl (fun _ => 0)))]) [0, 5, 6] [1, 2, 3, 4, 7] rfl rfl (by decide) (by decide) (by decide) (As := [.int 0]) (rest := []) rfl (nb rfl) rfl d_Model_common_55 (fun r63 _ hr63 => ?_)
              subst hr63
              refine j_ws (ws' := [(ad 43, .inl (y 0, 8, .inl (fun _ => 0))), (ad 62, .inl (y 0, 63, .inl (dayF 0))), (ad 45, .inl (y 0, 14, .inl lakeF)), (ad 68, .inl (y 0, 63, .inl (dayF 0))), (ad 70, .inl (y 0, 6558, .inl (fun _ => 0)))]) rfl ?_
              refine j_st (st' := [.int 0]) rfl ?_
              refine j_goto (pc := 58) C (tgt := 83) d_Model_common_58 (by decide) ?_
              exact j_iret (pc := 83) C hr rfl () (by decide) [] rfl (by decide) (by decide) (by decide) d_Model_common_83
            · by_cases e64 : w = 1
              · subst e64
                refine j_iload_n (pc := 8) C d_Model_common_8 rfl 2 rfl ?_
                refine j_i2l (pc := 9) C (v := 1) d_Model_common_9 (by decide) ?_
                refine j_lconst (pc := 10) C (v := 0) d_Model_common_10 (by decide) ?_
                refine j_iload_n (pc := 11) C d_Model_common_11 rfl 1 rfl ?_
                refine j_iconst (pc := 12) C (v := 1) d_Model_common_12 (by decide) ?_
                refine j_isub (pc := 13) C (v := 4) d_Model_common_13 (by decide) ?_
                refine j_i2l (pc := 14) C (v := 4) d_Model_common_14 (by decide) ?_
                refine j_callSi (pc := 15) C (c_isIn_c l D y 1 0 4 1 0 4 (by decide) (by decide) (by decide)) kw_Model_240 ks_Model_isIn ⟨by decide, by decide⟩ ⟨by decide, by decide⟩ (wr := [(ad 43, .inl (y 0, 8, .inl (fun _ => 0))), (ad 45, .inl (y 0, 14, .inl lakeF)), (ad 68, .inl (y 0, 63, .inl f)), (ad 72, .inl (y 0, 7, .inl powF)), (ad 71, .inl (y 0, 1093, .inl (fun _ => 0))), (ad 70, .inl (y 0, 6558, .inl (fun _ => 0))), MB mo ad 0 0 0 0 0 0 0 (-1) 0 0 0 0 0 0 0 0 0 0 1 0, (ad 62, .inl (y 0, 63, .inl (dayF 0)))]) [] [0, 1, 2, 3, 4, 5, 6, 7] rfl rfl (by decide) (by decide) (by decide) (As := [.long 1, .long 0, .long 4]) (rest := []) rfl (nb rfl) rfl d_Model_common_15 (fun r65 _ hr65 => ?_)
                refine j_ws (ws' := [(ad 43, .inl (y 0, 8, .inl (fun _ => 0))), (ad 45, .inl (y 0, 14, .inl lakeF)), (ad 68, .inl (y 0, 63, .inl f)), (ad 72, .inl (y 0, 7, .inl powF)), (ad 71, .inl (y 0, 1093, .inl (fun _ => 0))), (ad 70, .inl (y 0, 6558, .inl (fun _ => 0))), MB mo ad 0 0 0 0 0 0 0 (-1) 0 0 0 0 0 0 0 0 0 0 1 0, (ad 62, .inl (y 0, 63, .inl (dayF 0)))]) rfl ?_
                rw [if_pos (by decide)] at hr65
                subst hr65
                refine j_if_neT (pc := 18) C (tgt := 42) d_Model_common_18 (by decide) (by decide) ?_
                refine j_aload_n (pc := 42) C d_Model_common_42 rfl 0 rfl ?_
                refine j_iload_n (pc := 43) C d_Model_common_43 rfl 1 rfl ?_
                refine j_iconst (pc := 44) C (v := 1) d_Model_common_44 (by decide) ?_
                refine j_st (st' := [.int 1, .int (nI (4 + 1)), .ref mo]) rfl ?_
                refine j_callVv (pc := 45) C (c_M_plans l D y mo ad 4 1 f (by decide)) kw_Model_522 kv_Model_plans 0 10 rfl rfl ⟨by decide, by decide⟩ ⟨by decide, by decide⟩ (wr := []) [6, 0, 7, 1, 2, 3, 4, 5] [] rfl rfl (by decide) (by decide) (by decide) (As := [.int (nI (4 + 1)), .int 1]) (rest := []) rfl (nb rfl) rfl d_Model_common_45 (fun _ _ => ?_)
                refine j_ws (ws' := [MB mo ad 0 0 0 0 0 0 0 (-1) 0 0 0 0 0 0 0 0 0 0 1 0, (ad 43, .inl (y 0, 8, .inl (fun _ => 0))), (ad 62, .inl (y 0, 63, .inl (dayF 0))), (ad 45, .inl (y 0, 14, .inl lakeF)), (ad 68, .inl (y 0, 63, .inl (dayF 0))), (ad 72, .inl (y 0, 7, .inl powF)), (ad 71, .inl (y 0, 1093, .inl (fun _ => 0))), (ad 70, .inl (y 0, 6558, .inl (fun _ => 0)))]) rfl ?_
                refine j_iload_n (pc := 48) C d_Model_common_48 rfl 2 rfl ?_
                refine j_iload_n (pc := 49) C d_Model_common_49 rfl 1 rfl ?_
                refine j_icmp_geF (pc := 50) C (tgt := 61) d_Model_common_50 (by decide) (by decide) ?_
                refine j_aload_n (pc := 53) C d_Model_common_53 rfl 0 rfl ?_
                refine j_iload_n (pc := 54) C d_Model_common_54 rfl 2 rfl ?_
                refine j_callVi (pc := 55) C (c_M_actOf_1 l D y mo ad) kw_Model_525 kv_Model_actOf 0 10 rfl rfl ⟨by decide, by decide⟩ ⟨by decide, by decide⟩ (wr := [(ad 43, .inl (y 0, 8, .inl (fun _ => 0))), (ad 62, .inl (y 0, 63, .inl (dayF 0))), (ad 45, .inl (y 0, 14, .inl lakeF)), (ad 68, .inl (y 0, 63, .inl (dayF 0))), (ad 70, .inl (y 0, 6558, .inl (fun _ => 0)))]) [0, 5, 6] [1, 2, 3, 4, 7] rfl rfl (by decide) (by decide) (by decide) (As := [.int 1]) (rest := []) rfl (nb rfl) rfl d_Model_common_55 (fun r66 _ hr66 => ?_)
                subst hr66
                refine j_ws (ws' := [(ad 43, .inl (y 0, 8, .inl (fun _ => 0))), (ad 62, .inl (y 0, 63, .inl (dayF 0))), (ad 45, .inl (y 0, 14, .inl lakeF)), (ad 68, .inl (y 0, 63, .inl (dayF 0))), (ad 70, .inl (y 0, 6558, .inl (fun _ => 0)))]) rfl ?_
                refine j_st (st' := [.int 0]) rfl ?_
                refine j_goto (pc := 58) C (tgt := 83) d_Model_common_58 (by decide) ?_
                exact j_iret (pc := 83) C hr rfl () (by decide) [] rfl (by decide) (by decide) (by decide) d_Model_common_83
              · by_cases e67 : w = 2
                · subst e67
                  refine j_iload_n (pc := 8) C d_Model_common_8 rfl 2 rfl ?_
                  refine j_i2l (pc := 9) C (v := 2) d_Model_common_9 (by decide) ?_
                  refine j_lconst (pc := 10) C (v := 0) d_Model_common_10 (by decide) ?_
                  refine j_iload_n (pc := 11) C d_Model_common_11 rfl 1 rfl ?_
                  refine j_iconst (pc := 12) C (v := 1) d_Model_common_12 (by decide) ?_
                  refine j_isub (pc := 13) C (v := 4) d_Model_common_13 (by decide) ?_
                  refine j_i2l (pc := 14) C (v := 4) d_Model_common_14 (by decide) ?_
                  refine j_callSi (pc := 15) C (c_isIn_c l D y 2 0 4 2 0 4 (by decide) (by decide) (by decide)) kw_Model_240 ks_Model_isIn ⟨by decide, by decide⟩ ⟨by decide, by decide⟩ (wr := [(ad 43, .inl (y 0, 8, .inl (fun _ => 0))), (ad 45, .inl (y 0, 14, .inl lakeF)), (ad 68, .inl (y 0, 63, .inl f)), (ad 72, .inl (y 0, 7, .inl powF)), (ad 71, .inl (y 0, 1093, .inl (fun _ => 0))), (ad 70, .inl (y 0, 6558, .inl (fun _ => 0))), MB mo ad 0 0 0 0 0 0 0 (-1) 0 0 0 0 0 0 0 0 0 0 1 0, (ad 62, .inl (y 0, 63, .inl (dayF 0)))]) [] [0, 1, 2, 3, 4, 5, 6, 7] rfl rfl (by decide) (by decide) (by decide) (As := [.long 2, .long 0, .long 4]) (rest := []) rfl (nb rfl) rfl d_Model_common_15 (fun r68 _ hr68 => ?_)
                  refine j_ws (ws' := [(ad 43, .inl (y 0, 8, .inl (fun _ => 0))), (ad 45, .inl (y 0, 14, .inl lakeF)), (ad 68, .inl (y 0, 63, .inl f)), (ad 72, .inl (y 0, 7, .inl powF)), (ad 71, .inl (y 0, 1093, .inl (fun _ => 0))), (ad 70, .inl (y 0, 6558, .inl (fun _ => 0))), MB mo ad 0 0 0 0 0 0 0 (-1) 0 0 0 0 0 0 0 0 0 0 1 0, (ad 62, .inl (y 0, 63, .inl (dayF 0)))]) rfl ?_
                  rw [if_pos (by decide)] at hr68
                  subst hr68
                  refine j_if_neT (pc := 18) C (tgt := 42) d_Model_common_18 (by decide) (by decide) ?_
                  refine j_aload_n (pc := 42) C d_Model_common_42 rfl 0 rfl ?_
                  refine j_iload_n (pc := 43) C d_Model_common_43 rfl 1 rfl ?_
                  refine j_iconst (pc := 44) C (v := 1) d_Model_common_44 (by decide) ?_
                  refine j_st (st' := [.int 1, .int (nI (4 + 1)), .ref mo]) rfl ?_
                  refine j_callVv (pc := 45) C (c_M_plans l D y mo ad 4 1 f (by decide)) kw_Model_522 kv_Model_plans 0 10 rfl rfl ⟨by decide, by decide⟩ ⟨by decide, by decide⟩ (wr := []) [6, 0, 7, 1, 2, 3, 4, 5] [] rfl rfl (by decide) (by decide) (by decide) (As := [.int (nI (4 + 1)), .int 1]) (rest := []) rfl (nb rfl) rfl d_Model_common_45 (fun _ _ => ?_)
                  refine j_ws (ws' := [MB mo ad 0 0 0 0 0 0 0 (-1) 0 0 0 0 0 0 0 0 0 0 1 0, (ad 43, .inl (y 0, 8, .inl (fun _ => 0))), (ad 62, .inl (y 0, 63, .inl (dayF 0))), (ad 45, .inl (y 0, 14, .inl lakeF)), (ad 68, .inl (y 0, 63, .inl (dayF 0))), (ad 72, .inl (y 0, 7, .inl powF)), (ad 71, .inl (y 0, 1093, .inl (fun _ => 0))), (ad 70, .inl (y 0, 6558, .inl (fun _ => 0)))]) rfl ?_
                  refine j_iload_n (pc := 48) C d_Model_common_48 rfl 2 rfl ?_
                  refine j_iload_n (pc := 49) C d_Model_common_49 rfl 1 rfl ?_
                  refine j_icmp_geF (pc := 50) C (tgt := 61) d_Model_common_50 (by decide) (by decide) ?_
                  refine j_aload_n (pc := 53) C d_Model_common_53 rfl 0 rfl ?_
                  refine j_iload_n (pc := 54) C d_Model_common_54 rfl 2 rfl ?_
                  refine j_callVi (pc := 55) C (c_M_actOf_2 l D y mo ad) kw_Model_525 kv_Model_actOf 0 10 rfl rfl ⟨by decide, by decide⟩ ⟨by decide, by decide⟩ (wr := [(ad 43, .inl (y 0, 8, .inl (fun _ => 0))), (ad 62, .inl (y 0, 63, .inl (dayF 0))), (ad 45, .inl (y 0, 14, .inl lakeF)), (ad 68, .inl (y 0, 63, .inl (dayF 0))), (ad 70, .inl (y 0, 6558, .inl (fun _ => 0)))]) [0, 5, 6] [1, 2, 3, 4, 7] rfl rfl (by decide) (by decide) (by decide) (As := [.int 2]) (rest := []) rfl (nb rfl) rfl d_Model_common_55 (fun r69 _ hr69 => ?_)
                  subst hr69
                  refine j_ws (ws' := [(ad 43, .inl (y 0, 8, .inl (fun _ => 0))), (ad 62, .inl (y 0, 63, .inl (dayF 0))), (ad 45, .inl (y 0, 14, .inl lakeF)), (ad 68, .inl (y 0, 63, .inl (dayF 0))), (ad 70, .inl (y 0, 6558, .inl (fun _ => 0)))]) rfl ?_
                  refine j_st (st' := [.int 0]) rfl ?_
                  refine j_goto (pc := 58) C (tgt := 83) d_Model_common_58 (by decide) ?_
                  exact j_iret (pc := 83) C hr rfl () (by decide) [] rfl (by decide) (by decide) (by decide) d_Model_common_83
                · by_cases e70 : w = 3
                  · subst e70
                    refine j_iload_n (pc := 8) C d_Model_common_8 rfl 2 rfl ?_
                    refine j_i2l (pc := 9) C (v := 3) d_Model_common_9 (by decide) ?_
                    refine j_lconst (pc := 10) C (v := 0) d_Model_common_10 (by decide) ?_
                    refine j_iload_n (pc := 11) C d_Model_common_11 rfl 1 rfl ?_
                    refine j_iconst (pc := 12) C (v := 1) d_Model_common_12 (by decide) ?_
                    refine j_isub (pc := 13) C (v := 4) d_Model_common_13 (by decide) ?_
                    refine j_i2l (pc := 14) C (v := 4) d_Model_common_14 (by decide) ?_
                    refine j_callSi (pc := 15) C (c_isIn_c l D y 3 0 4 3 0 4 (by decide) (by decide) (by decide)) kw_Model_240 ks_Model_isIn ⟨by decide, by decide⟩ ⟨by decide, by decide⟩ (wr := [(ad 43, .inl (y 0, 8, .inl (fun _ => 0))), (ad 45, .inl (y 0, 14, .inl lakeF)), (ad 68, .inl (y 0, 63, .inl f)), (ad 72, .inl (y 0, 7, .inl powF)), (ad 71, .inl (y 0, 1093, .inl (fun _ => 0))), (ad 70, .inl (y 0, 6558, .inl (fun _ => 0))), MB mo ad 0 0 0 0 0 0 0 (-1) 0 0 0 0 0 0 0 0 0 0 1 0, (ad 62, .inl (y 0, 63, .inl (dayF 0)))]) [] [0, 1, 2, 3, 4, 5, 6, 7] rfl rfl (by decide) (by decide) (by decide) (As := [.long 3, .long 0, .long 4]) (rest := []) rfl (nb rfl) rfl d_Model_common_15 (fun r71 _ hr71 => ?_)
                    refine j_ws (ws' := [(ad 43, .inl (y 0, 8, .inl (fun _ => 0))), (ad 45, .inl (y 0, 14, .inl lakeF)), (ad 68, .inl (y 0, 63, .inl f)), (ad 72, .inl (y 0, 7, .inl powF)), (ad 71, .inl (y 0, 1093, .inl (fun _ => 0))), (ad 70, .inl (y 0, 6558, .inl (fun _ => 0))), MB mo ad 0 0 0 0 0 0 0 (-1) 0 0 0 0 0 0 0 0 0 0 1 0, (ad 62, .inl (y 0, 63, .inl (dayF 0)))]) rfl ?_
                    rw [if_pos (by decide)] at hr71
                    subst hr71
                    refine j_if_neT (pc := 18) C (tgt := 42) d_Model_common_18 (by decide) (by decide) ?_
                    refine j_aload_n (pc := 42) C d_Model_common_42 rfl 0 rfl ?_
                    refine j_iload_n (pc := 43) C d_Model_common_43 rfl 1 rfl ?_
                    refine j_iconst (pc := 44) C (v := 1) d_Model_common_44 (by decide) ?_
                    refine j_st (st' := [.int 1, .int (nI (4 + 1)), .ref mo]) rfl ?_
                    refine j_callVv (pc := 45) C (c_M_plans l D y mo ad 4 1 f (by decide)) kw_Model_522 kv_Model_plans 0 10 rfl rfl ⟨by decide, by decide⟩ ⟨by decide, by decide⟩ (wr := []) [6, 0, 7, 1, 2, 3, 4, 5] [] rfl rfl (by decide) (by decide) (by decide) (As := [.int (nI (4 + 1)), .int 1]) (rest := []) rfl (nb rfl) rfl d_Model_common_45 (fun _ _ => ?_)
                    refine j_ws (ws' := [MB mo ad 0 0 0 0 0 0 0 (-1) 0 0 0 0 0 0 0 0 0 0 1 0, (ad 43, .inl (y 0, 8, .inl (fun _ => 0))), (ad 62, .inl (y 0, 63, .inl (dayF 0))), (ad 45, .inl (y 0, 14, .inl lakeF)), (ad 68, .inl (y 0, 63, .inl (dayF 0))), (ad 72, .inl (y 0, 7, .inl powF)), (ad 71, .inl (y 0, 1093, .inl (fun _ => 0))), (ad 70, .inl (y 0, 6558, .inl (fun _ => 0)))]) rfl ?_
                    refine j_iload_n (pc := 48) C d_Model_common_48 rfl 2 rfl ?_
                    refine j_iload_n (pc := 49) C d_Model_common_49 rfl 1 rfl ?_
                    refine j_icmp_geF (pc := 50) C (tgt := 61) d_Model_common_50 (by decide) (by decide) ?_
                    refine j_aload_n (pc := 53) C d_Model_common_53 rfl 0 rfl ?_
                    refine j_iload_n (pc := 54) C d_Model_common_54 rfl 2 rfl ?_
                    refine j_callVi (pc := 55) C (c_M_actOf_3 l D y mo ad) kw_Model_525 kv_Model_actOf 0 10 rfl rfl ⟨by decide, by decide⟩ ⟨by decide, by decide⟩ (wr := [(ad 43, .inl (y 0, 8, .inl (fun _ => 0))), (ad 62, .inl (y 0, 63, .inl (dayF 0))), (ad 45, .inl (y 0, 14, .inl lakeF)), (ad 68, .inl (y 0, 63, .inl (dayF 0))), (ad 70, .inl (y 0, 6558, .inl (fun _ => 0)))]) [0, 5, 6] [1, 2, 3, 4, 7] rfl rfl (by decide) (by decide) (by decide) (As := [.int 3]) (rest := []) rfl (nb rfl) rfl d_Model_common_55 (fun r72 _ hr72 => ?_)
                    subst hr72
                    refine j_ws (ws' := [(ad 43, .inl (y 0, 8, .inl (fun _ => 0))), (ad 62, .inl (y 0, 63, .inl (dayF 0))), (ad 45, .inl (y 0, 14, .inl lakeF)), (ad 68, .inl (y 0, 63, .inl (dayF 0))), (ad 70, .inl (y 0, 6558, .inl (fun _ => 0)))]) rfl ?_
                    refine j_st (st' := [.int 0]) rfl ?_
                    refine j_goto (pc := 58) C (tgt := 83) d_Model_common_58 (by decide) ?_
                    exact j_iret (pc := 83) C hr rfl () (by decide) [] rfl (by decide) (by decide) (by decide) d_Model_common_83
                  · by_cases e73 : w = 4
                    · subst e73
                      refine j_iload_n (pc := 8) C d_Model_common_8 rfl 2 rfl ?_
                      refine j_i2l (pc := 9) C (v := 4) d_Model_common_9 (by decide) ?_
                      refine j_lconst (pc := 10) C (v := 0) d_Model_common_10 (by decide) ?_
                      refine j_iload_n (pc := 11) C d_Model_common_11 rfl 1 rfl ?_
                      refine j_iconst (pc := 12) C (v := 1) d_Model_common_12 (by decide) ?_
                      refine j_isub (pc := 13) C (v := 4) d_Model_common_13 (by decide) ?_
                      refine j_i2l (pc := 14) C (v := 4) d_Model_common_14 (by decide) ?_
                      refine j_callSi (pc := 15) C (c_isIn_c l D y 4 0 4 4 0 4 (by decide) (by decide) (by decide)) kw_Model_240 ks_Model_isIn ⟨by decide, by decide⟩ ⟨by decide, by decide⟩ (wr := [(ad 43, .inl (y 0, 8, .inl (fun _ => 0))), (ad 45, .inl (y 0, 14, .inl lakeF)), (ad 68, .inl (y 0, 63, .inl f)), (ad 72, .inl (y 0, 7, .inl powF)), (ad 71, .inl (y 0, 1093, .inl (fun _ => 0))), (ad 70, .inl (y 0, 6558, .inl (fun _ => 0))), MB mo ad 0 0 0 0 0 0 0 (-1) 0 0 0 0 0 0 0 0 0 0 1 0, (ad 62, .inl (y 0, 63, .inl (dayF 0)))]) [] [0, 1, 2, 3, 4, 5, 6, 7] rfl rfl (by decide) (by decide) (by decide) (As := [.long 4, .long 0, .long 4]) (rest := []) rfl (nb rfl) rfl d_Model_common_15 (fun r74 _ hr74 => ?_)
                      refine j_ws (ws' := [(ad 43, .inl (y 0, 8, .inl (fun _ => 0))), (ad 45, .inl (y 0, 14, .inl lakeF)), (ad 68, .inl (y 0, 63, .inl f)), (ad 72, .inl (y 0, 7, .inl powF)), (ad 71, .inl (y 0, 1093, .inl (fun _ => 0))), (ad 70, .inl (y 0, 6558, .inl (fun _ => 0))), MB mo ad 0 0 0 0 0 0 0 (-1) 0 0 0 0 0 0 0 0 0 0 1 0, (ad 62, .inl (y 0, 63, .inl (dayF 0)))]) rfl ?_
                      rw [if_pos (by decide)] at hr74
                      subst hr74
                      refine j_if_neT (pc := 18) C (tgt := 42) d_Model_common_18 (by decide) (by decide) ?_
                      refine j_aload_n (pc := 42) C d_Model_common_42 rfl 0 rfl ?_
                      refine j_iload_n (pc := 43) C d_Model_common_43 rfl 1 rfl ?_
                      refine j_iconst (pc := 44) C (v := 1) d_Model_common_44 (by decide) ?_
                      refine j_st (st' := [.int 1, .int (nI (4 + 1)), .ref mo]) rfl ?_
                      refine j_callVv (pc := 45) C (c_M_plans l D y mo ad 4 1 f (by decide)) kw_Model_522 kv_Model_plans 0 10 rfl rfl ⟨by decide, by decide⟩ ⟨by decide, by decide⟩ (wr := []) [6, 0, 7, 1, 2, 3, 4, 5] [] rfl rfl (by decide) (by decide) (by decide) (As := [.int (nI (4 + 1)), .int 1]) (rest := []) rfl (nb rfl) rfl d_Model_common_45 (fun _ _ => ?_)
                      refine j_ws (ws' := [MB mo ad 0 0 0 0 0 0 0 (-1) 0 0 0 0 0 0 0 0 0 0 1 0, (ad 43, .inl (y 0, 8, .inl (fun _ => 0))), (ad 62, .inl (y 0, 63, .inl (dayF 0))), (ad 45, .inl (y 0, 14, .inl lakeF)), (ad 68, .inl (y 0, 63, .inl (dayF 0))), (ad 72, .inl (y 0, 7, .inl powF)), (ad 71, .inl (y 0, 1093, .inl (fun _ => 0))), (ad 70, .inl (y 0, 6558, .inl (fun _ => 0)))]) rfl ?_
                      refine j_iload_n (pc := 48) C d_Model_common_48 rfl 2 rfl ?_
                      refine j_iload_n (pc := 49) C d_Model_common_49 rfl 1 rfl ?_
                      refine j_icmp_geF (pc := 50) C (tgt := 61) d_Model_common_50 (by decide) (by decide) ?_
                      refine j_aload_n (pc := 53) C d_Model_common_53 rfl 0 rfl ?_
                      refine j_iload_n (pc := 54) C d_Model_common_54 rfl 2 rfl ?_
                      refine j_callVi (pc := 55) C (c_M_actOf_4 l D y mo ad) kw_Model_525 kv_Model_actOf 0 10 rfl rfl ⟨by decide, by decide⟩ ⟨by decide, by decide⟩ (wr := [(ad 43, .inl (y 0, 8, .inl (fun _ => 0))), (ad 62, .inl (y 0, 63, .inl (dayF 0))), (ad 45, .inl (y 0, 14, .inl lakeF)), (ad 68, .inl (y 0, 63, .inl (dayF 0))), (ad 70, .inl (y 0, 6558, .inl (fun _ => 0)))]) [0, 5, 6] [1, 2, 3, 4, 7] rfl rfl (by decide) (by decide) (by decide) (As := [.int 4]) (rest := []) rfl (nb rfl) rfl d_Model_common_55 (fun r75 _ hr75 => ?_)
                      subst hr75
                      refine j_ws (ws' := [(ad 43, .inl (y 0, 8, .inl (fun _ => 0))), (ad 62, .inl (y 0, 63, .inl (dayF 0))), (ad 45, .inl (y 0, 14, .inl lakeF)), (ad 68, .inl (y 0, 63, .inl (dayF 0))), (ad 70, .inl (y 0, 6558, .inl (fun _ => 0)))]) rfl ?_
                      refine j_st (st' := [.int 0]) rfl ?_
                      refine j_goto (pc := 58) C (tgt := 83) d_Model_common_58 (by decide) ?_
                      exact j_iret (pc := 83) C hr rfl () (by decide) [] rfl (by decide) (by decide) (by decide) d_Model_common_83
                    · by_cases e76 : w = 9
                      · subst e76
                        refine j_iload_n (pc := 8) C d_Model_common_8 rfl 2 rfl ?_
                        refine j_i2l (pc := 9) C (v := 9) d_Model_common_9 (by decide) ?_
                        refine j_lconst (pc := 10) C (v := 0) d_Model_common_10 (by decide) ?_
                        refine j_iload_n (pc := 11) C d_Model_common_11 rfl 1 rfl ?_
                        refine j_iconst (pc := 12) C (v := 1) d_Model_common_12 (by decide) ?_
                        refine j_isub (pc := 13) C (v := 4) d_Model_common_13 (by decide) ?_
                        refine j_i2l (pc := 14) C (v := 4) d_Model_common_14 (by decide) ?_
                        refine j_callSi (pc := 15) C (c_isIn_c l D y 9 0 4 9 0 4 (by decide) (by decide) (by decide)) kw_Model_240 ks_Model_isIn ⟨by decide, by decide⟩ ⟨by decide, by decide⟩ (wr := [(ad 43, .inl (y 0, 8, .inl (fun _ => 0))), (ad 45, .inl (y 0, 14, .inl lakeF)), (ad 68, .inl (y 0, 63, .inl f)), (ad 72, .inl (y 0, 7, .inl powF)), (ad 71, .inl (y 0, 1093, .inl (fun _ => 0))), (ad 70, .inl (y 0, 6558, .inl (fun _ => 0))), MB mo ad 0 0 0 0 0 0 0 (-1) 0 0 0 0 0 0 0 0 0 0 1 0, (ad 62, .inl (y 0, 63, .inl (dayF 0)))]) [] [0, 1, 2, 3, 4, 5, 6, 7] rfl rfl (by decide) (by decide) (by decide) (As := [.long 9, .long 0, .long 4]) (rest := []) rfl (nb rfl) rfl d_Model_common_15 (fun r77 _ hr77 => ?_)
                        refine j_ws (ws' := [(ad 43, .inl (y 0, 8, .inl (fun _ => 0))), (ad 45, .inl (y 0, 14, .inl lakeF)), (ad 68, .inl (y 0, 63, .inl f)), (ad 72, .inl (y 0, 7, .inl powF)), (ad 71, .inl (y 0, 1093, .inl (fun _ => 0))), (ad 70, .inl (y 0, 6558, .inl (fun _ => 0))), MB mo ad 0 0 0 0 0 0 0 (-1) 0 0 0 0 0 0 0 0 0 0 1 0, (ad 62, .inl (y 0, 63, .inl (dayF 0)))]) rfl ?_
                        rw [if_neg (by decide)] at hr77
                        subst hr77
                        refine j_if_neF (pc := 18) C (tgt := 42) d_Model_common_18 (by decide) (by decide) ?_
                        refine j_iload_n (pc := 21) C d_Model_common_21 rfl 2 rfl ?_
                        refine j_bipush (pc := 22) C (v := 9) d_Model_common_22 (by decide) ?_
                        refine j_icmp_eqT (pc := 24) C (tgt := 42) d_Model_common_24 (by decide) (by decide) ?_
                        refine j_aload_n (pc := 42) C d_Model_common_42 rfl 0 rfl ?_
                        refine j_iload_n (pc := 43) C d_Model_common_43 rfl 1 rfl ?_
                        refine j_iconst (pc := 44) C (v := 1) d_Model_common_44 (by decide) ?_
                        refine j_st (st' := [.int 1, .int (nI (4 + 1)), .ref mo]) rfl ?_
                        refine j_callVv (pc := 45) C (c_M_plans l D y mo ad 4 1 f (by decide)) kw_Model_522 kv_Model_plans 0 10 rfl rfl ⟨by decide, by decide⟩ ⟨by decide, by decide⟩ (wr := []) [6, 0, 7, 1, 2, 3, 4, 5] [] rfl rfl (by decide) (by decide) (by decide) (As := [.int (nI (4 + 1)), .int 1]) (rest := []) rfl (nb rfl) rfl d_Model_common_45 (fun _ _ => ?_)
                        refine j_ws (ws' := [MB mo ad 0 0 0 0 0 0 0 (-1) 0 0 0 0 0 0 0 0 0 0 1 0, (ad 43, .inl (y 0, 8, .inl (fun _ => 0))), (ad 62, .inl (y 0, 63, .inl (dayF 0))), (ad 45, .inl (y 0, 14, .inl lakeF)), (ad 68, .inl (y 0, 63, .inl (dayF 0))), (ad 72, .inl (y 0, 7, .inl powF)), (ad 71, .inl (y 0, 1093, .inl (fun _ => 0))), (ad 70, .inl (y 0, 6558, .inl (fun _ => 0)))]) rfl ?_
                        refine j_iload_n (pc := 48) C d_Model_common_48 rfl 2 rfl ?_
                        refine j_iload_n (pc := 49) C d_Model_common_49 rfl 1 rfl ?_
                        refine j_icmp_geT (pc := 50) C (tgt := 61) d_Model_common_50 (by decide) (by decide) ?_
                        refine j_iload_n (pc := 61) C d_Model_common_61 rfl 2 rfl ?_
                        refine j_bipush (pc := 62) C (v := 9) d_Model_common_62 (by decide) ?_
                        refine j_icmp_neF (pc := 64) C (tgt := 74) d_Model_common_64 (by decide) (by decide) ?_
                        refine j_aload_n (pc := 67) C d_Model_common_67 rfl 0 rfl ?_
                        refine j_callVi (pc := 68) C (c_M_sumOfGets l D y mo ad) kw_Model_528 kv_Model_sumOfGets 0 10 rfl rfl ⟨by decide, by decide⟩ ⟨by decide, by decide⟩ (wr := [(ad 62, .inl (y 0, 63, .inl (dayF 0))), (ad 45, .inl (y 0, 14, .inl lakeF)), (ad 68, .inl (y 0, 63, .inl (dayF 0))), (ad 72, .inl (y 0, 7, .inl powF)), (ad 71, .inl (y 0, 1093, .inl (fun _ => 0))), (ad 70, .inl (y 0, 6558, .inl (fun _ => 0)))]) [0, 1] [2, 3, 4, 5, 6, 7] rfl rfl (by decide) (by decide) (by decide) (As := []) (rest := []) rfl (nb rfl) rfl d_Model_common_68 (fun r78 _ hr78 => ?_)
                        subst hr78
                        refine j_ws (ws' := [(ad 62, .inl (y 0, 63, .inl (dayF 0))), (ad 45, .inl (y 0, 14, .inl lakeF)), (ad 68, .inl (y 0, 63, .inl (dayF 0))), (ad 72, .inl (y 0, 7, .inl powF)), (ad 71, .inl (y 0, 1093, .inl (fun _ => 0))), (ad 70, .inl (y 0, 6558, .inl (fun _ => 0)))]) rfl ?_
                        refine j_st (st' := [.int 0]) rfl ?_
                        refine j_goto (pc := 71) C (tgt := 83) d_Model_common_71 (by decide) ?_
                        exact j_iret (pc := 83) C hr rfl () (by decide) [] rfl (by decide) (by decide) (by decide) d_Model_common_83
                      · refine j_iload_n (pc := 8) C d_Model_common_8 rfl 2 rfl ?_
                        refine j_i2l (pc := 9) C (v := w.toInt64) d_Model_common_9 rfl ?_
                        refine j_lconst (pc := 10) C (v := 0) d_Model_common_10 (by decide) ?_
                        refine j_iload_n (pc := 11) C d_Model_common_11 rfl 1 rfl ?_
                        refine j_iconst (pc := 12) C (v := 1) d_Model_common_12 (by decide) ?_
                        refine j_isub (pc := 13) C (v := 4) d_Model_common_13 (by decide) ?_
                        refine j_i2l (pc := 14) C (v := 4) d_Model_common_14 (by decide) ?_
                        refine j_callSi (pc := 15) C (c_isIn_x l D y w 0 4 0 4 (by decide) (by decide)) kw_Model_240 ks_Model_isIn ⟨by decide, by decide⟩ ⟨by decide, by decide⟩ (wr := [(ad 43, .inl (y 0, 8, .inl (fun _ => 0))), (ad 45, .inl (y 0, 14, .inl lakeF)), (ad 68, .inl (y 0, 63, .inl f)), (ad 72, .inl (y 0, 7, .inl powF)), (ad 71, .inl (y 0, 1093, .inl (fun _ => 0))), (ad 70, .inl (y 0, 6558, .inl (fun _ => 0))), MB mo ad 0 0 0 0 0 0 0 (-1) 0 0 0 0 0 0 0 0 0 0 1 0, (ad 62, .inl (y 0, 63, .inl (dayF 0)))]) [] [0, 1, 2, 3, 4, 5, 6, 7] rfl rfl (by decide) (by decide) (by decide) (As := [.long w.toInt64, .long 0, .long 4]) (rest := []) rfl (nb rfl) rfl d_Model_common_15 (fun r79 _ hr79 => ?_)
                        refine j_ws (ws' := [(ad 43, .inl (y 0, 8, .inl (fun _ => 0))), (ad 45, .inl (y 0, 14, .inl lakeF)), (ad 68, .inl (y 0, 63, .inl f)), (ad 72, .inl (y 0, 7, .inl powF)), (ad 71, .inl (y 0, 1093, .inl (fun _ => 0))), (ad 70, .inl (y 0, 6558, .inl (fun _ => 0))), MB mo ad 0 0 0 0 0 0 0 (-1) 0 0 0 0 0 0 0 0 0 0 1 0, (ad 62, .inl (y 0, 63, .inl (dayF 0)))]) rfl ?_
                        rw [if_neg (by simp only [← Int32.toInt_inj, (by decide : Int32.toInt 0 = 0), (by decide : Int32.toInt 1 = 1), (by decide : Int32.toInt 2 = 2), (by decide : Int32.toInt 3 = 3), (by decide : Int32.toInt 4 = 4), (by decide : Int32.toInt 5 = 5), (by decide : Int32.toInt 6 = 6), (by decide : Int32.toInt 7 = 7), (by decide : Int32.toInt 8 = 8), (by decide : Int32.toInt 9 = 9)] at e61 e64 e67 e70 e73 e76; omega)] at hr79
                        subst hr79
                        refine j_if_neF (pc := 18) C (tgt := 42) d_Model_common_18 (by decide) (by decide) ?_
                        refine j_iload_n (pc := 21) C d_Model_common_21 rfl 2 rfl ?_
                        refine j_bipush (pc := 22) C (v := 9) d_Model_common_22 (by decide) ?_
                        refine j_icmp_eqF (pc := 24) C (tgt := 42) d_Model_common_24 (by decide) e76 ?_
                        refine j_aload_n (pc := 27) C d_Model_common_27 rfl 0 rfl ?_
                        refine j_iload_n (pc := 28) C d_Model_common_28 rfl 2 rfl ?_
                        refine j_bipush (pc := 29) C (v := 10) d_Model_common_29 (by decide) ?_
                        refine j_isub (pc := 31) C (v := w - 10) d_Model_common_31 rfl ?_
                        refine j_callVi (pc := 32) C (c_M_isVillage l D y mo ad 0 0 1 (w - 10)) kw_Model_472 kv_Model_isVillage 0 10 rfl rfl ⟨by decide, by decide⟩ ⟨by decide, by decide⟩ (wr := [(ad 45, .inl (y 0, 14, .inl lakeF)), (ad 68, .inl (y 0, 63, .inl f)), (ad 72, .inl (y 0, 7, .inl powF)), (ad 71, .inl (y 0, 1093, .inl (fun _ => 0))), (ad 70, .inl (y 0, 6558, .inl (fun _ => 0))), (ad 62, .inl (y 0, 63, .inl (dayF 0)))]) [6, 0] [1, 2, 3, 4, 5, 7] rfl rfl (by decide) (by decide) (by decide) (As := [.int (w - 10)]) (rest := []) rfl (nb rfl) rfl d_Model_common_32 (fun r80 _ hr80 => ?_)
                        subst hr80
                        refine j_ws (ws' := [(ad 45, .inl (y 0, 14, .inl lakeF)), (ad 68, .inl (y 0, 63, .inl f)), (ad 72, .inl (y 0, 7, .inl powF)), (ad 71, .inl (y 0, 1093, .inl (fun _ => 0))), (ad 70, .inl (y 0, 6558, .inl (fun _ => 0))), (ad 62, .inl (y 0, 63, .inl (dayF 0))), MB mo ad 0 0 0 0 0 0 0 (-1) 0 0 0 0 0 0 0 0 0 0 1 0, (ad 43, .inl (y 0, 8, .inl (fun _ => 0)))]) rfl ?_
                        refine j_st (st' := [.int 0]) rfl ?_
                        refine j_if_neF (pc := 35) C (tgt := 42) d_Model_common_35 (by decide) (by decide) ?_
                        refine j_ldcw (pc := 38) C (v := (-1000000000)) (mt_7 (List.mem_of_getElem? (i := 94) rfl) rfl) d_Model_common_38 ?_
                        exact j_iret (pc := 41) C hr rfl () (by simp only [Int32.lt_iff_toInt_lt, Int32.le_iff_toInt_le, ← Int32.toInt_inj, (by decide : Int32.toInt 0 = 0), (by decide : Int32.toInt 1 = 1), (by decide : Int32.toInt 2 = 2), (by decide : Int32.toInt 3 = 3), (by decide : Int32.toInt 4 = 4), (by decide : Int32.toInt 5 = 5), (by decide : Int32.toInt 6 = 6), (by decide : Int32.toInt 7 = 7), (by decide : Int32.toInt 8 = 8), (by decide : Int32.toInt 9 = 9)] at e1 e11 e24 e40 e61 e64 e67 e70 e73 e76 ⊢; rw [if_neg (by omega)]) [] rfl (by decide) (by decide) (by decide) d_Model_common_41
          · by_cases e81 : n = 6
            · subst e81
              refine j_aload_n (pc := 0) C d_Model_common_0 rfl 0 rfl ?_
              refine j_iload_n (pc := 1) C d_Model_common_1 rfl 1 rfl ?_
              refine j_callVi (pc := 2) C (c_M_canPlan_6 l D y mo ad) kw_Model_519 kv_Model_canPlan 0 10 rfl rfl ⟨by decide, by decide⟩ ⟨by decide, by decide⟩ (wr := [(ad 43, .inl (y 0, 8, .inl (fun _ => 0))), (ad 45, .inl (y 0, 14, .inl lakeF)), (ad 68, .inl (y 0, 63, .inl f)), (ad 72, .inl (y 0, 7, .inl powF)), (ad 71, .inl (y 0, 1093, .inl (fun _ => 0))), (ad 70, .inl (y 0, 6558, .inl (fun _ => 0)))]) [0, 2] [1, 3, 4, 5, 6, 7] rfl rfl (by decide) (by decide) (by decide) (As := [.int 6]) (rest := []) rfl (nb rfl) rfl d_Model_common_2 (fun r82 _ hr82 => ?_)
              subst hr82
              refine j_ws (ws' := [(ad 43, .inl (y 0, 8, .inl (fun _ => 0))), (ad 45, .inl (y 0, 14, .inl lakeF)), (ad 68, .inl (y 0, 63, .inl f)), (ad 72, .inl (y 0, 7, .inl powF)), (ad 71, .inl (y 0, 1093, .inl (fun _ => 0))), (ad 70, .inl (y 0, 6558, .inl (fun _ => 0))), MB mo ad 0 0 0 0 0 0 0 (-1) 0 0 0 0 0 0 0 0 0 0 1 0, (ad 62, .inl (y 0, 63, .inl (dayF 0)))]) rfl ?_
              refine j_st (st' := [.int 1]) rfl ?_
              refine j_if_eqF (pc := 5) C (tgt := 38) d_Model_common_5 (by decide) (by decide) ?_
              by_cases e83 : w = 0
              · subst e83
                refine j_iload_n (pc := 8) C d_Model_common_8 rfl 2 rfl ?_
                refine j_i2l (pc := 9) C (v := 0) d_Model_common_9 (by decide) ?_
                refine j_lconst (pc := 10) C (v := 0) d_Model_common_10 (by decide) ?_
                refine j_iload_n (pc := 11) C d_Model_common_11 rfl 1 rfl ?_
                refine j_iconst (pc := 12) C (v := 1) d_Model_common_12 (by decide) ?_
                refine j_isub (pc := 13) C (v := 5) d_Model_common_13 (by decide) ?_
                refine j_i2l (pc := 14) C (v := 5) d_Model_common_14 (by decide) ?_
                refine j_callSi (pc := 15) C (c_isIn_c l D y 0 0 5 0 0 5 (by decide) (by decide) (by decide)) kw_Model_240 ks_Model_isIn ⟨by decide, by decide⟩ ⟨by decide, by decide⟩ (wr := [(ad 43, .inl (y 0, 8, .inl (fun _ => 0))), (ad 45, .inl (y 0, 14, .inl lakeF)), (ad 68, .inl (y 0, 63, .inl f)), (ad 72, .inl (y 0, 7, .inl powF)), (ad 71, .inl (y 0, 1093, .inl (fun _ => 0))), (ad 70, .inl (y 0, 6558, .inl (fun _ => 0))), MB mo ad 0 0 0 0 0 0 0 (-1) 0 0 0 0 0 0 0 0 0 0 1 0, (ad 62, .inl (y 0, 63, .inl (dayF 0)))]) [] [0, 1, 2, 3, 4, 5, 6, 7] rfl rfl (by decide) (by decide) (by decide) (As := [.long 0, .long 0, .long 5]) (rest := []) rfl (nb rfl) rfl d_Model_common_15 (fun r84 _ hr84 => ?_)
                refine j_ws (ws' := [(ad 43, .inl (y 0, 8, .inl (fun _ => 0))), (ad 45, .inl (y 0, 14, .inl lakeF)), (ad 68, .inl (y 0, 63, .inl f)), (ad 72, .inl (y 0, 7, .inl powF)), (ad 71, .inl (y 0, 1093, .inl (fun _ => 0))), (ad 70, .inl (y 0, 6558, .inl (fun _ => 0))), MB mo ad 0 0 0 0 0 0 0 (-1) 0 0 0 0 0 0 0 0 0 0 1 0, (ad 62, .inl (y 0, 63, .inl (dayF 0)))]) rfl ?_
                rw [if_pos (by decide)] at hr84
                subst hr84
                refine j_if_neT (pc := 18) C (tgt := 42) d_Model_common_18 (by decide) (by decide) ?_
                refine j_aload_n (pc := 42) C d_Model_common_42 rfl 0 rfl ?_
                refine j_iload_n (pc := 43) C d_Model_common_43 rfl 1 rfl ?_
                refine j_iconst (pc := 44) C (v := 1) d_Model_common_44 (by decide) ?_
                refine j_st (st' := [.int 1, .int (nI (5 + 1)), .ref mo]) rfl ?_
                refine j_callVv (pc := 45) C (c_M_plans l D y mo ad 5 1 f (by decide)) kw_Model_522 kv_Model_plans 0 10 rfl rfl ⟨by decide, by decide⟩ ⟨by decide, by decide⟩ (wr := []) [6, 0, 7, 1, 2, 3, 4, 5] [] rfl rfl (by decide) (by decide) (by decide) (As := [.int (nI (5 + 1)), .int 1]) (rest := []) rfl (nb rfl) rfl d_Model_common_45 (fun _ _ => ?_)
                refine j_ws (ws' := [MB mo ad 0 0 0 0 0 0 0 (-1) 0 0 0 0 0 0 0 0 0 0 1 0, (ad 43, .inl (y 0, 8, .inl (fun _ => 0))), (ad 62, .inl (y 0, 63, .inl (dayF 0))), (ad 45, .inl (y 0, 14, .inl lakeF)), (ad 68, .inl (y 0, 63, .inl (dayF 0))), (ad 72, .inl (y 0, 7, .inl powF)), (ad 71, .inl (y 0, 1093, .inl (fun _ => 0))), (ad 70, .inl (y 0, 6558, .inl (fun _ => 0)))]) rfl ?_
                refine j_iload_n (pc := 48) C d_Model_common_48 rfl 2 rfl ?_
                refine j_iload_n (pc := 49) C d_Model_common_49 rfl 1 rfl ?_
                refine j_icmp_geF (pc := 50) C (tgt := 61) d_Model_common_50 (by decide) (by decide) ?_
                refine j_aload_n (pc := 53) C d_Model_common_53 rfl 0 rfl ?_
                refine j_iload_n (pc := 54) C d_Model_common_54 rfl 2 rfl ?_
                refine j_callVi (pc := 55) C (c_M_actOf_0 l D y mo ad) kw_Model_525 kv_Model_actOf 0 10 rfl rfl ⟨by decide, by decide⟩ ⟨by decide, by decide⟩ (wr := [(ad 43, .inl (y 0, 8, .inl (fun _ => 0))), (ad 62, .inl (y 0, 63, .inl (dayF 0))), (ad 45, .inl (y 0, 14, .inl lakeF)), (ad 68, .inl (y 0, 63, .inl (dayF 0))), (ad 70, .inl (y 0, 6558, .inl (fun _ => 0)))]) [0, 5, 6] [1, 2, 3, 4, 7] rfl rfl (by decide) (by decide) (by decide) (As := [.int 0]) (rest := []) rfl (nb rfl) rfl d_Model_common_55 (fun r85 _ hr85 => ?_)
                subst hr85
                refine j_ws (ws' := [(ad 43, .inl (y 0, 8, .inl (fun _ => 0))), (ad 62, .inl (y 0, 63, .inl (dayF 0))), (ad 45, .inl (y 0, 14, .inl lakeF)), (ad 68, .inl (y 0, 63, .inl (dayF 0))), (ad 70, .inl (y 0, 6558, .inl (fun _ => 0)))]) rfl ?_
                refine j_st (st' := [.int 0]) rfl ?_
                refine j_goto (pc := 58) C (tgt := 83) d_Model_common_58 (by decide) ?_
                exact j_iret (pc := 83) C hr rfl () (by decide) [] rfl (by decide) (by decide) (by decide) d_Model_common_83
              · by_cases e86 : w = 1
                · subst e86
                  refine j_iload_n (pc := 8) C d_Model_common_8 rfl 2 rfl ?_
                  refine j_i2l (pc := 9) C (v := 1) d_Model_common_9 (by decide) ?_
                  refine j_lconst (pc := 10) C (v := 0) d_Model_common_10 (by decide) ?_
                  refine j_iload_n (pc := 11) C d_Model_common_11 rfl 1 rfl ?_
                  refine j_iconst (pc := 12) C (v := 1) d_Model_common_12 (by decide) ?_
                  refine j_isub (pc := 13) C (v := 5) d_Model_common_13 (by decide) ?_
                  refine j_i2l (pc := 14) C (v := 5) d_Model_common_14 (by decide) ?_
                  refine j_callSi (pc := 15) C (c_isIn_c l D y 1 0 5 1 0 5 (by decide) (by decide) (by decide)) kw_Model_240 ks_Model_isIn ⟨by decide, by decide⟩ ⟨by decide, by decide⟩ (wr := [(ad 43, .inl (y 0, 8, .inl (fun _ => 0))), (ad 45, .inl (y 0, 14, .inl lakeF)), (ad 68, .inl (y 0, 63, .inl f)), (ad 72, .inl (y 0, 7, .inl powF)), (ad 71, .inl (y 0, 1093, .inl (fun _ => 0))), (ad 70, .inl (y 0, 6558, .inl (fun _ => 0))), MB mo ad 0 0 0 0 0 0 0 (-1) 0 0 0 0 0 0 0 0 0 0 1 0, (ad 62, .inl (y 0, 63, .inl (dayF 0)))]) [] [0, 1, 2, 3, 4, 5, 6, 7] rfl rfl (by decide) (by decide) (by decide) (As := [.long 1, .long 0, .long 5]) (rest := []) rfl (nb rfl) rfl d_Model_common_15 (fun r87 _ hr87 => ?_)
                  refine j_ws (ws' := [(ad 43, .inl (y 0, 8, .inl (fun _ => 0))), (ad 45, .inl (y 0, 14, .inl lakeF)), (ad 68, .inl (y 0, 63, .inl f)), (ad 72, .inl (y 0, 7, .inl powF)), (ad 71, .inl (y 0, 1093, .inl (fun _ => 0))), (ad 70, .inl (y 0, 6558, .inl (fun _ => 0))), MB mo ad 0 0 0 0 0 0 0 (-1) 0 0 0 0 0 0 0 0 0 0 1 0, (ad 62, .inl (y 0, 63, .inl (dayF 0)))]) rfl ?_
                  rw [if_pos (by decide)] at hr87
                  subst hr87
                  refine j_if_neT (pc := 18) C (tgt := 42) d_Model_common_18 (by decide) (by decide) ?_
                  refine j_aload_n (pc := 42) C d_Model_common_42 rfl 0 rfl ?_
                  refine j_iload_n (pc := 43) C d_Model_common_43 rfl 1 rfl ?_
                  refine j_iconst (pc := 44) C (v := 1) d_Model_common_44 (by decide) ?_
                  refine j_st (st' := [.int 1, .int (nI (5 + 1)), .ref mo]) rfl ?_
                  refine j_callVv (pc := 45) C (c_M_plans l D y mo ad 5 1 f (by decide)) kw_Model_522 kv_Model_plans 0 10 rfl rfl ⟨by decide, by decide⟩ ⟨by decide, by decide⟩ (wr := []) [6, 0, 7, 1, 2, 3, 4, 5] [] rfl rfl (by decide) (by decide) (by decide) (As := [.int (nI (5 + 1)), .int 1]) (rest := []) rfl (nb rfl) rfl d_Model_common_45 (fun _ _ => ?_)
                  refine j_ws (ws' := [MB mo ad 0 0 0 0 0 0 0 (-1) 0 0 0 0 0 0 0 0 0 0 1 0, (ad 43, .inl (y 0, 8, .inl (fun _ => 0))), (ad 62, .inl (y 0, 63, .inl (dayF 0))), (ad 45, .inl (y 0, 14, .inl lakeF)), (ad 68, .inl (y 0, 63, .inl (dayF 0))), (ad 72, .inl (y 0, 7, .inl powF)), (ad 71, .inl (y 0, 1093, .inl (fun _ => 0))), (ad 70, .inl (y 0, 6558, .inl (fun _ => 0)))]) rfl ?_
                  refine j_iload_n (pc := 48) C d_Model_common_48 rfl 2 rfl ?_
                  refine j_iload_n (pc := 49) C d_Model_common_49 rfl 1 rfl ?_
                  refine j_icmp_geF (pc := 50) C (tgt := 61) d_Model_common_50 (by decide) (by decide) ?_
                  refine j_aload_n (pc := 53) C d_Model_common_53 rfl 0 rfl ?_
                  refine j_iload_n (pc := 54) C d_Model_common_54 rfl 2 rfl ?_
                  refine j_callVi (pc := 55) C (c_M_actOf_1 l D y mo ad) kw_Model_525 kv_Model_actOf 0 10 rfl rfl ⟨by decide, by decide⟩ ⟨by decide, by decide⟩ (wr := [(ad 43, .inl (y 0, 8, .inl (fun _ => 0))), (ad 62, .inl (y 0, 63, .inl (dayF 0))), (ad 45, .inl (y 0, 14, .inl lakeF)), (ad 68, .inl (y 0, 63, .inl (dayF 0))), (ad 70, .inl (y 0, 6558, .inl (fun _ => 0)))]) [0, 5, 6] [1, 2, 3, 4, 7] rfl rfl (by decide) (by decide) (by decide) (As := [.int 1]) (rest := []) rfl (nb rfl) rfl d_Model_common_55 (fun r88 _ hr88 => ?_)
                  subst hr88
                  refine j_ws (ws' := [(ad 43, .inl (y 0, 8, .inl (fun _ => 0))), (ad 62, .inl (y 0, 63, .inl (dayF 0))), (ad 45, .inl (y 0, 14, .inl lakeF)), (ad 68, .inl (y 0, 63, .inl (dayF 0))), (ad 70, .inl (y 0, 6558, .inl (fun _ => 0)))]) rfl ?_
                  refine j_st (st' := [.int 0]) rfl ?_
                  refine j_goto (pc := 58) C (tgt := 83) d_Model_common_58 (by decide) ?_
                  exact j_iret (pc := 83) C hr rfl () (by decide) [] rfl (by decide) (by decide) (by decide) d_Model_common_83
                · by_cases e89 : w = 2
                  · subst e89
                    refine j_iload_n (pc := 8) C d_Model_common_8 rfl 2 rfl ?_
                    refine j_i2l (pc := 9) C (v := 2) d_Model_common_9 (by decide) ?_
                    refine j_lconst (pc := 10) C (v := 0) d_Model_common_10 (by decide) ?_
                    refine j_iload_n (pc := 11) C d_Model_common_11 rfl 1 rfl ?_
                    refine j_iconst (pc := 12) C (v := 1) d_Model_common_12 (by decide) ?_
                    refine j_isub (pc := 13) C (v := 5) d_Model_common_13 (by decide) ?_
                    refine j_i2l (pc := 14) C (v := 5) d_Model_common_14 (by decide) ?_
                    refine j_callSi (pc := 15) C (c_isIn_c l D y 2 0 5 2 0 5 (by decide) (by decide) (by decide)) kw_Model_240 ks_Model_isIn ⟨by decide, by decide⟩ ⟨by decide, by decide⟩ (wr := [(ad 43, .inl (y 0, 8, .inl (fun _ => 0))), (ad 45, .inl (y 0, 14, .inl lakeF)), (ad 68, .inl (y 0, 63, .inl f)), (ad 72, .inl (y 0, 7, .inl powF)), (ad 71, .inl (y 0, 1093, .inl (fun _ => 0))), (ad 70, .inl (y 0, 6558, .inl (fun _ => 0))), MB mo ad 0 0 0 0 0 0 0 (-1) 0 0 0 0 0 0 0 0 0 0 1 0, (ad 62, .inl (y 0, 63, .inl (dayF 0)))]) [] [0, 1, 2, 3, 4, 5, 6, 7] rfl rfl (by decide) (by decide) (by decide) (As := [.long 2, .long 0, .long 5]) (rest := []) rfl (nb rfl) rfl d_Model_common_15 (fun r90 _ hr90 => ?_)
                    refine j_ws (ws' := [(ad 43, .inl (y 0, 8, .inl (fun _ => 0))), (ad 45, .inl (y 0, 14, .inl lakeF)), (ad 68, .inl (y 0, 63, .inl f)), (ad 72, .inl (y 0, 7, .inl powF)), (ad 71, .inl (y 0, 1093, .inl (fun _ => 0))), (ad 70, .inl (y 0, 6558, .inl (fun _ => 0))), MB mo ad 0 0 0 0 0 0 0 (-1) 0 0 0 0 0 0 0 0 0 0 1 0, (ad 62, .inl (y 0, 63, .inl (dayF 0)))]) rfl ?_
                    rw [if_pos (by decide)] at hr90
                    subst hr90
                    refine j_if_neT (pc := 18) C (tgt := 42) d_Model_common_18 (by decide) (by decide) ?_
                    refine j_aload_n (pc := 42) C d_Model_common_42 rfl 0 rfl ?_
                    refine j_iload_n (pc := 43) C d_Model_common_43 rfl 1 rfl ?_
                    refine j_iconst (pc := 44) C (v := 1) d_Model_common_44 (by decide) ?_
                    refine j_st (st' := [.int 1, .int (nI (5 + 1)), .ref mo]) rfl ?_
                    refine j_callVv (pc := 45) C (c_M_plans l D y mo ad 5 1 f (by decide)) kw_Model_522 kv_Model_plans 0 10 rfl rfl ⟨by decide, by decide⟩ ⟨by decide, by decide⟩ (wr := []) [6, 0, 7, 1, 2, 3, 4, 5] [] rfl rfl (by decide) (by decide) (by decide) (As := [.int (nI (5 + 1)), .int 1]) (rest := []) rfl (nb rfl) rfl d_Model_common_45 (fun _ _ => ?_)
                    refine j_ws (ws' := [MB mo ad 0 0 0 0 0 0 0 (-1) 0 0 0 0 0 0 0 0 0 0 1 0, (ad 43, .inl (y 0, 8, .inl (fun _ => 0))), (ad 62, .inl (y 0, 63, .inl (dayF 0))), (ad 45, .inl (y 0, 14, .inl lakeF)), (ad 68, .inl (y 0, 63, .inl (dayF 0))), (ad 72, .inl (y 0, 7, .inl powF)), (ad 71, .inl (y 0, 1093, .inl (fun _ => 0))), (ad 70, .inl (y 0, 6558, .inl (fun _ => 0)))]) rfl ?_
                    refine j_iload_n (pc := 48) C d_Model_common_48 rfl 2 rfl ?_
                    refine j_iload_n (pc := 49) C d_Model_common_49 rfl 1 rfl ?_
                    refine j_icmp_geF (pc := 50) C (tgt := 61) d_Model_common_50 (by decide) (by decide) ?_
                    refine j_aload_n (pc := 53) C d_Model_common_53 rfl 0 rfl ?_
                    refine j_iload_n (pc := 54) C d_Model_common_54 rfl 2 rfl ?_
                    refine j_callVi (pc := 55) C (c_M_actOf_2 l D y mo ad) kw_Model_525 kv_Model_actOf 0 10 rfl rfl ⟨by decide, by decide⟩ ⟨by decide, by decide⟩ (wr := [(ad 43, .inl (y 0, 8, .inl (fun _ => 0))), (ad 62, .inl (y 0, 63, .inl (dayF 0))), (ad 45, .inl (y 0, 14, .inl lakeF)), (ad 68, .inl (y 0, 63, .inl (dayF 0))), (ad 70, .inl (y 0, 6558, .inl (fun _ => 0)))]) [0, 5, 6] [1, 2, 3, 4, 7] rfl rfl (by decide) (by decide) (by decide) (As := [.int 2]) (rest := []) rfl (nb rfl) rfl d_Model_common_55 (fun r91 _ hr91 => ?_)
                    subst hr91
                    refine j_ws (ws' := [(ad 43, .inl (y 0, 8, .inl (fun _ => 0))), (ad 62, .inl (y 0, 63, .inl (dayF 0))), (ad 45, .inl (y 0, 14, .inl lakeF)), (ad 68, .inl (y 0, 63, .inl (dayF 0))), (ad 70, .inl (y 0, 6558, .inl (fun _ => 0)))]) rfl ?_
                    refine j_st (st' := [.int 0]) rfl ?_
                    refine j_goto (pc := 58) C (tgt := 83) d_Model_common_58 (by decide) ?_
                    exact j_iret (pc := 83) C hr rfl () (by decide) [] rfl (by decide) (by decide) (by decide) d_Model_common_83
                  · by_cases e92 : w = 3
                    · subst e92
                      refine j_iload_n (pc := 8) C d_Model_common_8 rfl 2 rfl ?_
                      refine j_i2l (pc := 9) C (v := 3) d_Model_common_9 (by decide) ?_
                      refine j_lconst (pc := 10) C (v := 0) d_Model_common_10 (by decide) ?_
                      refine j_iload_n (pc := 11) C d_Model_common_11 rfl 1 rfl ?_
                      refine j_iconst (pc := 12) C (v := 1) d_Model_common_12 (by decide) ?_
                      refine j_isub (pc := 13) C (v := 5) d_Model_common_13 (by decide) ?_
                      refine j_i2l (pc := 14) C (v := 5) d_Model_common_14 (by decide) ?_
                      refine j_callSi (pc := 15) C (c_isIn_c l D y 3 0 5 3 0 5 (by decide) (by decide) (by decide)) kw_Model_240 ks_Model_isIn ⟨by decide, by decide⟩ ⟨by decide, by decide⟩ (wr := [(ad 43, .inl (y 0, 8, .inl (fun _ => 0))), (ad 45, .inl (y 0, 14, .inl lakeF)), (ad 68, .inl (y 0, 63, .inl f)), (ad 72, .inl (y 0, 7, .inl powF)), (ad 71, .inl (y 0, 1093, .inl (fun _ => 0))), (ad 70, .inl (y 0, 6558, .inl (fun _ => 0))), MB mo ad 0 0 0 0 0 0 0 (-1) 0 0 0 0 0 0 0 0 0 0 1 0, (ad 62, .inl (y 0, 63, .inl (dayF 0)))]) [] [0, 1, 2, 3, 4, 5, 6, 7] rfl rfl (by decide) (by decide) (by decide) (As := [.long 3, .long 0, .long 5]) (rest := []) rfl (nb rfl) rfl d_Model_common_15 (fun r93 _ hr93 => ?_)
                      refine j_ws (ws' := [(ad 43, .inl (y 0, 8, .inl (fun _ => 0))), (ad 45, .inl (y 0, 14, .inl lakeF)), (ad 68, .inl (y 0, 63, .inl f)), (ad 72, .inl (y 0, 7, .inl powF)), (ad 71, .inl (y 0, 1093, .inl (fun _ => 0))), (ad 70, .inl (y 0, 6558, .inl (fun _ => 0))), MB mo ad 0 0 0 0 0 0 0 (-1) 0 0 0 0 0 0 0 0 0 0 1 0, (ad 62, .inl (y 0, 63, .inl (dayF 0)))]) rfl ?_
                      rw [if_pos (by decide)] at hr93
                      subst hr93
                      refine j_if_neT (pc := 18) C (tgt := 42) d_Model_common_18 (by decide) (by decide) ?_
                      refine j_aload_n (pc := 42) C d_Model_common_42 rfl 0 rfl ?_
                      refine j_iload_n (pc := 43) C d_Model_common_43 rfl 1 rfl ?_
                      refine j_iconst (pc := 44) C (v := 1) d_Model_common_44 (by decide) ?_
                      refine j_st (st' := [.int 1, .int (nI (5 + 1)), .ref mo]) rfl ?_
                      refine j_callVv (pc := 45) C (c_M_plans l D y mo ad 5 1 f (by decide)) kw_Model_522 kv_Model_plans 0 10 rfl rfl ⟨by decide, by decide⟩ ⟨by decide, by decide⟩ (wr := []) [6, 0, 7, 1, 2, 3, 4, 5] [] rfl rfl (by decide) (by decide) (by decide) (As := [.int (nI (5 + 1)), .int 1]) (rest := []) rfl (nb rfl) rfl d_Model_common_45 (fun _ _ => ?_)
                      refine j_ws (ws' := [MB mo ad 0 0 0 0 0 0 0 (-1) 0 0 0 0 0 0 0 0 0 0 1 0, (ad 43, .inl (y 0, 8, .inl (fun _ => 0))), (ad 62, .inl (y 0, 63, .inl (dayF 0))), (ad 45, .inl (y 0, 14, .inl lakeF)), (ad 68, .inl (y 0, 63, .inl (dayF 0))), (ad 72, .inl (y 0, 7, .inl powF)), (ad 71, .inl (y 0, 1093, .inl (fun _ => 0))), (ad 70, .inl (y 0, 6558, .inl (fun _ => 0)))]) rfl ?_
                      refine j_iload_n (pc := 48) C d_Model_common_48 rfl 2 rfl ?_
                      refine j_iload_n (pc := 49) C d_Model_common_49 rfl 1 rfl ?_
                      refine j_icmp_geF (pc := 50) C (tgt := 61) d_Model_common_50 (by decide) (by decide) ?_
                      refine j_aload_n (pc := 53) C d_Model_common_53 rfl 0 rfl ?_
                      refine j_iload_n (pc := 54) C d_Model_common_54 rfl 2 rfl ?_
                      refine j_callVi (pc := 55) C (c_M_actOf_3 l D y mo ad) kw_Model_525 kv_Model_actOf 0 10 rfl rfl ⟨by decide, by decide⟩ ⟨by decide, by decide⟩ (wr := [(ad 43, .inl (y 0, 8, .inl (fun _ => 0))), (ad 62, .inl (y 0, 63, .inl (dayF 0))), (ad 45, .inl (y 0, 14, .inl lakeF)), (ad 68, .inl (y 0, 63, .inl (dayF 0))), (ad 70, .inl (y 0, 6558, .inl (fun _ => 0)))]) [0, 5, 6] [1, 2, 3, 4, 7] rfl rfl (by decide) (by decide) (by decide) (As := [.int 3]) (rest := []) rfl (nb rfl) rfl d_Model_common_55 (fun r94 _ hr94 => ?_)
                      subst hr94
                      refine j_ws (ws' := [(ad 43, .inl (y 0, 8, .inl (fun _ => 0))), (ad 62, .inl (y 0, 63, .inl (dayF 0))), (ad 45, .inl (y 0, 14, .inl lakeF)), (ad 68, .inl (y 0, 63, .inl (dayF 0))), (ad 70, .inl (y 0, 6558, .inl (fun _ => 0)))]) rfl ?_
                      refine j_st (st' := [.int 0]) rfl ?_
                      refine j_goto (pc := 58) C (tgt := 83) d_Model_common_58 (by decide) ?_
                      exact j_iret (pc := 83) C hr rfl () (by decide) [] rfl (by decide) (by decide) (by decide) d_Model_common_83
                    · by_cases e95 : w = 4
                      · subst e95
                        refine j_iload_n (pc := 8) C d_Model_common_8 rfl 2 rfl ?_
                        refine j_i2l (pc := 9) C (v := 4) d_Model_common_9 (by decide) ?_
                        refine j_lconst (pc := 10) C (v := 0) d_Model_common_10 (by decide) ?_
                        refine j_iload_n (pc := 11) C d_Model_common_11 rfl 1 rfl ?_
                        refine j_iconst (pc := 12) C (v := 1) d_Model_common_12 (by decide) ?_
                        refine j_isub (pc := 13) C (v := 5) d_Model_common_13 (by decide) ?_
                        refine j_i2l (pc := 14) C (v := 5) d_Model_common_14 (by decide) ?_
                        refine j_callSi (pc := 15) C (c_isIn_c l D y 4 0 5 4 0 5 (by decide) (by decide) (by decide)) kw_Model_240 ks_Model_isIn ⟨by decide, by decide⟩ ⟨by decide, by decide⟩ (wr := [(ad 43, .inl (y 0, 8, .inl (fun _ => 0))), (ad 45, .inl (y 0, 14, .inl lakeF)), (ad 68, .inl (y 0, 63, .inl f)), (ad 72, .inl (y 0, 7, .inl powF)), (ad 71, .inl (y 0, 1093, .inl (fun _ => 0))), (ad 70, .inl (y 0, 6558, .inl (fun _ => 0))), MB mo ad 0 0 0 0 0 0 0 (-1) 0 0 0 0 0 0 0 0 0 0 1 0, (ad 62, .inl (y 0, 63, .inl (dayF 0)))]) [] [0, 1, 2, 3, 4, 5, 6, 7] rfl rfl (by decide) (by decide) (by decide) (As := [.long 4, .long 0, .long 5]) (rest := []) rfl (nb rfl) rfl d_Model_common_15 (fun r96 _ hr96 => ?_)
                        refine j_ws (ws' := [(ad 43, .inl (y 0, 8, .inl (fun _ => 0))), (ad 45, .inl (y 0, 14, .inl lakeF)), (ad 68, .inl (y 0, 63, .inl f)), (ad 72, .inl (y 0, 7, .inl powF)), (ad 71, .inl (y 0, 1093, .inl (fun _ => 0))), (ad 70, .inl (y 0, 6558, .inl (fun _ => 0))), MB mo ad 0 0 0 0 0 0 0 (-1) 0 0 0 0 0 0 0 0 0 0 1 0, (ad 62, .inl (y 0, 63, .inl (dayF 0)))]) rfl ?_
                        rw [if_pos (by decide)] at hr96
                        subst hr96
                        refine j_if_neT (pc := 18) C (tgt := 42) d_Model_common_18 (by decide) (by decide) ?_
                        refine j_aload_n (pc := 42) C d_Model_common_42 rfl 0 rfl ?_
                        refine j_iload_n (pc := 43) C d_Model_common_43 rfl 1 rfl ?_
                        refine j_iconst (pc := 44) C (v := 1) d_Model_common_44 (by decide) ?_
                        refine j_st (st' := [.int 1, .int (nI (5 + 1)), .ref mo]) rfl ?_
                        refine j_callVv (pc := 45) C (c_M_plans l D y mo ad 5 1 f (by decide)) kw_Model_522 kv_Model_plans 0 10 rfl rfl ⟨by decide, by decide⟩ ⟨by decide, by decide⟩ (wr := []) [6, 0, 7, 1, 2, 3, 4, 5] [] rfl rfl (by decide) (by decide) (by decide) (As := [.int (nI (5 + 1)), .int 1]) (rest := []) rfl (nb rfl) rfl d_Model_common_45 (fun _ _ => ?_)
                        refine j_ws (ws' := [MB mo ad 0 0 0 0 0 0 0 (-1) 0 0 0 0 0 0 0 0 0 0 1 0, (ad 43, .inl (y 0, 8, .inl (fun _ => 0))), (ad 62, .inl (y 0, 63, .inl (dayF 0))), (ad 45, .inl (y 0, 14, .inl lakeF)), (ad 68, .inl (y 0, 63, .inl (dayF 0))), (ad 72, .inl (y 0, 7, .inl powF)), (ad 71, .inl (y 0, 1093, .inl (fun _ => 0))), (ad 70, .inl (y 0, 6558, .inl (fun _ => 0)))]) rfl ?_
                        refine j_iload_n (pc := 48) C d_Model_common_48 rfl 2 rfl ?_
                        refine j_iload_n (pc := 49) C d_Model_common_49 rfl 1 rfl ?_
                        refine j_icmp_geF (pc := 50) C (tgt := 61) d_Model_common_50 (by decide) (by decide) ?_
                        refine j_aload_n (pc := 53) C d_Model_common_53 rfl 0 rfl ?_
                        refine j_iload_n (pc := 54) C d_Model_common_54 rfl 2 rfl ?_
                        refine j_callVi (pc := 55) C (c_M_actOf_4 l D y mo ad) kw_Model_525 kv_Model_actOf 0 10 rfl rfl ⟨by decide, by decide⟩ ⟨by decide, by decide⟩ (wr := [(ad 43, .inl (y 0, 8, .inl (fun _ => 0))), (ad 62, .inl (y 0, 63, .inl (dayF 0))), (ad 45, .inl (y 0, 14, .inl lakeF)), (ad 68, .inl (y 0, 63, .inl (dayF 0))), (ad 70, .inl (y 0, 6558, .inl (fun _ => 0)))]) [0, 5, 6] [1, 2, 3, 4, 7] rfl rfl (by decide) (by decide) (by decide) (As := [.int 4]) (rest := []) rfl (nb rfl) rfl d_Model_common_55 (fun r97 _ hr97 => ?_)
                        subst hr97
                        refine j_ws (ws' := [(ad 43, .inl (y 0, 8, .inl (fun _ => 0))), (ad 62, .inl (y 0, 63, .inl (dayF 0))), (ad 45, .inl (y 0, 14, .inl lakeF)), (ad 68, .inl (y 0, 63, .inl (dayF 0))), (ad 70, .inl (y 0, 6558, .inl (fun _ => 0)))]) rfl ?_
                        refine j_st (st' := [.int 0]) rfl ?_
                        refine j_goto (pc := 58) C (tgt := 83) d_Model_common_58 (by decide) ?_
                        exact j_iret (pc := 83) C hr rfl () (by decide) [] rfl (by decide) (by decide) (by decide) d_Model_common_83
                      · by_cases e98 : w = 5
                        · subst e98
                          refine j_iload_n (pc := 8) C d_Model_common_8 rfl 2 rfl ?_
                          refine j_i2l (pc := 9) C (v := 5) d_Model_common_9 (by decide) ?_
                          refine j_lconst (pc := 10) C (v := 0) d_Model_common_10 (by decide) ?_
                          refine j_iload_n (pc := 11) C d_Model_common_11 rfl 1 rfl ?_
                          refine j_iconst (pc := 12) C (v := 1) d_Model_common_12 (by decide) ?_
                          refine j_isub (pc := 13) C (v := 5) d_Model_common_13 (by decide) ?_
                          refine j_i2l (pc := 14) C (v := 5) d_Model_common_14 (by decide) ?_
                          refine j_callSi (pc := 15) C (c_isIn_c l D y 5 0 5 5 0 5 (by decide) (by decide) (by decide)) kw_Model_240 ks_Model_isIn ⟨by decide, by decide⟩ ⟨by decide, by decide⟩ (wr := [(ad 43, .inl (y 0, 8, .inl (fun _ => 0))), (ad 45, .inl (y 0, 14, .inl lakeF)), (ad 68, .inl (y 0, 63, .inl f)), (ad 72, .inl (y 0, 7, .inl powF)), (ad 71, .inl (y 0, 1093, .inl (fun _ => 0))), (ad 70, .inl (y 0, 6558, .inl (fun _ => 0))), MB mo ad 0 0 0 0 0 0 0 (-1) 0 0 0 0 0 0 0 0 0 0 1 0, (ad 62, .inl (y 0, 63, .inl (dayF 0)))]) [] [0, 1, 2, 3, 4, 5, 6, 7] rfl rfl (by decide) (by decide) (by decide) (As := [.long 5, .long 0, .long 5]) (rest := []) rfl (nb rfl) rfl d_Model_common_15 (fun r99 _ hr99 => ?_)
                          refine j_ws (ws' := [(ad 43, .inl (y 0, 8, .inl (fun _ => 0))), (ad 45, .inl (y 0, 14, .inl lakeF)), (ad 68, .inl (y 0, 63, .inl f)), (ad 72, .inl (y 0, 7, .inl powF)), (ad 71, .inl (y 0, 1093, .inl (fun _ => 0))), (ad 70, .inl (y 0, 6558, .inl (fun _ => 0))), MB mo ad 0 0 0 0 0 0 0 (-1) 0 0 0 0 0 0 0 0 0 0 1 0, (ad 62, .inl (y 0, 63, .inl (dayF 0)))]) rfl ?_
                          rw [if_pos (by decide)] at hr99
                          subst hr99
                          refine j_if_neT (pc := 18) C (tgt := 42) d_Model_common_18 (by decide) (by decide) ?_
                          refine j_aload_n (pc := 42) C d_Model_common_42 rfl 0 rfl ?_
                          refine j_iload_n (pc := 43) C d_Model_common_43 rfl 1 rfl ?_
                          refine j_iconst (pc := 44) C (v := 1) d_Model_common_44 (by decide) ?_
                          refine j_st (st' := [.int 1, .int (nI (5 + 1)), .ref mo]) rfl ?_
                          refine j_callVv (pc := 45) C (c_M_plans l D y mo ad 5 1 f (by decide)) kw_Model_522 kv_Model_plans 0 10 rfl rfl ⟨by decide, by decide⟩ ⟨by decide, by decide⟩ (wr := []) [6, 0, 7, 1, 2, 3, 4, 5] [] rfl rfl (by decide) (by decide) (by decide) (As := [.int (nI (5 + 1)), .int 1]) (rest := []) rfl (nb rfl) rfl d_Model_common_45 (fun _ _ => ?_)
                          refine j_ws (ws' := [MB mo ad 0 0 0 0 0 0 0 (-1) 0 0 0 0 0 0 0 0 0 0 1 0, (ad 43, .inl (y 0, 8, .inl (fun _ => 0))), (ad 62, .inl (y 0, 63, .inl (dayF 0))), (ad 45, .inl (y 0, 14, .inl lakeF)), (ad 68, .inl (y 0, 63, .inl (dayF 0))), (ad 72, .inl (y 0, 7, .inl powF)), (ad 71, .inl (y 0, 1093, .inl (fun _ => 0))), (ad 70, .inl (y 0, 6558, .inl (fun _ => 0)))]) rfl ?_
                          refine j_iload_n (pc := 48) C d_Model_common_48 rfl 2 rfl ?_
                          refine j_iload_n (pc := 49) C d_Model_common_49 rfl 1 rfl ?_
                          refine j_icmp_geF (pc := 50) C (tgt := 61) d_Model_common_50 (by decide) (by decide) ?_
                          refine j_aload_n (pc := 53) C d_Model_common_53 rfl 0 rfl ?_
                          refine j_iload_n (pc := 54) C d_Model_common_54 rfl 2 rfl ?_
                          refine j_callVi (pc := 55) C (c_M_actOf_5 l D y mo ad) kw_Model_525 kv_Model_actOf 0 10 rfl rfl ⟨by decide, by decide⟩ ⟨by decide, by decide⟩ (wr := [(ad 43, .inl (y 0, 8, .inl (fun _ => 0))), (ad 62, .inl (y 0, 63, .inl (dayF 0))), (ad 45, .inl (y 0, 14, .inl lakeF)), (ad 68, .inl (y 0, 63, .inl (dayF 0))), (ad 70, .inl (y 0, 6558, .inl (fun _ => 0)))]) [0, 5, 6] [1, 2, 3, 4, 7] rfl rfl (by decide) (by decide) (by decide) (As := [.int 5]) (rest := []) rfl (nb rfl) rfl d_Model_common_55 (fun r100 _ hr100 => ?_)
                          subst hr100
                          refine j_ws (ws' := [(ad 43, .inl (y 0, 8, .inl (fun _ => 0))), (ad 62, .inl (y 0, 63, .inl (dayF 0))), (ad 45, .inl (y 0, 14, .inl lakeF)), (ad 68, .inl (y 0, 63, .inl (dayF 0))), (ad 70, .inl (y 0, 6558, .inl (fun _ => 0)))]) rfl ?_
                          refine j_st (st' := [.int 0]) rfl ?_
                          refine j_goto (pc := 58) C (tgt := 83) d_Model_common_58 (by decide) ?_
                          exact j_iret (pc := 83) C hr rfl () (by decide) [] rfl (by decide) (by decide) (by decide) d_Model_common_83
                        · by_cases e101 : w = 9
                          · subst e101
                            refine j_iload_n (pc := 8) C d_Model_common_8 rfl 2 rfl ?_
                            refine j_i2l (pc := 9) C (v := 9) d_Model_common_9 (by decide) ?_
                            refine j_lconst (pc := 10) C (v := 0) d_Model_common_10 (by decide) ?_
                            refine j_iload_n (pc := 11) C d_Model_common_11 rfl 1 rfl ?_
                            refine j_iconst (pc := 12) C (v := 1) d_Model_common_12 (by decide) ?_
                            refine j_isub (pc := 13) C (v := 5) d_Model_common_13 (by decide) ?_
                            refine j_i2l (pc := 14) C (v := 5) d_Model_common_14 (by decide) ?_
                            refine j_callSi (pc := 15) C (c_isIn_c l D y 9 0 5 9 0 5 (by decide) (by decide) (by decide)) kw_Model_240 ks_Model_isIn ⟨by decide, by decide⟩ ⟨by decide, by decide⟩ (wr := [(ad 43, .inl (y 0, 8, .inl (fun _ => 0))), (ad 45, .inl (y 0, 14, .inl lakeF)), (ad 68, .inl (y 0, 63, .inl f)), (ad 72, .inl (y 0, 7, .inl powF)), (ad 71, .inl (y 0, 1093, .inl (fun _ => 0))), (ad 70, .inl (y 0, 6558, .inl (fun _ => 0))), MB mo ad 0 0 0 0 0 0 0 (-1) 0 0 0 0 0 0 0 0 0 0 1 0, (ad 62, .inl (y 0, 63, .inl (dayF 0)))]) [] [0, 1, 2, 3, 4, 5, 6, 7] rfl rfl (by decide) (by decide) (by decide) (As := [.long 9, .long 0, .long 5]) (rest := []) rfl (nb rfl) rfl d_Model_common_15 (fun r102 _ hr102 => ?_)
                            refine j_ws (ws' := [(ad 43, .inl (y 0, 8, .inl (fun _ => 0))), (ad 45, .inl (y 0, 14, .inl lakeF)), (ad 68, .inl (y 0, 63, .inl f)), (ad 72, .inl (y 0, 7, .inl powF)), (ad 71, .inl (y 0, 1093, .inl (fun _ => 0))), (ad 70, .inl (y 0, 6558, .inl (fun _ => 0))), MB mo ad 0 0 0 0 0 0 0 (-1) 0 0 0 0 0 0 0 0 0 0 1 0, (ad 62, .inl (y 0, 63, .inl (dayF 0)))]) rfl ?_
                            rw [if_neg (by decide)] at hr102
                            subst hr102
                            refine j_if_neF (pc := 18) C (tgt := 42) d_Model_common_18 (by decide) (by decide) ?_
                            refine j_iload_n (pc := 21) C d_Model_common_21 rfl 2 rfl ?_
                            refine j_bipush (pc := 22) C (v := 9) d_Model_common_22 (by decide) ?_
                            refine j_icmp_eqT (pc := 24) C (tgt := 42) d_Model_common_24 (by decide) (by decide) ?_
                            refine j_aload_n (pc := 42) C d_Model_common_42 rfl 0 rfl ?_
                            refine j_iload_n (pc := 43) C d_Model_common_43 rfl 1 rfl ?_
                            refine j_iconst (pc := 44) C (v := 1) d_Model_common_44 (by decide) ?_
                            refine j_st (st' := [.int 1, .int (nI (5 + 1)), .ref mo]) rfl ?_
                            refine j_callVv (pc := 45) C (c_M_plans l D y mo ad 5 1 f (by decide)) kw_Model_522 kv_Model_plans 0 10 rfl rfl ⟨by decide, by decide⟩ ⟨by decide, by decide⟩ (wr := []) [6, 0, 7, 1, 2, 3, 4, 5] [] rfl rfl (by decide) (by decide) (by decide) (As := [.int (nI (5 + 1)), .int 1]) (rest := []) rfl (nb rfl) rfl d_Model_common_45 (fun _ _ => ?_)
                            refine j_ws (ws' := [MB mo ad 0 0 0 0 0 0 0 (-1) 0 0 0 0 0 0 0 0 0 0 1 0, (ad 43, .inl (y 0, 8, .inl (fun _ => 0))), (ad 62, .inl (y 0, 63, .inl (dayF 0))), (ad 45, .inl (y 0, 14, .inl lakeF)), (ad 68, .inl (y 0, 63, .inl (dayF 0))), (ad 72, .inl (y 0, 7, .inl powF)), (ad 71, .inl (y 0, 1093, .inl (fun _ => 0))), (ad 70, .inl (y 0, 6558, .inl (fun _ => 0)))]) rfl ?_
                            refine j_iload_n (pc := 48) C d_Model_common_48 rfl 2 rfl ?_
                            refine j_iload_n (pc := 49) C d_Model_common_49 rfl 1 rfl ?_
                            refine j_icmp_geT (pc := 50) C (tgt := 61) d_Model_common_50 (by decide) (by decide) ?_
                            refine j_iload_n (pc := 61) C d_Model_common_61 rfl 2 rfl ?_
                            refine j_bipush (pc := 62) C (v := 9) d_Model_common_62 (by decide) ?_
                            refine j_icmp_neF (pc := 64) C (tgt := 74) d_Model_common_64 (by decide) (by decide) ?_
                            refine j_aload_n (pc := 67) C d_Model_common_67 rfl 0 rfl ?_
                            refine j_callVi (pc := 68) C (c_M_sumOfGets l D y mo ad) kw_Model_528 kv_Model_sumOfGets 0 10 rfl rfl ⟨by decide, by decide⟩ ⟨by decide, by decide⟩ (wr := [(ad 62, .inl (y 0, 63, .inl (dayF 0))), (ad 45, .inl (y 0, 14, .inl lakeF)), (ad 68, .inl (y 0, 63, .inl (dayF 0))), (ad 72, .inl (y 0, 7, .inl powF)), (ad 71, .inl (y 0, 1093, .inl (fun _ => 0))), (ad 70, .inl (y 0, 6558, .inl (fun _ => 0)))]) [0, 1] [2, 3, 4, 5, 6, 7] rfl rfl (by decide) (by decide) (by decide) (As := []) (rest := []) rfl (nb rfl) rfl d_Model_common_68 (fun r103 _ hr103 => ?_)
                            subst hr103
                            refine j_ws (ws' := [(ad 62, .inl (y 0, 63, .inl (dayF 0))), (ad 45, .inl (y 0, 14, .inl lakeF)), (ad 68, .inl (y 0, 63, .inl (dayF 0))), (ad 72, .inl (y 0, 7, .inl powF)), (ad 71, .inl (y 0, 1093, .inl (fun _ => 0))), (ad 70, .inl (y 0, 6558, .inl (fun _ => 0)))]) rfl ?_
                            refine j_st (st' := [.int 0]) rfl ?_
                            refine j_goto (pc := 71) C (tgt := 83) d_Model_common_71 (by decide) ?_
                            exact j_iret (pc := 83) C hr rfl () (by decide) [] rfl (by decide) (by decide) (by decide) d_Model_common_83
                          · refine j_iload_n (pc := 8) C d_Model_common_8 rfl 2 rfl ?_
                            refine j_i2l (pc := 9) C (v := w.toInt64) d_Model_common_9 rfl ?_
                            refine j_lconst (pc := 10) C (v := 0) d_Model_common_10 (by decide) ?_
                            refine j_iload_n (pc := 11) C d_Model_common_11 rfl 1 rfl ?_
                            refine j_iconst (pc := 12) C (v := 1) d_Model_common_12 (by decide) ?_
                            refine j_isub (pc := 13) C (v := 5) d_Model_common_13 (by decide) ?_
                            refine j_i2l (pc := 14) C (v := 5) d_Model_common_14 (by decide) ?_
                            refine j_callSi (pc := 15) C (c_isIn_x l D y w 0 5 0 5 (by decide) (by decide)) kw_Model_240 ks_Model_isIn ⟨by decide, by decide⟩ ⟨by decide, by decide⟩ (wr := [(ad 43, .inl (y 0, 8, .inl (fun _ => 0))), (ad 45, .inl (y 0, 14, .inl lakeF)), (ad 68, .inl (y 0, 63, .inl f)), (ad 72, .inl (y 0, 7, .inl powF)), (ad 71, .inl (y 0, 1093, .inl (fun _ => 0))), (ad 70, .inl (y 0, 6558, .inl (fun _ => 0))), MB mo ad 0 0 0 0 0 0 0 (-1) 0 0 0 0 0 0 0 0 0 0 1 0, (ad 62, .inl (y 0, 63, .inl (dayF 0)))]) [] [0, 1, 2, 3, 4, 5, 6, 7] rfl rfl (by decide) (by decide) (by decide) (As := [.long w.toInt64, .long 0, .long 5]) (rest := []) rfl (nb rfl) rfl d_Model_common_15 (fun r104 _ hr104 => ?_)
                            refine j_ws (ws' := [(ad 43, .inl (y 0, 8, .inl (fun _ => 0))), (ad 45, .inl (y 0, 14, .inl lakeF)), (ad 68, .inl (y 0, 63, .inl f)), (ad 72, .inl (y 0, 7, .inl powF)), (ad 71, .inl (y 0, 1093, .inl (fun _ => 0))), (ad 70, .inl (y 0, 6558, .inl (fun _ => 0))), MB mo ad 0 0 0 0 0 0 0 (-1) 0 0 0 0 0 0 0 0 0 0 1 0, (ad 62, .inl (y 0, 63, .inl (dayF 0)))]) rfl ?_
                            rw [if_neg (by simp only [← Int32.toInt_inj, (by decide : Int32.toInt 0 = 0), (by decide : Int32.toInt 1 = 1), (by decide : Int32.toInt 2 = 2), (by decide : Int32.toInt 3 = 3), (by decide : Int32.toInt 4 = 4), (by decide : Int32.toInt 5 = 5), (by decide : Int32.toInt 6 = 6), (by decide : Int32.toInt 7 = 7), (by decide : Int32.toInt 8 = 8), (by decide : Int32.toInt 9 = 9)] at e83 e86 e89 e92 e95 e98 e101; omega)] at hr104
                            subst hr104
                            refine j_if_neF (pc := 18) C (tgt := 42) d_Model_common_18 (by decide) (by decide) ?_
                            refine j_iload_n (pc := 21) C d_Model_common_21 rfl 2 rfl ?_
                            refine j_bipush (pc := 22) C (v := 9) d_Model_common_22 (by decide) ?_
                            refine j_icmp_eqF (pc := 24) C (tgt := 42) d_Model_common_24 (by decide) e101 ?_
                            refine j_aload_n (pc := 27) C d_Model_common_27 rfl 0 rfl ?_
                            refine j_iload_n (pc := 28) C d_Model_common_28 rfl 2 rfl ?_
                            refine j_bipush (pc := 29) C (v := 10) d_Model_common_29 (by decide) ?_
                            refine j_isub (pc := 31) C (v := w - 10) d_Model_common_31 rfl ?_
                            refine j_callVi (pc := 32) C (c_M_isVillage l D y mo ad 0 0 1 (w - 10)) kw_Model_472 kv_Model_isVillage 0 10 rfl rfl ⟨by decide, by decide⟩ ⟨by decide, by decide⟩ (wr := [(ad 45, .inl (y 0, 14, .inl lakeF)), (ad 68, .inl (y 0, 63, .inl f)), (ad 72, .inl (y 0, 7, .inl powF)), (ad 71, .inl (y 0, 1093, .inl (fun _ => 0))), (ad 70, .inl (y 0, 6558, .inl (fun _ => 0))), (ad 62, .inl (y 0, 63, .inl (dayF 0)))]) [6, 0] [1, 2, 3, 4, 5, 7] rfl rfl (by decide) (by decide) (by decide) (As := [.int (w - 10)]) (rest := []) rfl (nb rfl) rfl d_Model_common_32 (fun r105 _ hr105 => ?_)
                            subst hr105
                            refine j_ws (ws' := [(ad 45, .inl (y 0, 14, .inl lakeF)), (ad 68, .inl (y 0, 63, .inl f)), (ad 72, .inl (y 0, 7, .inl powF)), (ad 71, .inl (y 0, 1093, .inl (fun _ => 0))), (ad 70, .inl (y 0, 6558, .inl (fun _ => 0))), (ad 62, .inl (y 0, 63, .inl (dayF 0))), MB mo ad 0 0 0 0 0 0 0 (-1) 0 0 0 0 0 0 0 0 0 0 1 0, (ad 43, .inl (y 0, 8, .inl (fun _ => 0)))]) rfl ?_
                            refine j_st (st' := [.int 0]) rfl ?_
                            refine j_if_neF (pc := 35) C (tgt := 42) d_Model_common_35 (by decide) (by decide) ?_
                            refine j_ldcw (pc := 38) C (v := (-1000000000)) (mt_7 (List.mem_of_getElem? (i := 94) rfl) rfl) d_Model_common_38 ?_
                            exact j_iret (pc := 41) C hr rfl () (by simp only [Int32.lt_iff_toInt_lt, Int32.le_iff_toInt_le, ← Int32.toInt_inj, (by decide : Int32.toInt 0 = 0), (by decide : Int32.toInt 1 = 1), (by decide : Int32.toInt 2 = 2), (by decide : Int32.toInt 3 = 3), (by decide : Int32.toInt 4 = 4), (by decide : Int32.toInt 5 = 5), (by decide : Int32.toInt 6 = 6), (by decide : Int32.toInt 7 = 7), (by decide : Int32.toInt 8 = 8), (by decide : Int32.toInt 9 = 9)] at e1 e11 e24 e40 e59 e83 e86 e89 e92 e95 e98 e101 ⊢; rw [if_neg (by omega)]) [] rfl (by decide) (by decide) (by decide) d_Model_common_41
            · refine j_aload_n (pc := 0) C d_Model_common_0 rfl 0 rfl ?_
              refine j_iload_n (pc := 1) C d_Model_common_1 rfl 1 rfl ?_
              refine j_callVi (pc := 2) C (c_M_canPlan_F l D y mo ad n (by simp only [← Int32.toInt_inj, (by decide : Int32.toInt 0 = 0), (by decide : Int32.toInt 1 = 1), (by decide : Int32.toInt 2 = 2), (by decide : Int32.toInt 3 = 3), (by decide : Int32.toInt 4 = 4), (by decide : Int32.toInt 5 = 5), (by decide : Int32.toInt 6 = 6), (by decide : Int32.toInt 7 = 7), (by decide : Int32.toInt 8 = 8), (by decide : Int32.toInt 9 = 9)] at e1 e11 e24 e40 e59 e81; omega)) kw_Model_519 kv_Model_canPlan 0 10 rfl rfl ⟨by decide, by decide⟩ ⟨by decide, by decide⟩ (wr := [(ad 43, .inl (y 0, 8, .inl (fun _ => 0))), (ad 45, .inl (y 0, 14, .inl lakeF)), (ad 68, .inl (y 0, 63, .inl f)), (ad 72, .inl (y 0, 7, .inl powF)), (ad 71, .inl (y 0, 1093, .inl (fun _ => 0))), (ad 70, .inl (y 0, 6558, .inl (fun _ => 0)))]) [0, 2] [1, 3, 4, 5, 6, 7] rfl rfl (by decide) (by decide) (by decide) (As := [.int n]) (rest := []) rfl (nb rfl) rfl d_Model_common_2 (fun r106 _ hr106 => ?_)
              subst hr106
              refine j_ws (ws' := [(ad 43, .inl (y 0, 8, .inl (fun _ => 0))), (ad 45, .inl (y 0, 14, .inl lakeF)), (ad 68, .inl (y 0, 63, .inl f)), (ad 72, .inl (y 0, 7, .inl powF)), (ad 71, .inl (y 0, 1093, .inl (fun _ => 0))), (ad 70, .inl (y 0, 6558, .inl (fun _ => 0))), MB mo ad 0 0 0 0 0 0 0 (-1) 0 0 0 0 0 0 0 0 0 0 1 0, (ad 62, .inl (y 0, 63, .inl (dayF 0)))]) rfl ?_
              refine j_st (st' := [.int 0]) rfl ?_
              refine j_if_eqT (pc := 5) C (tgt := 38) d_Model_common_5 (by decide) (by decide) ?_
              refine j_ldcw (pc := 38) C (v := (-1000000000)) (mt_7 (List.mem_of_getElem? (i := 94) rfl) rfl) d_Model_common_38 ?_
              exact j_iret (pc := 41) C hr rfl () (by simp only [Int32.lt_iff_toInt_lt, Int32.le_iff_toInt_le, ← Int32.toInt_inj, (by decide : Int32.toInt 0 = 0), (by decide : Int32.toInt 1 = 1), (by decide : Int32.toInt 2 = 2), (by decide : Int32.toInt 3 = 3), (by decide : Int32.toInt 4 = 4), (by decide : Int32.toInt 5 = 5), (by decide : Int32.toInt 6 = 6), (by decide : Int32.toInt 7 = 7), (by decide : Int32.toInt 8 = 8), (by decide : Int32.toInt 9 = 9)] at e1 e11 e24 e40 e59 e81; rw [if_neg (by omega)]) [] rfl (by decide) (by decide) (by decide) d_Model_common_41
