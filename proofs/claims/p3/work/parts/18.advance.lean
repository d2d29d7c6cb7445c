theorem d_Reader_advance_46 : decode prog_8_method_32_code 46 = .ok (.aload_n 0, 1) := by decide +kernel
theorem d_Reader_advance_47 : decode prog_8_method_32_code 47 = .ok (.getfield 47, 3) := by decide +kernel
theorem d_Reader_advance_50 : decode prog_8_method_32_code 50 = .ok (.iload_n 3, 1) := by decide +kernel
theorem d_Reader_advance_51 : decode prog_8_method_32_code 51 = .ok (.if_icmp .ge 50, 3) := by decide +kernel
theorem d_Reader_advance_54 : decode prog_8_method_32_code 54 = .ok (.aload_n 0, 1) := by decide +kernel
theorem d_Reader_advance_55 : decode prog_8_method_32_code 55 = .ok (.getfield 19, 3) := by decide +kernel
theorem d_Reader_advance_58 : decode prog_8_method_32_code 58 = .ok (.getfield 288, 3) := by decide +kernel
theorem d_Reader_advance_61 : decode prog_8_method_32_code 61 = .ok (.aload_n 0, 1) := by decide +kernel
theorem d_Reader_advance_62 : decode prog_8_method_32_code 62 = .ok (.getfield 47, 3) := by decide +kernel
theorem d_Reader_advance_65 : decode prog_8_method_32_code 65 = .ok (.iaload, 1) := by decide +kernel
theorem d_Reader_advance_66 : decode prog_8_method_32_code 66 = .ok (.bipush 32, 2) := by decide +kernel
theorem d_Reader_advance_68 : decode prog_8_method_32_code 68 = .ok (.if_icmp .eq 20, 3) := by decide +kernel
theorem d_Reader_advance_88 : decode prog_8_method_32_code 88 = .ok (.aload_n 0, 1) := by decide +kernel
theorem d_Reader_advance_89 : decode prog_8_method_32_code 89 = .ok (.dup, 1) := by decide +kernel
theorem d_Reader_advance_90 : decode prog_8_method_32_code 90 = .ok (.getfield 47, 3) := by decide +kernel
theorem d_Reader_advance_93 : decode prog_8_method_32_code 93 = .ok (.iconst 1, 1) := by decide +kernel
theorem d_Reader_advance_94 : decode prog_8_method_32_code 94 = .ok (.iadd, 1) := by decide +kernel
theorem d_Reader_advance_95 : decode prog_8_method_32_code 95 = .ok (.putfield 47, 3) := by decide +kernel
theorem d_Reader_advance_98 : decode prog_8_method_32_code 98 = .ok (.goto (-52), 3) := by decide +kernel
theorem d_Reader_advance_71 : decode prog_8_method_32_code 71 = .ok (.aload_n 0, 1) := by decide +kernel
theorem d_Reader_advance_72 : decode prog_8_method_32_code 72 = .ok (.getfield 19, 3) := by decide +kernel
theorem d_Reader_advance_75 : decode prog_8_method_32_code 75 = .ok (.getfield 288, 3) := by decide +kernel
theorem d_Reader_advance_78 : decode prog_8_method_32_code 78 = .ok (.aload_n 0, 1) := by decide +kernel
theorem d_Reader_advance_79 : decode prog_8_method_32_code 79 = .ok (.getfield 47, 3) := by decide +kernel
theorem d_Reader_advance_82 : decode prog_8_method_32_code 82 = .ok (.iaload, 1) := by decide +kernel
theorem d_Reader_advance_83 : decode prog_8_method_32_code 83 = .ok (.bipush 10, 2) := by decide +kernel
theorem d_Reader_advance_85 : decode prog_8_method_32_code 85 = .ok (.if_icmp .ne 16, 3) := by decide +kernel
theorem d_Reader_advance_176 : decode prog_8_method_32_code 176 = .ok (.aload_n 0, 1) := by decide +kernel
theorem d_Reader_advance_177 : decode prog_8_method_32_code 177 = .ok (.getfield 47, 3) := by decide +kernel
theorem d_Reader_advance_180 : decode prog_8_method_32_code 180 = .ok (.iload_n 3, 1) := by decide +kernel
theorem d_Reader_advance_181 : decode prog_8_method_32_code 181 = .ok (.if_icmp .ge 46, 3) := by decide +kernel
theorem d_Reader_advance_184 : decode prog_8_method_32_code 184 = .ok (.aload_n 0, 1) := by decide +kernel
theorem d_Reader_advance_185 : decode prog_8_method_32_code 185 = .ok (.getfield 50, 3) := by decide +kernel
theorem d_Reader_advance_188 : decode prog_8_method_32_code 188 = .ok (.iconst 3, 1) := by decide +kernel
theorem d_Reader_advance_189 : decode prog_8_method_32_code 189 = .ok (.if_icmp .eq 38, 3) := by decide +kernel
theorem d_Reader_advance_192 : decode prog_8_method_32_code 192 = .ok (.aload_n 0, 1) := by decide +kernel
theorem d_Reader_advance_193 : decode prog_8_method_32_code 193 = .ok (.getfield 19, 3) := by decide +kernel
theorem d_Reader_advance_196 : decode prog_8_method_32_code 196 = .ok (.getfield 288, 3) := by decide +kernel
theorem d_Reader_advance_199 : decode prog_8_method_32_code 199 = .ok (.aload_n 0, 1) := by decide +kernel
theorem d_Reader_advance_200 : decode prog_8_method_32_code 200 = .ok (.getfield 47, 3) := by decide +kernel
theorem d_Reader_advance_203 : decode prog_8_method_32_code 203 = .ok (.iaload, 1) := by decide +kernel
theorem d_Reader_advance_204 : decode prog_8_method_32_code 204 = .ok (.invokestatic 296, 3) := by decide +kernel
theorem kw_Reader_296 : KW "NineBoards$Reader" 296 ⟨"NineBoards$Reader", "sortOf", "(I)I"⟩ prog_8_method_33_code 1 (some .int) 1 := ⟨(mt_3 (List.mem_of_getElem? (i := 58) rfl) rfl), (mt_1 (List.mem_of_getElem? (i := 10) rfl) rfl), (mt_3 (List.mem_of_getElem? (i := 60) rfl) rfl), by decide +kernel⟩
theorem ks_Reader_sortOf : Cond.static ⟨"NineBoards$Reader", "sortOf", "(I)I"⟩ ∈ TB := (mt_3 (List.mem_of_getElem? (i := 59) rfl) rfl)
theorem d_Reader_advance_207 : decode prog_8_method_32_code 207 = .ok (.aload_n 0, 1) := by decide +kernel
theorem d_Reader_advance_208 : decode prog_8_method_32_code 208 = .ok (.getfield 50, 3) := by decide +kernel
theorem d_Reader_advance_211 : decode prog_8_method_32_code 211 = .ok (.if_icmp .ne 16, 3) := by decide +kernel
theorem d_Reader_advance_214 : decode prog_8_method_32_code 214 = .ok (.aload_n 0, 1) := by decide +kernel
theorem d_Reader_advance_215 : decode prog_8_method_32_code 215 = .ok (.dup, 1) := by decide +kernel
theorem d_Reader_advance_216 : decode prog_8_method_32_code 216 = .ok (.getfield 47, 3) := by decide +kernel
theorem d_Reader_advance_219 : decode prog_8_method_32_code 219 = .ok (.iconst 1, 1) := by decide +kernel
theorem d_Reader_advance_220 : decode prog_8_method_32_code 220 = .ok (.iadd, 1) := by decide +kernel
theorem d_Reader_advance_221 : decode prog_8_method_32_code 221 = .ok (.putfield 47, 3) := by decide +kernel
theorem d_Reader_advance_224 : decode prog_8_method_32_code 224 = .ok (.goto (-48), 3) := by decide +kernel
theorem d_Reader_advance_21 : decode prog_8_method_32_code 21 = .ok (.istore_n 1, 1) := by decide +kernel
theorem d_Reader_advance_22 : decode prog_8_method_32_code 22 = .ok (.aload_n 0, 1) := by decide +kernel
theorem d_Reader_advance_23 : decode prog_8_method_32_code 23 = .ok (.getfield 47, 3) := by decide +kernel
theorem d_Reader_advance_26 : decode prog_8_method_32_code 26 = .ok (.istore_n 2, 1) := by decide +kernel
theorem d_Reader_advance_27 : decode prog_8_method_32_code 27 = .ok (.aload_n 0, 1) := by decide +kernel
theorem d_Reader_advance_28 : decode prog_8_method_32_code 28 = .ok (.getfield 19, 3) := by decide +kernel
theorem d_Reader_advance_31 : decode prog_8_method_32_code 31 = .ok (.getfield 285, 3) := by decide +kernel
theorem d_Reader_advance_34 : decode prog_8_method_32_code 34 = .ok (.aload_n 0, 1) := by decide +kernel
theorem d_Reader_advance_35 : decode prog_8_method_32_code 35 = .ok (.getfield 19, 3) := by decide +kernel
theorem d_Reader_advance_38 : decode prog_8_method_32_code 38 = .ok (.getfield 288, 3) := by decide +kernel
theorem d_Reader_advance_41 : decode prog_8_method_32_code 41 = .ok (.arraylength, 1) := by decide +kernel
theorem d_Reader_advance_42 : decode prog_8_method_32_code 42 = .ok (.invokestatic 291, 3) := by decide +kernel
theorem d_Reader_advance_45 : decode prog_8_method_32_code 45 = .ok (.istore_n 3, 1) := by decide +kernel
theorem d_Reader_advance_101 : decode prog_8_method_32_code 101 = .ok (.aload_n 0, 1) := by decide +kernel
theorem d_Reader_advance_102 : decode prog_8_method_32_code 102 = .ok (.aload_n 0, 1) := by decide +kernel
theorem d_Reader_advance_103 : decode prog_8_method_32_code 103 = .ok (.getfield 47, 3) := by decide +kernel
theorem d_Reader_advance_106 : decode prog_8_method_32_code 106 = .ok (.putfield 62, 3) := by decide +kernel
theorem d_Reader_advance_109 : decode prog_8_method_32_code 109 = .ok (.aload_n 0, 1) := by decide +kernel
theorem d_Reader_advance_110 : decode prog_8_method_32_code 110 = .ok (.getfield 47, 3) := by decide +kernel
theorem d_Reader_advance_113 : decode prog_8_method_32_code 113 = .ok (.iload_n 3, 1) := by decide +kernel
theorem d_Reader_advance_114 : decode prog_8_method_32_code 114 = .ok (.if_icmp .lt 9, 3) := by decide +kernel
theorem d_Reader_advance_123 : decode prog_8_method_32_code 123 = .ok (.aload_n 0, 1) := by decide +kernel
theorem d_Reader_advance_124 : decode prog_8_method_32_code 124 = .ok (.aload_n 0, 1) := by decide +kernel
theorem d_Reader_advance_125 : decode prog_8_method_32_code 125 = .ok (.getfield 19, 3) := by decide +kernel
theorem d_Reader_advance_128 : decode prog_8_method_32_code 128 = .ok (.getfield 288, 3) := by decide +kernel
theorem d_Reader_advance_131 : decode prog_8_method_32_code 131 = .ok (.aload_n 0, 1) := by decide +kernel
theorem d_Reader_advance_132 : decode prog_8_method_32_code 132 = .ok (.getfield 47, 3) := by decide +kernel
theorem d_Reader_advance_135 : decode prog_8_method_32_code 135 = .ok (.iaload, 1) := by decide +kernel
theorem d_Reader_advance_136 : decode prog_8_method_32_code 136 = .ok (.putfield 272, 3) := by decide +kernel
theorem pf_Reader_272 : PF "NineBoards$Reader" 272 5 11 (.int) false := ⟨_, _, _, ct_Reader, rfl, ci_Reader, by decide, (mt_2 (List.mem_of_getElem? (i := 175) rfl) rfl), cp_Reader, cn_Reader, rfl, by decide +kernel, (fun h => by cases h)⟩
theorem d_Reader_advance_163 : decode prog_8_method_32_code 163 = .ok (.putfield 50, 3) := by decide +kernel
theorem d_Reader_advance_166 : decode prog_8_method_32_code 166 = .ok (.aload_n 0, 1) := by decide +kernel
theorem d_Reader_advance_167 : decode prog_8_method_32_code 167 = .ok (.dup, 1) := by decide +kernel
theorem d_Reader_advance_168 : decode prog_8_method_32_code 168 = .ok (.getfield 47, 3) := by decide +kernel
theorem d_Reader_advance_171 : decode prog_8_method_32_code 171 = .ok (.iconst 1, 1) := by decide +kernel
theorem d_Reader_advance_172 : decode prog_8_method_32_code 172 = .ok (.iadd, 1) := by decide +kernel
theorem d_Reader_advance_173 : decode prog_8_method_32_code 173 = .ok (.putfield 47, 3) := by decide +kernel
theorem d_Reader_advance_227 : decode prog_8_method_32_code 227 = .ok (.aload_n 0, 1) := by decide +kernel
theorem d_Reader_advance_228 : decode prog_8_method_32_code 228 = .ok (.getfield 50, 3) := by decide +kernel
theorem d_Reader_advance_231 : decode prog_8_method_32_code 231 = .ok (.iconst 1, 1) := by decide +kernel
theorem d_Reader_advance_232 : decode prog_8_method_32_code 232 = .ok (.if_icmp .ne 10, 3) := by decide +kernel
theorem d_Reader_advance_242 : decode prog_8_method_32_code 242 = .ok (.aload_n 0, 1) := by decide +kernel
theorem d_Reader_advance_243 : decode prog_8_method_32_code 243 = .ok (.getfield 50, 3) := by decide +kernel
theorem d_Reader_advance_246 : decode prog_8_method_32_code 246 = .ok (.iconst 2, 1) := by decide +kernel
theorem d_Reader_advance_247 : decode prog_8_method_32_code 247 = .ok (.if_icmp .ne 7, 3) := by decide +kernel
theorem d_Reader_advance_254 : decode prog_8_method_32_code 254 = .ok (.return_, 1) := by decide +kernel
theorem d_Reader_advance_250 : decode prog_8_method_32_code 250 = .ok (.aload_n 0, 1) := by decide +kernel
theorem d_Reader_advance_251 : decode prog_8_method_32_code 251 = .ok (.invokevirtual 302, 3) := by decide +kernel
theorem kw_Reader_302 : KW "NineBoards$Reader" 302 ⟨"NineBoards$Reader", "knowNumber", "()V"⟩ prog_8_method_35_code 2 none 0 := ⟨(mt_3 (List.mem_of_getElem? (i := 65) rfl) rfl), (mt_1 (List.mem_of_getElem? (i := 10) rfl) rfl), (mt_3 (List.mem_of_getElem? (i := 68) rfl) rfl), by decide +kernel⟩
theorem kv_Reader_knowNumber : Cond.instanceMethod ⟨"NineBoards$Reader", "knowNumber", "()V"⟩ ∈ TB ∧ Cond.selects "NineBoards$Reader" ⟨"NineBoards$Reader", "knowNumber", "()V"⟩ ⟨"NineBoards$Reader", "knowNumber", "()V"⟩ ∈ TB := ⟨(mt_3 (List.mem_of_getElem? (i := 67) rfl) rfl), (ms_0 (List.mem_map.mpr ⟨(⟨"NineBoards$Reader", "knowNumber", "()V"⟩, 12), List.mem_of_getElem? (i := 2) (by decide +kernel), rfl⟩) rfl)⟩
theorem d_Reader_advance_235 : decode prog_8_method_32_code 235 = .ok (.aload_n 0, 1) := by decide +kernel
theorem d_Reader_advance_236 : decode prog_8_method_32_code 236 = .ok (.invokevirtual 299, 3) := by decide +kernel
theorem kw_Reader_299 : KW "NineBoards$Reader" 299 ⟨"NineBoards$Reader", "knowWord", "()V"⟩ prog_8_method_34_code 2 none 0 := ⟨(mt_3 (List.mem_of_getElem? (i := 61) rfl) rfl), (mt_1 (List.mem_of_getElem? (i := 10) rfl) rfl), (mt_3 (List.mem_of_getElem? (i := 64) rfl) rfl), by decide +kernel⟩
theorem kv_Reader_knowWord : Cond.instanceMethod ⟨"NineBoards$Reader", "knowWord", "()V"⟩ ∈ TB ∧ Cond.selects "NineBoards$Reader" ⟨"NineBoards$Reader", "knowWord", "()V"⟩ ⟨"NineBoards$Reader", "knowWord", "()V"⟩ ∈ TB := ⟨(mt_3 (List.mem_of_getElem? (i := 63) rfl) rfl), (ms_0 (List.mem_map.mpr ⟨(⟨"NineBoards$Reader", "knowWord", "()V"⟩, 12), List.mem_of_getElem? (i := 1) (by decide +kernel), rfl⟩) rfl)⟩
theorem d_Reader_advance_239 : decode prog_8_method_32_code 239 = .ok (.goto 15, 3) := by decide +kernel
theorem d_Reader_advance_139 : decode prog_8_method_32_code 139 = .ok (.aload_n 0, 1) := by decide +kernel
theorem d_Reader_advance_140 : decode prog_8_method_32_code 140 = .ok (.iload_n 1, 1) := by decide +kernel
theorem d_Reader_advance_141 : decode prog_8_method_32_code 141 = .ok (.ifCond .eq 15, 3) := by decide +kernel
theorem d_Reader_advance_156 : decode prog_8_method_32_code 156 = .ok (.aload_n 0, 1) := by decide +kernel
theorem d_Reader_advance_157 : decode prog_8_method_32_code 157 = .ok (.getfield 272, 3) := by decide +kernel
theorem d_Reader_advance_160 : decode prog_8_method_32_code 160 = .ok (.invokestatic 296, 3) := by decide +kernel
theorem d_Reader_advance_144 : decode prog_8_method_32_code 144 = .ok (.aload_n 0, 1) := by decide +kernel
theorem d_Reader_advance_145 : decode prog_8_method_32_code 145 = .ok (.getfield 47, 3) := by decide +kernel
theorem d_Reader_advance_148 : decode prog_8_method_32_code 148 = .ok (.iload_n 2, 1) := by decide +kernel
theorem d_Reader_advance_149 : decode prog_8_method_32_code 149 = .ok (.if_icmp .ne 7, 3) := by decide +kernel
theorem d_Reader_advance_152 : decode prog_8_method_32_code 152 = .ok (.iconst 3, 1) := by decide +kernel
theorem d_Reader_advance_153 : decode prog_8_method_32_code 153 = .ok (.goto 10, 3) := by decide +kernel
theorem d_Reader_advance_117 : decode prog_8_method_32_code 117 = .ok (.aload_n 0, 1) := by decide +kernel
theorem d_Reader_advance_118 : decode prog_8_method_32_code 118 = .ok (.iconst 0, 1) := by decide +kernel
theorem d_Reader_advance_119 : decode prog_8_method_32_code 119 = .ok (.putfield 50, 3) := by decide +kernel
theorem d_Reader_advance_122 : decode prog_8_method_32_code 122 = .ok (.return_, 1) := by decide +kernel
theorem d_Reader_advance_0 : decode prog_8_method_32_code 0 = .ok (.aload_n 0, 1) := by decide +kernel
theorem d_Reader_advance_1 : decode prog_8_method_32_code 1 = .ok (.getfield 50, 3) := by decide +kernel
theorem d_Reader_advance_4 : decode prog_8_method_32_code 4 = .ok (.iconst 1, 1) := by decide +kernel
theorem d_Reader_advance_5 : decode prog_8_method_32_code 5 = .ok (.if_icmp .eq 11, 3) := by decide +kernel
theorem d_Reader_advance_16 : decode prog_8_method_32_code 16 = .ok (.iconst 1, 1) := by decide +kernel
theorem d_Reader_advance_17 : decode prog_8_method_32_code 17 = .ok (.goto 4, 3) := by decide +kernel
theorem d_Reader_advance_8 : decode prog_8_method_32_code 8 = .ok (.aload_n 0, 1) := by decide +kernel
theorem d_Reader_advance_9 : decode prog_8_method_32_code 9 = .ok (.getfield 50, 3) := by decide +kernel
theorem d_Reader_advance_12 : decode prog_8_method_32_code 12 = .ok (.iconst 2, 1) := by decide +kernel
theorem d_Reader_advance_13 : decode prog_8_method_32_code 13 = .ok (.if_icmp .ne 7, 3) := by decide +kernel
theorem d_Reader_advance_20 : decode prog_8_method_32_code 20 = .ok (.iconst 0, 1) := by decide +kernel
set_option maxHeartbeats 4000000 in
set_option maxRecDepth 100000 in
theorem lp_blanks {p : Program} {l : Launch} {e : Env} {s : State} {m : MethodId} {args : Array Value} {below : List Frame} {meth : Method} {c : Code} {Q : State → Prop} {D : va_G} {y : Nat → ClassId} {A : Nat → Prop} (C : Cx p s m args meth c D y A prog_8_method_32_code 4 "NineBoards$Reader" "advance") (rd : Nat) (ow : Nat) (tp : Nat) (lk : Nat) (td : Nat) (fa : Int32) (pl : Int32) (so : Int32) (le : Int64) (wo : Int32) (nu : Int32) (si : Int32) (rs : Nat) (k : Nat) (tf : Nat → Int32) (ww : Nat → Int64) (nbk : Int32) (fr : Int32) (hk : k ≤ 1600) (kx : ∀ q : Nat, q ≤ k → J p l e ({ frames := 1, cells := 0, slots := 0, locals := 21 } : Room) s m args below meth c Q D A 4 [(rd, .inr (5, [.int fa, .int pl, .ref ow, .ref tp, .ref lk, .int (nI q), .int so, .int (nI rs), .long le, .int wo, .int nu, .int si])), (tp, .inr (0, [.ref td, .int (nI k)])), (td, .inl (y 0, 1600, .inl tf)), (ow, .inl (y 1, 33, .inr (.inl ww)))] [(0, .ref rd), (1, .int nbk), (2, .int fr), (3, .int (nI k))] 0 0 101 []) : ∀ (n : Nat) (q : Nat), (q + n = k) → J p l e ({ frames := 1, cells := 0, slots := 0, locals := 21 } : Room) s m args below meth c Q D A 4 [(rd, .inr (5, [.int fa, .int pl, .ref ow, .ref tp, .ref lk, .int (nI q), .int so, .int (nI rs), .long le, .int wo, .int nu, .int si])), (tp, .inr (0, [.ref td, .int (nI k)])), (td, .inl (y 0, 1600, .inl tf)), (ow, .inl (y 1, 33, .inr (.inl ww)))] [(0, .ref rd), (1, .int nbk), (2, .int fr), (3, .int (nI k))] 0 0 46 [] := by
  intro n
  induction n with
  | zero =>
    intro q hq
    refine j_aload_n (pc := 46) C d_Reader_advance_46 rfl 0 rfl ?_
    refine j_get (pc := 47) C gf_Reader_47 0 rfl rfl d_Reader_advance_47 ?_
    refine j_iload_n (pc := 50) C d_Reader_advance_50 rfl 3 rfl ?_
    refine j_icmp_geT (pc := 51) C (tgt := 101) d_Reader_advance_51 (by decide) (nI_le (by omega) (by omega)) ?_
    exact kx q (by omega)
  | succ n ih =>
    intro q hq
    refine j_aload_n (pc := 46) C d_Reader_advance_46 rfl 0 rfl ?_
    refine j_get (pc := 47) C gf_Reader_47 0 rfl rfl d_Reader_advance_47 ?_
    refine j_iload_n (pc := 50) C d_Reader_advance_50 rfl 3 rfl ?_
    refine j_icmp_geF (pc := 51) C (tgt := 101) d_Reader_advance_51 (by decide) (nI_ge (by omega) (by omega)) ?_
    refine j_aload_n (pc := 54) C d_Reader_advance_54 rfl 0 rfl ?_
    refine j_get (pc := 55) C gf_Reader_19 0 rfl rfl d_Reader_advance_55 ?_
    refine j_get (pc := 58) C gf_Reader_288 1 rfl rfl d_Reader_advance_58 ?_
    refine j_aload_n (pc := 61) C d_Reader_advance_61 rfl 0 rfl ?_
    refine j_get (pc := 62) C gf_Reader_47 0 rfl rfl d_Reader_advance_62 ?_
    refine j_iald (pc := 65) C 2 rfl (v := tf (nI q).toNatClampNeg) (vp_in_nI (by omega) (by decide)) rfl d_Reader_advance_65 ?_
    refine j_bipush (pc := 66) C (v := 32) d_Reader_advance_66 (by decide) ?_
    refine j_icmp_eq (pc := 68) C (tgt := 88) d_Reader_advance_68 (by decide) (fun c1 => ?_) (fun c1 => ?_)
    · refine j_aload_n (pc := 88) C d_Reader_advance_88 rfl 0 rfl ?_
      refine j_dup (pc := 89) C d_Reader_advance_89 rfl ?_
      refine j_get (pc := 90) C gf_Reader_47 0 rfl rfl d_Reader_advance_90 ?_
      refine j_iconst (pc := 93) C (v := 1) d_Reader_advance_93 (by decide) ?_
      refine j_iadd (pc := 94) C (v := nI (q + 1)) d_Reader_advance_94 (nI_1 _) ?_
      refine j_put (pc := 95) C pf_Reader_47 0 (ws' := [(rd, .inr (5, [.int fa, .int pl, .ref ow, .ref tp, .ref lk, .int (nI (q + 1)), .int so, .int (nI rs), .long le, .int wo, .int nu, .int si])), (tp, .inr (0, [.ref td, .int (nI k)])), (td, .inl (y 0, 1600, .inl tf)), (ow, .inl (y 1, 33, .inr (.inl ww)))]) rfl rfl rfl (nl rfl) rfl d_Reader_advance_95 ?_
      refine j_goto (pc := 98) C (tgt := 46) d_Reader_advance_98 (by decide) ?_
      exact ih (q + 1) (by omega)
    · refine j_aload_n (pc := 71) C d_Reader_advance_71 rfl 0 rfl ?_
      refine j_get (pc := 72) C gf_Reader_19 0 rfl rfl d_Reader_advance_72 ?_
      refine j_get (pc := 75) C gf_Reader_288 1 rfl rfl d_Reader_advance_75 ?_
      refine j_aload_n (pc := 78) C d_Reader_advance_78 rfl 0 rfl ?_
      refine j_get (pc := 79) C gf_Reader_47 0 rfl rfl d_Reader_advance_79 ?_
      refine j_iald (pc := 82) C 2 rfl (v := tf (nI q).toNatClampNeg) (vp_in_nI (by omega) (by decide)) rfl d_Reader_advance_82 ?_
      refine j_bipush (pc := 83) C (v := 10) d_Reader_advance_83 (by decide) ?_
      refine j_icmp_ne (pc := 85) C (tgt := 101) d_Reader_advance_85 (by decide) (fun c2 => ?_) (fun c2 => ?_)
      · exact kx q (by omega)
      · refine j_aload_n (pc := 88) C d_Reader_advance_88 rfl 0 rfl ?_
        refine j_dup (pc := 89) C d_Reader_advance_89 rfl ?_
        refine j_get (pc := 90) C gf_Reader_47 0 rfl rfl d_Reader_advance_90 ?_
        refine j_iconst (pc := 93) C (v := 1) d_Reader_advance_93 (by decide) ?_
        refine j_iadd (pc := 94) C (v := nI (q + 1)) d_Reader_advance_94 (nI_1 _) ?_
        refine j_put (pc := 95) C pf_Reader_47 0 (ws' := [(rd, .inr (5, [.int fa, .int pl, .ref ow, .ref tp, .ref lk, .int (nI (q + 1)), .int so, .int (nI rs), .long le, .int wo, .int nu, .int si])), (tp, .inr (0, [.ref td, .int (nI k)])), (td, .inl (y 0, 1600, .inl tf)), (ow, .inl (y 1, 33, .inr (.inl ww)))]) rfl rfl rfl (nl rfl) rfl d_Reader_advance_95 ?_
        refine j_goto (pc := 98) C (tgt := 46) d_Reader_advance_98 (by decide) ?_
        exact ih (q + 1) (by omega)
set_option maxHeartbeats 4000000 in
set_option maxRecDepth 100000 in
theorem lp_rest {p : Program} {l : Launch} {e : Env} {s : State} {m : MethodId} {args : Array Value} {below : List Frame} {meth : Method} {c : Code} {Q : State → Prop} {D : va_G} {y : Nat → ClassId} {A : Nat → Prop} (C : Cx p s m args meth c D y A prog_8_method_32_code 4 "NineBoards$Reader" "advance") (rd : Nat) (ow : Nat) (tp : Nat) (lk : Nat) (td : Nat) (fa : Int32) (pl : Int32) (so : Int32) (le : Int64) (wo : Int32) (nu : Int32) (si : Int32) (rs : Nat) (k : Nat) (tf : Nat → Int32) (ww : Nat → Int64) (nbk : Int32) (fr : Int32) (hk : k ≤ 1600) (kx : ∀ q : Nat, q ≤ k → rs ≤ q → J p l e ({ frames := 1, cells := 0, slots := 0, locals := 21 } : Room) s m args below meth c Q D A 4 [(rd, .inr (5, [.int fa, .int pl, .ref ow, .ref tp, .ref lk, .int (nI q), .int so, .int (nI rs), .long le, .int wo, .int nu, .int si])), (tp, .inr (0, [.ref td, .int (nI k)])), (td, .inl (y 0, 1600, .inl tf)), (ow, .inl (y 1, 33, .inr (.inl ww)))] [(0, .ref rd), (1, .int nbk), (2, .int fr), (3, .int (nI k))] 0 0 227 []) : ∀ (n : Nat) (q : Nat), (q + n = k) → (rs ≤ q) → J p l e ({ frames := 1, cells := 0, slots := 0, locals := 21 } : Room) s m args below meth c Q D A 4 [(rd, .inr (5, [.int fa, .int pl, .ref ow, .ref tp, .ref lk, .int (nI q), .int so, .int (nI rs), .long le, .int wo, .int nu, .int si])), (tp, .inr (0, [.ref td, .int (nI k)])), (td, .inl (y 0, 1600, .inl tf)), (ow, .inl (y 1, 33, .inr (.inl ww)))] [(0, .ref rd), (1, .int nbk), (2, .int fr), (3, .int (nI k))] 0 0 176 [] := by
  intro n
  induction n with
  | zero =>
    intro q hq hr_
    refine j_aload_n (pc := 176) C d_Reader_advance_176 rfl 0 rfl ?_
    refine j_get (pc := 177) C gf_Reader_47 0 rfl rfl d_Reader_advance_177 ?_
    refine j_iload_n (pc := 180) C d_Reader_advance_180 rfl 3 rfl ?_
    refine j_icmp_geT (pc := 181) C (tgt := 227) d_Reader_advance_181 (by decide) (nI_le (by omega) (by omega)) ?_
    exact kx q (by omega) (by omega)
  | succ n ih =>
    intro q hq hr_
    refine j_aload_n (pc := 176) C d_Reader_advance_176 rfl 0 rfl ?_
    refine j_get (pc := 177) C gf_Reader_47 0 rfl rfl d_Reader_advance_177 ?_
    refine j_iload_n (pc := 180) C d_Reader_advance_180 rfl 3 rfl ?_
    refine j_icmp_geF (pc := 181) C (tgt := 227) d_Reader_advance_181 (by decide) (nI_ge (by omega) (by omega)) ?_
    refine j_aload_n (pc := 184) C d_Reader_advance_184 rfl 0 rfl ?_
    refine j_get (pc := 185) C gf_Reader_50 0 rfl rfl d_Reader_advance_185 ?_
    refine j_iconst (pc := 188) C (v := 3) d_Reader_advance_188 (by decide) ?_
    refine j_icmp_eq (pc := 189) C (tgt := 227) d_Reader_advance_189 (by decide) (fun c1 => ?_) (fun c1 => ?_)
    · exact kx q (by omega) (by omega)
    · refine j_aload_n (pc := 192) C d_Reader_advance_192 rfl 0 rfl ?_
      refine j_get (pc := 193) C gf_Reader_19 0 rfl rfl d_Reader_advance_193 ?_
      refine j_get (pc := 196) C gf_Reader_288 1 rfl rfl d_Reader_advance_196 ?_
      refine j_aload_n (pc := 199) C d_Reader_advance_199 rfl 0 rfl ?_
      refine j_get (pc := 200) C gf_Reader_47 0 rfl rfl d_Reader_advance_200 ?_
      refine j_iald (pc := 203) C 2 rfl (v := tf (nI q).toNatClampNeg) (vp_in_nI (by omega) (by decide)) rfl d_Reader_advance_203 ?_
      refine j_callSi (pc := 204) C (c_sortOf l D y (tf (nI q).toNatClampNeg)) kw_Reader_296 ks_Reader_sortOf ⟨by decide, by decide⟩ ⟨by decide, by decide⟩ (wr := [(rd, .inr (5, [.int fa, .int pl, .ref ow, .ref tp, .ref lk, .int (nI q), .int so, .int (nI rs), .long le, .int wo, .int nu, .int si])), (tp, .inr (0, [.ref td, .int (nI k)])), (td, .inl (y 0, 1600, .inl tf)), (ow, .inl (y 1, 33, .inr (.inl ww)))]) [] [0, 1, 2, 3] rfl rfl (by decide) (by decide) (by decide) (As := [.int (tf (nI q).toNatClampNeg)]) (rest := []) rfl (nb rfl) rfl d_Reader_advance_204 (fun r2 _ hr2 => ?_)
      refine j_ws (ws' := [(rd, .inr (5, [.int fa, .int pl, .ref ow, .ref tp, .ref lk, .int (nI q), .int so, .int (nI rs), .long le, .int wo, .int nu, .int si])), (tp, .inr (0, [.ref td, .int (nI k)])), (td, .inl (y 0, 1600, .inl tf)), (ow, .inl (y 1, 33, .inr (.inl ww)))]) rfl ?_
      refine j_aload_n (pc := 207) C d_Reader_advance_207 rfl 0 rfl ?_
      refine j_get (pc := 208) C gf_Reader_50 0 rfl rfl d_Reader_advance_208 ?_
      refine j_icmp_ne (pc := 211) C (tgt := 227) d_Reader_advance_211 (by decide) (fun c3 => ?_) (fun c3 => ?_)
      · exact kx q (by omega) (by omega)
      · refine j_aload_n (pc := 214) C d_Reader_advance_214 rfl 0 rfl ?_
        refine j_dup (pc := 215) C d_Reader_advance_215 rfl ?_
        refine j_get (pc := 216) C gf_Reader_47 0 rfl rfl d_Reader_advance_216 ?_
        refine j_iconst (pc := 219) C (v := 1) d_Reader_advance_219 (by decide) ?_
        refine j_iadd (pc := 220) C (v := nI (q + 1)) d_Reader_advance_220 (nI_1 _) ?_
        refine j_put (pc := 221) C pf_Reader_47 0 (ws' := [(rd, .inr (5, [.int fa, .int pl, .ref ow, .ref tp, .ref lk, .int (nI (q + 1)), .int so, .int (nI rs), .long le, .int wo, .int nu, .int si])), (tp, .inr (0, [.ref td, .int (nI k)])), (td, .inl (y 0, 1600, .inl tf)), (ow, .inl (y 1, 33, .inr (.inl ww)))]) rfl rfl rfl (nl rfl) rfl d_Reader_advance_221 ?_
        refine j_goto (pc := 224) C (tgt := 176) d_Reader_advance_224 (by decide) ?_
        exact ih (q + 1) (by omega) (by omega)
set_option maxHeartbeats 4000000 in
set_option maxRecDepth 100000 in
theorem c_r_advance (l : Launch) (D : va_G) (y : Nat → ClassId) (rd : Nat) (ow : Nat) (tp : Nat) (lk : Nat) (td : Nat) (fa : Int32) (pl : Int32) (so : Int32) (le : Int64) (wo : Int32) (nu : Int32) (si : Int32) (ra : Nat) (rs : Nat) (k : Nat) (tf : Nat → Int32) (ww : Nat → Int64) (ha : ra ≤ k) (hs : rs ≤ ra) (hk : k ≤ 1600) : CT l D y ⟨"NineBoards$Reader", "advance", "()V"⟩ prog_8_method_32_code 4 none ({ frames := 1, cells := 0, slots := 0, locals := 21 } : Room) [.ref rd] [(rd, .inr (5, [.int fa, .int pl, .ref ow, .ref tp, .ref lk, .int (nI ra), .int so, .int (nI rs), .long le, .int wo, .int nu, .int si])), (tp, .inr (0, [.ref td, .int (nI k)])), (td, .inl (y 0, 1600, .inl tf)), (ow, .inl (y 1, 33, .inr (.inl ww)))] (QV D [(rd, .inr (5, [.int fa, .int pl, .ref ow, .ref tp, .ref lk, .int (nI ra), .int so, .int (nI rs), .long le, .int wo, .int nu, .int si])), (tp, .inr (0, [.ref td, .int (nI k)])), (td, .inl (y 0, 1600, .inl tf)), (ow, .inl (y 1, 33, .inr (.inl ww)))] (fun (u : Nat × Nat × Int32 × Int64 × Int32 × Int32 × Int32) => u.1 ≤ k ∧ u.2.1 ≤ u.1) (fun u => [(rd, .inr (5, [.int fa, .int pl, .ref ow, .ref tp, .ref lk, .int (nI u.1), .int u.2.2.1, .int (nI u.2.1), .long u.2.2.2.1, .int u.2.2.2.2.1, .int u.2.2.2.2.2.1, .int u.2.2.2.2.2.2])), (tp, .inr (0, [.ref td, .int (nI k)])), (td, .inl (y 0, 1600, .inl tf)), (ow, .inl (y 1, 33, .inr (.inl ww)))])) := by
  refine CT.of (by decide) (nb rfl) ?_
  intro p e s m args below meth c C hr
  refine j_lv (lv' := [(0, .ref rd)]) rfl ?_
  refine j_cut (fun (_ : Int32) => [(rd, .inr (5, [.int fa, .int pl, .ref ow, .ref tp, .ref lk, .int (nI ra), .int so, .int (nI rs), .long le, .int wo, .int nu, .int si])), (tp, .inr (0, [.ref td, .int (nI k)])), (td, .inl (y 0, 1600, .inl tf)), (ow, .inl (y 1, 33, .inr (.inl ww)))]) (fun _ => [(0, .ref rd)]) (fun nbk => [.int nbk]) 21 (fun nbk => ?_) (fun K1 => ?_)
  · refine j_istore_n (pc := 21) C (lv' := [(1, .int nbk), (0, .ref rd)]) d_Reader_advance_21 rfl (by decide) rfl ?_
    refine j_aload_n (pc := 22) C d_Reader_advance_22 rfl 1 rfl ?_
    refine j_get (pc := 23) C gf_Reader_47 0 rfl rfl d_Reader_advance_23 ?_
    refine j_istore_n (pc := 26) C (lv' := [(2, .int (nI ra)), (1, .int nbk), (0, .ref rd)]) d_Reader_advance_26 rfl (by decide) rfl ?_
    refine j_aload_n (pc := 27) C d_Reader_advance_27 rfl 2 rfl ?_
    refine j_get (pc := 28) C gf_Reader_19 0 rfl rfl d_Reader_advance_28 ?_
    refine j_get (pc := 31) C gf_Reader_285 1 rfl rfl d_Reader_advance_31 ?_
    refine j_aload_n (pc := 34) C d_Reader_advance_34 rfl 2 rfl ?_
    refine j_get (pc := 35) C gf_Reader_19 0 rfl rfl d_Reader_advance_35 ?_
    refine j_get (pc := 38) C gf_Reader_288 1 rfl rfl d_Reader_advance_38 ?_
    refine j_alen (pc := 41) C 2 0 rfl rfl (v := 1600) rfl d_Reader_advance_41 ?_
    refine j_mmin (pc := 42) C (mt_3 (List.mem_of_getElem? (i := 55) rfl) rfl) (mt_3 (List.mem_of_getElem? (i := 56) rfl) rfl) (mt_1 (List.mem_of_getElem? (i := 3) rfl) rfl) (mt_3 (List.mem_of_getElem? (i := 57) rfl) rfl) (v := nI k) (min_k hk) (by decide) (nb rfl) (by decide) (by decide) d_Reader_advance_42 ?_
    refine j_istore_n (pc := 45) C (lv' := [(3, .int (nI k)), (2, .int (nI ra)), (1, .int nbk), (0, .ref rd)]) d_Reader_advance_45 rfl (by decide) rfl ?_
    refine j_locs (lv' := [(0, .ref rd), (1, .int nbk), (2, .int (nI ra)), (3, .int (nI k))]) [3, 2, 1, 0] rfl ?_
    refine lp_blanks C rd ow tp lk td fa pl so le wo nu si rs k tf ww nbk (nI ra) hk (fun q hq => ?_) (k - ra) ra (by omega)
    refine j_aload_n (pc := 101) C d_Reader_advance_101 rfl 0 rfl ?_
    refine j_aload_n (pc := 102) C d_Reader_advance_102 rfl 0 rfl ?_
    refine j_get (pc := 103) C gf_Reader_47 0 rfl rfl d_Reader_advance_103 ?_
    refine j_put (pc := 106) C pf_Reader_62 0 (ws' := [(rd, .inr (5, [.int fa, .int pl, .ref ow, .ref tp, .ref lk, .int (nI q), .int so, .int (nI q), .long le, .int wo, .int nu, .int si])), (tp, .inr (0, [.ref td, .int (nI k)])), (td, .inl (y 0, 1600, .inl tf)), (ow, .inl (y 1, 33, .inr (.inl ww)))]) rfl rfl rfl (nl rfl) rfl d_Reader_advance_106 ?_
    by_cases hqk : q < k
    · refine j_aload_n (pc := 109) C d_Reader_advance_109 rfl 0 rfl ?_
      refine j_get (pc := 110) C gf_Reader_47 0 rfl rfl d_Reader_advance_110 ?_
      refine j_iload_n (pc := 113) C d_Reader_advance_113 rfl 3 rfl ?_
      refine j_icmp_ltT (pc := 114) C (tgt := 123) d_Reader_advance_114 (by decide) (nI_lt hqk (by omega)) ?_
      refine j_aload_n (pc := 123) C d_Reader_advance_123 rfl 0 rfl ?_
      refine j_aload_n (pc := 124) C d_Reader_advance_124 rfl 0 rfl ?_
      refine j_get (pc := 125) C gf_Reader_19 0 rfl rfl d_Reader_advance_125 ?_
      refine j_get (pc := 128) C gf_Reader_288 1 rfl rfl d_Reader_advance_128 ?_
      refine j_aload_n (pc := 131) C d_Reader_advance_131 rfl 0 rfl ?_
      refine j_get (pc := 132) C gf_Reader_47 0 rfl rfl d_Reader_advance_132 ?_
      refine j_iald (pc := 135) C 2 rfl (v := tf (nI q).toNatClampNeg) (vp_in_nI (by omega) (by decide)) rfl d_Reader_advance_135 ?_
      refine j_put (pc := 136) C pf_Reader_272 0 (ws' := [(rd, .inr (5, [.int fa, .int pl, .ref ow, .ref tp, .ref lk, .int (nI q), .int so, .int (nI q), .long le, .int wo, .int nu, .int (tf (nI q).toNatClampNeg)])), (tp, .inr (0, [.ref td, .int (nI k)])), (td, .inl (y 0, 1600, .inl tf)), (ow, .inl (y 1, 33, .inr (.inl ww)))]) rfl rfl rfl (nl rfl) rfl d_Reader_advance_136 ?_
      refine j_cut (fun (_ : Int32) => [(rd, .inr (5, [.int fa, .int pl, .ref ow, .ref tp, .ref lk, .int (nI q), .int so, .int (nI q), .long le, .int wo, .int nu, .int (tf (nI q).toNatClampNeg)])), (tp, .inr (0, [.ref td, .int (nI k)])), (td, .inl (y 0, 1600, .inl tf)), (ow, .inl (y 1, 33, .inr (.inl ww)))]) (fun _ => [(0, .ref rd), (1, .int nbk), (2, .int (nI ra)), (3, .int (nI k))]) (fun so => [.int so, .ref rd]) 163 (fun so => ?_) (fun K2 => ?_)
      · refine j_put (pc := 163) C pf_Reader_50 0 (ws' := [(rd, .inr (5, [.int fa, .int pl, .ref ow, .ref tp, .ref lk, .int (nI q), .int so, .int (nI q), .long le, .int wo, .int nu, .int (tf (nI q).toNatClampNeg)])), (tp, .inr (0, [.ref td, .int (nI k)])), (td, .inl (y 0, 1600, .inl tf)), (ow, .inl (y 1, 33, .inr (.inl ww)))]) rfl rfl rfl (nl rfl) rfl d_Reader_advance_163 ?_
        refine j_aload_n (pc := 166) C d_Reader_advance_166 rfl 0 rfl ?_
        refine j_dup (pc := 167) C d_Reader_advance_167 rfl ?_
        refine j_get (pc := 168) C gf_Reader_47 0 rfl rfl d_Reader_advance_168 ?_
        refine j_iconst (pc := 171) C (v := 1) d_Reader_advance_171 (by decide) ?_
        refine j_iadd (pc := 172) C (v := nI (q + 1)) d_Reader_advance_172 (nI_1 _) ?_
        refine j_put (pc := 173) C pf_Reader_47 0 (ws' := [(rd, .inr (5, [.int fa, .int pl, .ref ow, .ref tp, .ref lk, .int (nI (q + 1)), .int so, .int (nI q), .long le, .int wo, .int nu, .int (tf (nI q).toNatClampNeg)])), (tp, .inr (0, [.ref td, .int (nI k)])), (td, .inl (y 0, 1600, .inl tf)), (ow, .inl (y 1, 33, .inr (.inl ww)))]) rfl rfl rfl (nl rfl) rfl d_Reader_advance_173 ?_
        refine lp_rest C rd ow tp lk td fa pl so le wo nu (tf (nI q).toNatClampNeg) q k tf ww nbk (nI ra) hk (fun q2 hq2 hr2 => ?_) (k - (q + 1)) (q + 1) (by omega) (by omega)
        refine j_aload_n (pc := 227) C d_Reader_advance_227 rfl 0 rfl ?_
        refine j_get (pc := 228) C gf_Reader_50 0 rfl rfl d_Reader_advance_228 ?_
        refine j_iconst (pc := 231) C (v := 1) d_Reader_advance_231 (by decide) ?_
        refine j_icmp_ne (pc := 232) C (tgt := 242) d_Reader_advance_232 (by decide) (fun c3 => ?_) (fun c3 => ?_)
        · refine j_aload_n (pc := 242) C d_Reader_advance_242 rfl 0 rfl ?_
          refine j_get (pc := 243) C gf_Reader_50 0 rfl rfl d_Reader_advance_243 ?_
          refine j_iconst (pc := 246) C (v := 2) d_Reader_advance_246 (by decide) ?_
          refine j_icmp_ne (pc := 247) C (tgt := 254) d_Reader_advance_247 (by decide) (fun c4 => ?_) (fun c4 => ?_)
          · exact j_vret (pc := 254) C hr (q2, q, so, le, wo, nu, tf (nI q).toNatClampNeg) ⟨by omega, by omega⟩ [0, 1, 2, 3] rfl (by decide) (by decide) (by decide) d_Reader_advance_254
          · refine j_aload_n (pc := 250) C d_Reader_advance_250 rfl 0 rfl ?_
            refine j_callVv (pc := 251) C (c_r_knowNumber l D y rd ow tp lk td fa pl so le wo nu (tf (nI q).toNatClampNeg) q2 q k tf (by omega) (by omega) (by omega)) kw_Reader_302 kv_Reader_knowNumber 0 5 rfl rfl ⟨by decide, by decide⟩ ⟨by decide, by decide⟩ (wr := [(ow, .inl (y 1, 33, .inr (.inl ww)))]) [0, 1, 2] [3] rfl rfl (by decide) (by decide) (by decide) (As := []) (rest := []) rfl (nb rfl) rfl d_Reader_advance_251 (fun u5 _ => ?_)
            refine j_ws (ws' := [(ow, .inl (y 1, 33, .inr (.inl ww))), (rd, .inr (5, [.int fa, .int pl, .ref ow, .ref tp, .ref lk, .int (nI q2), .int so, .int (nI q), .long le, .int wo, .int u5, .int (tf (nI q).toNatClampNeg)])), (tp, .inr (0, [.ref td, .int (nI k)])), (td, .inl (y 0, 1600, .inl tf))]) rfl ?_
            exact j_vret (pc := 254) C hr (q2, q, so, le, wo, u5, tf (nI q).toNatClampNeg) ⟨by omega, by omega⟩ [1, 2, 3, 0] rfl (by decide) (by decide) (by decide) d_Reader_advance_254
        · refine j_aload_n (pc := 235) C d_Reader_advance_235 rfl 0 rfl ?_
          refine j_callVv (pc := 236) C (c_r_knowWord l D y rd ow tp lk td fa pl so le wo nu (tf (nI q).toNatClampNeg) q2 q k tf ww (by omega) (by omega) (by omega)) kw_Reader_299 kv_Reader_knowWord 0 5 rfl rfl ⟨by decide, by decide⟩ ⟨by decide, by decide⟩ (wr := []) [0, 1, 2, 3] [] rfl rfl (by decide) (by decide) (by decide) (As := []) (rest := []) rfl (nb rfl) rfl d_Reader_advance_236 (fun u6 _ => ?_)
          refine j_ws (ws' := [(rd, .inr (5, [.int fa, .int pl, .ref ow, .ref tp, .ref lk, .int (nI q2), .int so, .int (nI q), .long u6.1, .int u6.2, .int nu, .int (tf (nI q).toNatClampNeg)])), (tp, .inr (0, [.ref td, .int (nI k)])), (td, .inl (y 0, 1600, .inl tf)), (ow, .inl (y 1, 33, .inr (.inl ww)))]) rfl ?_
          refine j_goto (pc := 239) C (tgt := 254) d_Reader_advance_239 (by decide) ?_
          exact j_vret (pc := 254) C hr (q2, q, so, u6.1, u6.2, nu, tf (nI q).toNatClampNeg) ⟨by omega, by omega⟩ [0, 1, 2, 3] rfl (by decide) (by decide) (by decide) d_Reader_advance_254
      · refine j_aload_n (pc := 139) C d_Reader_advance_139 rfl 0 rfl ?_
        refine j_iload_n (pc := 140) C d_Reader_advance_140 rfl 1 rfl ?_
        refine j_if_eq (pc := 141) C (tgt := 156) d_Reader_advance_141 (by decide) (fun c7 => ?_) (fun c7 => ?_)
        · refine j_aload_n (pc := 156) C d_Reader_advance_156 rfl 0 rfl ?_
          refine j_get (pc := 157) C gf_Reader_272 0 rfl rfl d_Reader_advance_157 ?_
          refine j_callSi (pc := 160) C (c_sortOf l D y (tf (nI q).toNatClampNeg)) kw_Reader_296 ks_Reader_sortOf ⟨by decide, by decide⟩ ⟨by decide, by decide⟩ (wr := [(rd, .inr (5, [.int fa, .int pl, .ref ow, .ref tp, .ref lk, .int (nI q), .int so, .int (nI q), .long le, .int wo, .int nu, .int (tf (nI q).toNatClampNeg)])), (tp, .inr (0, [.ref td, .int (nI k)])), (td, .inl (y 0, 1600, .inl tf)), (ow, .inl (y 1, 33, .inr (.inl ww)))]) [] [0, 1, 2, 3] rfl rfl (by decide) (by decide) (by decide) (As := [.int (tf (nI q).toNatClampNeg)]) (rest := [.ref rd]) rfl (nb rfl) rfl d_Reader_advance_160 (fun r8 _ hr8 => ?_)
          refine j_ws (ws' := [(rd, .inr (5, [.int fa, .int pl, .ref ow, .ref tp, .ref lk, .int (nI q), .int so, .int (nI q), .long le, .int wo, .int nu, .int (tf (nI q).toNatClampNeg)])), (tp, .inr (0, [.ref td, .int (nI k)])), (td, .inl (y 0, 1600, .inl tf)), (ow, .inl (y 1, 33, .inr (.inl ww)))]) rfl ?_
          exact K2 _
        · refine j_aload_n (pc := 144) C d_Reader_advance_144 rfl 0 rfl ?_
          refine j_get (pc := 145) C gf_Reader_47 0 rfl rfl d_Reader_advance_145 ?_
          refine j_iload_n (pc := 148) C d_Reader_advance_148 rfl 2 rfl ?_
          refine j_icmp_ne (pc := 149) C (tgt := 156) d_Reader_advance_149 (by decide) (fun c9 => ?_) (fun c9 => ?_)
          · refine j_aload_n (pc := 156) C d_Reader_advance_156 rfl 0 rfl ?_
            refine j_get (pc := 157) C gf_Reader_272 0 rfl rfl d_Reader_advance_157 ?_
            refine j_callSi (pc := 160) C (c_sortOf l D y (tf (nI q).toNatClampNeg)) kw_Reader_296 ks_Reader_sortOf ⟨by decide, by decide⟩ ⟨by decide, by decide⟩ (wr := [(rd, .inr (5, [.int fa, .int pl, .ref ow, .ref tp, .ref lk, .int (nI q), .int so, .int (nI q), .long le, .int wo, .int nu, .int (tf (nI q).toNatClampNeg)])), (tp, .inr (0, [.ref td, .int (nI k)])), (td, .inl (y 0, 1600, .inl tf)), (ow, .inl (y 1, 33, .inr (.inl ww)))]) [] [0, 1, 2, 3] rfl rfl (by decide) (by decide) (by decide) (As := [.int (tf (nI q).toNatClampNeg)]) (rest := [.ref rd]) rfl (nb rfl) rfl d_Reader_advance_160 (fun r10 _ hr10 => ?_)
            refine j_ws (ws' := [(rd, .inr (5, [.int fa, .int pl, .ref ow, .ref tp, .ref lk, .int (nI q), .int so, .int (nI q), .long le, .int wo, .int nu, .int (tf (nI q).toNatClampNeg)])), (tp, .inr (0, [.ref td, .int (nI k)])), (td, .inl (y 0, 1600, .inl tf)), (ow, .inl (y 1, 33, .inr (.inl ww)))]) rfl ?_
            exact K2 _
          · refine j_iconst (pc := 152) C (v := 3) d_Reader_advance_152 (by decide) ?_
            refine j_goto (pc := 153) C (tgt := 163) d_Reader_advance_153 (by decide) ?_
            exact K2 _
    · refine j_aload_n (pc := 109) C d_Reader_advance_109 rfl 0 rfl ?_
      refine j_get (pc := 110) C gf_Reader_47 0 rfl rfl d_Reader_advance_110 ?_
      refine j_iload_n (pc := 113) C d_Reader_advance_113 rfl 3 rfl ?_
      refine j_icmp_ltF (pc := 114) C (tgt := 123) d_Reader_advance_114 (by decide) (nI_nlt (by omega) (by omega)) ?_
      refine j_aload_n (pc := 117) C d_Reader_advance_117 rfl 0 rfl ?_
      refine j_iconst (pc := 118) C (v := 0) d_Reader_advance_118 (by decide) ?_
      refine j_put (pc := 119) C pf_Reader_50 0 (ws' := [(rd, .inr (5, [.int fa, .int pl, .ref ow, .ref tp, .ref lk, .int (nI q), .int 0, .int (nI q), .long le, .int wo, .int nu, .int si])), (tp, .inr (0, [.ref td, .int (nI k)])), (td, .inl (y 0, 1600, .inl tf)), (ow, .inl (y 1, 33, .inr (.inl ww)))]) rfl rfl rfl (nl rfl) rfl d_Reader_advance_119 ?_
      exact j_vret (pc := 122) C hr (q, q, 0, le, wo, nu, si) ⟨by omega, Nat.le_refl _⟩ [0, 1, 2, 3] rfl (by decide) (by decide) (by decide) d_Reader_advance_122
  · refine j_aload_n (pc := 0) C d_Reader_advance_0 rfl 0 rfl ?_
    refine j_get (pc := 1) C gf_Reader_50 0 rfl rfl d_Reader_advance_1 ?_
    refine j_iconst (pc := 4) C (v := 1) d_Reader_advance_4 (by decide) ?_
    refine j_icmp_eq (pc := 5) C (tgt := 16) d_Reader_advance_5 (by decide) (fun c11 => ?_) (fun c11 => ?_)
    · refine j_iconst (pc := 16) C (v := 1) d_Reader_advance_16 (by decide) ?_
      refine j_goto (pc := 17) C (tgt := 21) d_Reader_advance_17 (by decide) ?_
      exact K1 _
    · refine j_aload_n (pc := 8) C d_Reader_advance_8 rfl 0 rfl ?_
      refine j_get (pc := 9) C gf_Reader_50 0 rfl rfl d_Reader_advance_9 ?_
      refine j_iconst (pc := 12) C (v := 2) d_Reader_advance_12 (by decide) ?_
      refine j_icmp_ne (pc := 13) C (tgt := 20) d_Reader_advance_13 (by decide) (fun c12 => ?_) (fun c12 => ?_)
      · refine j_iconst (pc := 20) C (v := 0) d_Reader_advance_20 (by decide) ?_
        exact K1 _
      · refine j_iconst (pc := 16) C (v := 1) d_Reader_advance_16 (by decide) ?_
        refine j_goto (pc := 17) C (tgt := 21) d_Reader_advance_17 (by decide) ?_
        exact K1 _
