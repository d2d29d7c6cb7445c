theorem top_s {w : Nat → Int32} {b n : Nat} {v : Int32} (hT : ITm w b) (e : w (n - 1) = v) (h1 : 1 ≤ n) (hb : b ≤ n) (hv : ¬ TIt v) : b < n := by
  rcases Nat.lt_or_ge b n with q | q
  · exact q
  · exact absurd (e ▸ hT (n - 1) (by omega)) hv
theorem num_ge {r : Int32} {q : Nat} (hq : q ≤ 9999) (e : r = nI q) : 1000 ≤ 1000 + r := by
  rw [e, show (1000 : Int32) + nI q = nI (1000 + q) from nI_add 1000 q]
  exact nI_le (a := 1000) (by omega) (by omega)
theorem d_Model_dropsToMark_0 : decode prog_13_method_37_code 0 = .ok (.aload_n 0, 1) := by decide +kernel
theorem d_Model_dropsToMark_1 : decode prog_13_method_37_code 1 = .ok (.getfield 292, 3) := by decide +kernel
theorem d_Model_dropsToMark_4 : decode prog_13_method_37_code 4 = .ok (.aload_n 0, 1) := by decide +kernel
theorem d_Model_dropsToMark_5 : decode prog_13_method_37_code 5 = .ok (.getfield 298, 3) := by decide +kernel
theorem d_Model_dropsToMark_8 : decode prog_13_method_37_code 8 = .ok (.if_icmp .le 28, 3) := by decide +kernel
theorem d_Model_dropsToMark_36 : decode prog_13_method_37_code 36 = .ok (.return_, 1) := by decide +kernel
theorem d_Model_dropsToMark_11 : decode prog_13_method_37_code 11 = .ok (.aload_n 0, 1) := by decide +kernel
theorem d_Model_dropsToMark_12 : decode prog_13_method_37_code 12 = .ok (.aload_n 0, 1) := by decide +kernel
theorem d_Model_dropsToMark_13 : decode prog_13_method_37_code 13 = .ok (.getfield 139, 3) := by decide +kernel
theorem d_Model_dropsToMark_16 : decode prog_13_method_37_code 16 = .ok (.aload_n 0, 1) := by decide +kernel
theorem d_Model_dropsToMark_17 : decode prog_13_method_37_code 17 = .ok (.getfield 292, 3) := by decide +kernel
theorem d_Model_dropsToMark_20 : decode prog_13_method_37_code 20 = .ok (.iconst 1, 1) := by decide +kernel
theorem d_Model_dropsToMark_21 : decode prog_13_method_37_code 21 = .ok (.isub, 1) := by decide +kernel
theorem d_Model_dropsToMark_22 : decode prog_13_method_37_code 22 = .ok (.iaload, 1) := by decide +kernel
theorem d_Model_dropsToMark_23 : decode prog_13_method_37_code 23 = .ok (.invokevirtual 347, 3) := by decide +kernel
theorem d_Model_dropsToMark_26 : decode prog_13_method_37_code 26 = .ok (.ifCond .ne 10, 3) := by decide +kernel
theorem d_Model_dropsToMark_29 : decode prog_13_method_37_code 29 = .ok (.aload_n 0, 1) := by decide +kernel
theorem d_Model_dropsToMark_30 : decode prog_13_method_37_code 30 = .ok (.invokevirtual 350, 3) := by decide +kernel
theorem kw_Model_350 : KW "NineBoardsModel" 350 ⟨"NineBoardsModel", "drops", "()V"⟩ prog_13_method_34_code 1 none 0 := ⟨(mt_6 (List.mem_of_getElem? (i := 231) rfl) rfl), (mt_1 (List.mem_of_getElem? (i := 16) rfl) rfl), (mt_6 (List.mem_of_getElem? (i := 234) rfl) rfl), by decide +kernel⟩
theorem kv_Model_drops : Cond.instanceMethod ⟨"NineBoardsModel", "drops", "()V"⟩ ∈ TB ∧ Cond.selects "NineBoardsModel" ⟨"NineBoardsModel", "drops", "()V"⟩ ⟨"NineBoardsModel", "drops", "()V"⟩ ∈ TB := ⟨(mt_6 (List.mem_of_getElem? (i := 233) rfl) rfl), (ms_0 (List.mem_map.mpr ⟨(⟨"NineBoardsModel", "drops", "()V"⟩, 79), List.mem_of_getElem? (i := 79) (by decide +kernel), rfl⟩) rfl)⟩
theorem d_Model_dropsToMark_33 : decode prog_13_method_37_code 33 = .ok (.goto (-33), 3) := by decide +kernel
set_option maxHeartbeats 4000000 in
set_option maxRecDepth 100000 in
theorem c_M_dropsToMark (l : Launch) (D : va_G) (y : Nat → ClassId) (mo : Nat) (ma : Nat → Nat) (t1 : Nat) (t2 : Nat) (t3 : Nat) (i4 : Int32) (i6 : Int32) (i7 : Int32) (i8 : Int32) (i42 : Int32) (i49 : Int32) (cd : Nat) (wn : Nat) (i54 : Int32) (bs : Nat) (i61 : Int32) (i64 : Int32) (i66 : Int32) (t67 : Nat) (i76 : Int64) (i78 : Int32) (g50 : Nat → Int32) (g52 : Nat → Int32) (s0 : Nat) (xx : Nat) (f0 : Nat → Int32) (ha : t2 ≤ t3) (he : t3 ≤ 1600) (hR : RS s0 f0 (xx + 1) 0 g50 g52 cd wn t2) (hT : ITm g52 bs) (hS : ISm g52 bs wn) (hbw : bs ≤ wn) : CT l D y ⟨"NineBoardsModel", "dropsToMark", "()V"⟩ prog_13_method_37_code 1 none ({ frames := 2, cells := 0, slots := 0, locals := 41 } : Room) [.ref mo] [MB mo ma (nI t1) (nI t2) (nI t3) i4 0 i6 i7 i8 i42 i49 (nI cd) (nI wn) i54 (nI bs) i61 i64 i66 (nI t67) i76 i78, (ma 50, .inl (y 0, 3200, .inl g50)), (ma 52, .inl (y 0, 1700, .inl g52))] (QV D [MB mo ma (nI t1) (nI t2) (nI t3) i4 0 i6 i7 i8 i42 i49 (nI cd) (nI wn) i54 (nI bs) i61 i64 i66 (nI t67) i76 i78, (ma 50, .inl (y 0, 3200, .inl g50)), (ma 52, .inl (y 0, 1700, .inl g52))] (fun (u : Nat × Nat × (Nat → Int32)) => bs ≤ u.2.1 ∧ u.2.1 ≤ wn ∧ u.1 + u.2.1 = cd + wn ∧ RS s0 f0 (xx + 1) 0 u.2.2 g52 u.1 u.2.1 t2 ∧ (u.2.1 = bs ∨ MK (g52 (u.2.1 - 1))) ∧ NMk g52 u.2.1 wn) (fun u => [MB mo ma (nI t1) (nI t2) (nI t3) i4 0 i6 i7 i8 i42 i49 (nI u.1) (nI u.2.1) i54 (nI bs) i61 i64 i66 (nI t67) i76 i78, (ma 50, .inl (y 0, 3200, .inl u.2.2)), (ma 52, .inl (y 0, 1700, .inl g52))])) := by
  refine CT.of (by decide) (nb rfl) ?_
  intro p e s m args below meth c C hr
  refine j_lv (lv' := [(0, .ref mo)]) rfl ?_
  refine j_loop (α := Nat × Nat × (Nat → Int32)) (fun a => a.1) (fun a => (bs ≤ a.1) ∧ (a.1 ≤ wn) ∧ (a.2.1 + a.1 = cd + wn) ∧ (RS s0 f0 (xx + 1) 0 a.2.2 g52 a.2.1 a.1 t2) ∧ (NMk g52 a.1 wn)) (fun a => [MB mo ma (nI t1) (nI t2) (nI t3) i4 0 i6 i7 i8 i42 i49 (nI a.2.1) (nI a.1) i54 (nI bs) i61 i64 i66 (nI t67) i76 i78, (ma 50, .inl (y 0, 3200, .inl a.2.2)), (ma 52, .inl (y 0, 1700, .inl g52))]) (fun a => [(0, .ref mo)]) (wn, cd, g50) rfl rfl ⟨hbw, (show wn ≤ wn by omega), (show cd + wn = cd + wn by omega), hR, nm_nil⟩ ?_
  rintro ⟨zn, zc, zf⟩ hP6 ih7
  obtain ⟨hb__, hn__, hsum__, hR__, hm__⟩ := hP6
  have hb_ : bs ≤ zn := hb__
  have hn_ : zn ≤ wn := hn__
  have hsum_ : zc + zn = cd + wn := hsum__
  have hR_ : RS s0 f0 (xx + 1) 0 zf g52 zc zn t2 := hR__
  have hm_ : NMk g52 zn wn := hm__
  refine j_ws (ws' := [MB mo ma (nI t1) (nI t2) (nI t3) i4 0 i6 i7 i8 i42 i49 (nI zc) (nI zn) i54 (nI bs) i61 i64 i66 (nI t67) i76 i78, (ma 50, .inl (y 0, 3200, .inl zf)), (ma 52, .inl (y 0, 1700, .inl g52))]) rfl ?_
  refine j_lv (lv' := [(0, .ref mo)]) rfl ?_
  have hac := rs_ac3 hR_
  refine j_aload_n (pc := 0) C d_Model_dropsToMark_0 rfl 0 rfl ?_
  refine j_get (pc := 1) C gf_Model_292 0 rfl rfl d_Model_dropsToMark_1 ?_
  refine j_aload_n (pc := 4) C d_Model_dropsToMark_4 rfl 0 rfl ?_
  refine j_get (pc := 5) C gf_Model_298 0 rfl rfl d_Model_dropsToMark_5 ?_
  by_cases c8 : zn ≤ bs
  · refine j_icmp_leT (pc := 8) C (tgt := 36) d_Model_dropsToMark_8 (by decide) (show nI zn ≤ nI bs from nI_le (by omega) (by omega)) ?_
    exact j_vret (pc := 36) C hr (zc, zn, zf) ⟨(show bs ≤ zn by omega), (show zn ≤ wn by omega), (show zc + zn = cd + wn by omega), hR_, (Or.inl (by omega)), hm_⟩ [0, 1, 2] rfl (by decide) (by decide) (by decide) d_Model_dropsToMark_36
  · refine j_icmp_leF (pc := 8) C (tgt := 36) d_Model_dropsToMark_8 (by decide) (show ¬ nI zn ≤ nI bs from nI_ge (by omega) (by omega)) ?_
    refine j_aload_n (pc := 11) C d_Model_dropsToMark_11 rfl 0 rfl ?_
    refine j_aload_n (pc := 12) C d_Model_dropsToMark_12 rfl 0 rfl ?_
    refine j_get (pc := 13) C gf_Model_139 0 rfl rfl d_Model_dropsToMark_13 ?_
    refine j_aload_n (pc := 16) C d_Model_dropsToMark_16 rfl 0 rfl ?_
    refine j_get (pc := 17) C gf_Model_292 0 rfl rfl d_Model_dropsToMark_17 ?_
    refine j_iconst (pc := 20) C (v := 1) d_Model_dropsToMark_20 (by decide) ?_
    refine j_isub (pc := 21) C (v := nI (zn - 1)) d_Model_dropsToMark_21 (pk_sub (a := zn) (b := 1) (by omega)) ?_
    refine j_iald (pc := 22) C 2 rfl (v := g52 (zn - 1)) (vp_in_nI (by omega) (by decide)) (by rw [nI_clamp (by omega)]) d_Model_dropsToMark_22 ?_
    refine j_callVi (pc := 23) C (c_M_isMark l D y mo ma t1 t2 t3 i4 0 i6 i7 i8 i42 i49 (nI zc) (nI zn) i54 (nI bs) i61 i64 i66 t67 i76 i78 (g52 (zn - 1))) kw_Model_347 kv_Model_isMark 0 10 rfl rfl ⟨by decide, by decide⟩ ⟨by decide, by decide⟩ (wr := [(ma 50, .inl (y 0, 3200, .inl zf)), (ma 52, .inl (y 0, 1700, .inl g52))]) [0] [1, 2] rfl rfl (by decide) (by decide) (by decide) (As := [.int (g52 (zn - 1))]) (rest := []) rfl (nb rfl) rfl d_Model_dropsToMark_23 (fun r9 _ hr9 => ?_)
    refine j_ws (ws' := [(ma 50, .inl (y 0, 3200, .inl zf)), (ma 52, .inl (y 0, 1700, .inl g52)), MB mo ma (nI t1) (nI t2) (nI t3) i4 0 i6 i7 i8 i42 i49 (nI zc) (nI zn) i54 (nI bs) i61 i64 i66 (nI t67) i76 i78]) rfl ?_
    rcases hr9 with ⟨rfl, xh11⟩ | ⟨rfl, xh12⟩
    · refine j_if_neF (pc := 26) C (tgt := 36) d_Model_dropsToMark_26 (by decide) (by decide) ?_
      refine j_aload_n (pc := 29) C d_Model_dropsToMark_29 rfl 0 rfl ?_
      refine j_callVv (pc := 30) C (c_M_drops l D y mo ma t1 t2 t3 i4 0 i6 i7 i8 i42 i49 zc zn i54 bs i61 i64 i66 t67 i76 i78 zf g52 (by omega) (by omega) (by omega)) kw_Model_350 kv_Model_drops 0 10 rfl rfl ⟨by decide, by decide⟩ ⟨by decide, by decide⟩ (wr := []) [2, 0, 1] [] rfl rfl (by decide) (by decide) (by decide) (As := []) (rest := []) rfl (nb rfl) rfl d_Model_dropsToMark_30 (fun _ _ => ?_)
      refine j_ws (ws' := [MB mo ma (nI t1) (nI t2) (nI t3) i4 0 i6 i7 i8 i42 i49 (nI (zc + 1)) (nI (zn - 1)) i54 (nI bs) i61 i64 i66 (nI t67) i76 i78, (ma 50, .inl (y 0, 3200, .inl (upd zf zc (g52 (zn - 1))))), (ma 52, .inl (y 0, 1700, .inl g52))]) rfl ?_
      refine j_goto (pc := 33) C (tgt := 0) d_Model_dropsToMark_33 (by decide) ?_
      exact ih7 ((zn - 1), (zc + 1), (upd zf zc (g52 (zn - 1)))) ⟨(show bs ≤ (zn - 1) by omega), (show (zn - 1) ≤ wn by omega), (show (zc + 1) + (zn - 1) = cd + wn by omega), (show RS s0 f0 (xx + 1) 0 (upd zf zc (g52 (zn - 1))) g52 (zc + 1) (zn - 1) t2 from rs_drop hR_ (by omega) (show zn = zn - 1 + 1 by omega) (Or.inl (si_nm (hS (zn - 1) (by omega) (by omega)) xh11))), (nm_dn hm_ (by omega) xh11)⟩ (show (zn - 1) < zn by omega)
    · refine j_if_neT (pc := 26) C (tgt := 36) d_Model_dropsToMark_26 (by decide) (by decide) ?_
      exact j_vret (pc := 36) C hr (zc, zn, zf) ⟨(show bs ≤ zn by omega), (show zn ≤ wn by omega), (show zc + zn = cd + wn by omega), hR_, (Or.inr xh12), hm_⟩ [2, 0, 1] rfl (by decide) (by decide) (by decide) d_Model_dropsToMark_36
theorem d_Model_onePart_0 : decode prog_13_method_38_code 0 = .ok (.iconst 1, 1) := by decide +kernel
theorem d_Model_onePart_1 : decode prog_13_method_38_code 1 = .ok (.istore_n 1, 1) := by decide +kernel
theorem d_Model_onePart_2 : decode prog_13_method_38_code 2 = .ok (.iload_n 1, 1) := by decide +kernel
theorem d_Model_onePart_3 : decode prog_13_method_38_code 3 = .ok (.ifCond .eq 143, 3) := by decide +kernel
theorem d_Model_onePart_146 : decode prog_13_method_38_code 146 = .ok (.aload_n 0, 1) := by decide +kernel
theorem d_Model_onePart_147 : decode prog_13_method_38_code 147 = .ok (.getfield 201, 3) := by decide +kernel
theorem d_Model_onePart_150 : decode prog_13_method_38_code 150 = .ok (.ifCond .eq 4, 3) := by decide +kernel
theorem d_Model_onePart_154 : decode prog_13_method_38_code 154 = .ok (.aload_n 0, 1) := by decide +kernel
theorem d_Model_onePart_155 : decode prog_13_method_38_code 155 = .ok (.aload_n 0, 1) := by decide +kernel
theorem d_Model_onePart_156 : decode prog_13_method_38_code 156 = .ok (.getfield 102, 3) := by decide +kernel
theorem d_Model_onePart_159 : decode prog_13_method_38_code 159 = .ok (.invokevirtual 228, 3) := by decide +kernel
theorem d_Model_onePart_162 : decode prog_13_method_38_code 162 = .ok (.ifCond .eq 8, 3) := by decide +kernel
theorem d_Model_onePart_170 : decode prog_13_method_38_code 170 = .ok (.aload_n 0, 1) := by decide +kernel
theorem d_Model_onePart_171 : decode prog_13_method_38_code 171 = .ok (.aload_n 0, 1) := by decide +kernel
theorem d_Model_onePart_172 : decode prog_13_method_38_code 172 = .ok (.getfield 105, 3) := by decide +kernel
theorem d_Model_onePart_175 : decode prog_13_method_38_code 175 = .ok (.invokevirtual 228, 3) := by decide +kernel
theorem d_Model_onePart_178 : decode prog_13_method_38_code 178 = .ok (.ifCond .eq 8, 3) := by decide +kernel
theorem d_Model_onePart_186 : decode prog_13_method_38_code 186 = .ok (.aload_n 0, 1) := by decide +kernel
theorem d_Model_onePart_187 : decode prog_13_method_38_code 187 = .ok (.aload_n 0, 1) := by decide +kernel
theorem d_Model_onePart_188 : decode prog_13_method_38_code 188 = .ok (.getfield 108, 3) := by decide +kernel
theorem d_Model_onePart_191 : decode prog_13_method_38_code 191 = .ok (.invokevirtual 228, 3) := by decide +kernel
theorem d_Model_onePart_194 : decode prog_13_method_38_code 194 = .ok (.ifCond .eq 8, 3) := by decide +kernel
theorem d_Model_onePart_202 : decode prog_13_method_38_code 202 = .ok (.iconst (-1), 1) := by decide +kernel
theorem d_Model_onePart_203 : decode prog_13_method_38_code 203 = .ok (.istore_n 2, 1) := by decide +kernel
theorem d_Model_onePart_204 : decode prog_13_method_38_code 204 = .ok (.aload_n 0, 1) := by decide +kernel
theorem d_Model_onePart_205 : decode prog_13_method_38_code 205 = .ok (.iload_n 2, 1) := by decide +kernel
theorem d_Model_onePart_206 : decode prog_13_method_38_code 206 = .ok (.iconst (-1), 1) := by decide +kernel
theorem d_Model_onePart_207 : decode prog_13_method_38_code 207 = .ok (.if_icmp .eq 7, 3) := by decide +kernel
theorem d_Model_onePart_214 : decode prog_13_method_38_code 214 = .ok (.sipush 1000, 3) := by decide +kernel
theorem d_Model_onePart_217 : decode prog_13_method_38_code 217 = .ok (.aload_n 0, 1) := by decide +kernel
theorem d_Model_onePart_218 : decode prog_13_method_38_code 218 = .ok (.iconst 0, 1) := by decide +kernel
theorem d_Model_onePart_219 : decode prog_13_method_38_code 219 = .ok (.sipush 9999, 3) := by decide +kernel
theorem d_Model_onePart_222 : decode prog_13_method_38_code 222 = .ok (.invokevirtual 267, 3) := by decide +kernel
theorem kw_Model_267 : KW "NineBoardsModel" 267 ⟨"NineBoardsModel", "number", "(II)I"⟩ prog_13_method_14_code 5 (some .int) 2 := ⟨(mt_6 (List.mem_of_getElem? (i := 127) rfl) rfl), (mt_1 (List.mem_of_getElem? (i := 16) rfl) rfl), (mt_6 (List.mem_of_getElem? (i := 130) rfl) rfl), by decide +kernel⟩
theorem kv_Model_number : Cond.instanceMethod ⟨"NineBoardsModel", "number", "(II)I"⟩ ∈ TB ∧ Cond.selects "NineBoardsModel" ⟨"NineBoardsModel", "number", "(II)I"⟩ ⟨"NineBoardsModel", "number", "(II)I"⟩ ∈ TB := ⟨(mt_6 (List.mem_of_getElem? (i := 129) rfl) rfl), (ms_0 (List.mem_map.mpr ⟨(⟨"NineBoardsModel", "number", "(II)I"⟩, 79), List.mem_of_getElem? (i := 55) (by decide +kernel), rfl⟩) rfl)⟩
theorem d_Model_onePart_225 : decode prog_13_method_38_code 225 = .ok (.iadd, 1) := by decide +kernel
theorem d_Model_onePart_226 : decode prog_13_method_38_code 226 = .ok (.invokevirtual 344, 3) := by decide +kernel
theorem d_Model_onePart_229 : decode prog_13_method_38_code 229 = .ok (.return_, 1) := by decide +kernel
theorem d_Model_onePart_197 : decode prog_13_method_38_code 197 = .ok (.bipush 9, 2) := by decide +kernel
theorem d_Model_onePart_199 : decode prog_13_method_38_code 199 = .ok (.goto 4, 3) := by decide +kernel
theorem d_Model_onePart_210 : decode prog_13_method_38_code 210 = .ok (.iload_n 2, 1) := by decide +kernel
theorem d_Model_onePart_211 : decode prog_13_method_38_code 211 = .ok (.goto 15, 3) := by decide +kernel
theorem d_Model_onePart_181 : decode prog_13_method_38_code 181 = .ok (.bipush 8, 2) := by decide +kernel
theorem d_Model_onePart_183 : decode prog_13_method_38_code 183 = .ok (.goto 20, 3) := by decide +kernel
theorem d_Model_onePart_165 : decode prog_13_method_38_code 165 = .ok (.bipush 7, 2) := by decide +kernel
theorem d_Model_onePart_167 : decode prog_13_method_38_code 167 = .ok (.goto 36, 3) := by decide +kernel
theorem d_Model_onePart_153 : decode prog_13_method_38_code 153 = .ok (.return_, 1) := by decide +kernel
theorem d_Model_onePart_6 : decode prog_13_method_38_code 6 = .ok (.aload_n 0, 1) := by decide +kernel
theorem d_Model_onePart_7 : decode prog_13_method_38_code 7 = .ok (.getfield 201, 3) := by decide +kernel
theorem d_Model_onePart_10 : decode prog_13_method_38_code 10 = .ok (.ifCond .ne 136, 3) := by decide +kernel
theorem d_Model_onePart_13 : decode prog_13_method_38_code 13 = .ok (.aload_n 0, 1) := by decide +kernel
theorem d_Model_onePart_14 : decode prog_13_method_38_code 14 = .ok (.invokevirtual 213, 3) := by decide +kernel
theorem d_Model_onePart_17 : decode prog_13_method_38_code 17 = .ok (.istore_n 2, 1) := by decide +kernel
theorem d_Model_onePart_18 : decode prog_13_method_38_code 18 = .ok (.iload_n 2, 1) := by decide +kernel
theorem d_Model_onePart_19 : decode prog_13_method_38_code 19 = .ok (.bipush 40, 2) := by decide +kernel
theorem d_Model_onePart_21 : decode prog_13_method_38_code 21 = .ok (.if_icmp .ne 26, 3) := by decide +kernel
theorem d_Model_onePart_47 : decode prog_13_method_38_code 47 = .ok (.aload_n 0, 1) := by decide +kernel
theorem d_Model_onePart_48 : decode prog_13_method_38_code 48 = .ok (.aload_n 0, 1) := by decide +kernel
theorem d_Model_onePart_49 : decode prog_13_method_38_code 49 = .ok (.getfield 111, 3) := by decide +kernel
theorem d_Model_onePart_52 : decode prog_13_method_38_code 52 = .ok (.invokevirtual 224, 3) := by decide +kernel
theorem d_Model_onePart_55 : decode prog_13_method_38_code 55 = .ok (.ifCond .ne 14, 3) := by decide +kernel
theorem d_Model_onePart_58 : decode prog_13_method_38_code 58 = .ok (.aload_n 0, 1) := by decide +kernel
theorem d_Model_onePart_59 : decode prog_13_method_38_code 59 = .ok (.aload_n 0, 1) := by decide +kernel
theorem d_Model_onePart_60 : decode prog_13_method_38_code 60 = .ok (.getfield 114, 3) := by decide +kernel
theorem d_Model_onePart_63 : decode prog_13_method_38_code 63 = .ok (.invokevirtual 224, 3) := by decide +kernel
theorem d_Model_onePart_66 : decode prog_13_method_38_code 66 = .ok (.ifCond .eq 75, 3) := by decide +kernel
theorem d_Model_onePart_141 : decode prog_13_method_38_code 141 = .ok (.iconst 0, 1) := by decide +kernel
theorem d_Model_onePart_142 : decode prog_13_method_38_code 142 = .ok (.istore_n 1, 1) := by decide +kernel
theorem d_Model_onePart_143 : decode prog_13_method_38_code 143 = .ok (.goto (-141), 3) := by decide +kernel
theorem d_Model_onePart_69 : decode prog_13_method_38_code 69 = .ok (.aload_n 0, 1) := by decide +kernel
theorem d_Model_onePart_70 : decode prog_13_method_38_code 70 = .ok (.aload_n 0, 1) := by decide +kernel
theorem d_Model_onePart_71 : decode prog_13_method_38_code 71 = .ok (.getfield 111, 3) := by decide +kernel
theorem d_Model_onePart_74 : decode prog_13_method_38_code 74 = .ok (.invokevirtual 228, 3) := by decide +kernel
theorem d_Model_onePart_77 : decode prog_13_method_38_code 77 = .ok (.istore_n 3, 1) := by decide +kernel
theorem d_Model_onePart_78 : decode prog_13_method_38_code 78 = .ok (.iload_n 3, 1) := by decide +kernel
theorem d_Model_onePart_79 : decode prog_13_method_38_code 79 = .ok (.ifCond .ne 11, 3) := by decide +kernel
theorem d_Model_onePart_82 : decode prog_13_method_38_code 82 = .ok (.aload_n 0, 1) := by decide +kernel
theorem d_Model_onePart_83 : decode prog_13_method_38_code 83 = .ok (.aload_n 0, 1) := by decide +kernel
theorem d_Model_onePart_84 : decode prog_13_method_38_code 84 = .ok (.getfield 114, 3) := by decide +kernel
theorem d_Model_onePart_87 : decode prog_13_method_38_code 87 = .ok (.invokevirtual 263, 3) := by decide +kernel
theorem kw_Model_263 : KW "NineBoardsModel" 263 ⟨"NineBoardsModel", "asks", "([C)V"⟩ prog_13_method_11_code 2 none 1 := ⟨(mt_6 (List.mem_of_getElem? (i := 104) rfl) rfl), (mt_1 (List.mem_of_getElem? (i := 16) rfl) rfl), (mt_6 (List.mem_of_getElem? (i := 107) rfl) rfl), by decide +kernel⟩
theorem kv_Model_asks : Cond.instanceMethod ⟨"NineBoardsModel", "asks", "([C)V"⟩ ∈ TB ∧ Cond.selects "NineBoardsModel" ⟨"NineBoardsModel", "asks", "([C)V"⟩ ⟨"NineBoardsModel", "asks", "([C)V"⟩ ∈ TB := ⟨(mt_6 (List.mem_of_getElem? (i := 106) rfl) rfl), (ms_0 (List.mem_map.mpr ⟨(⟨"NineBoardsModel", "asks", "([C)V"⟩, 79), List.mem_of_getElem? (i := 50) (by decide +kernel), rfl⟩) rfl)⟩
theorem d_Model_onePart_90 : decode prog_13_method_38_code 90 = .ok (.aload_n 0, 1) := by decide +kernel
theorem d_Model_onePart_91 : decode prog_13_method_38_code 91 = .ok (.invokevirtual 213, 3) := by decide +kernel
theorem d_Model_onePart_94 : decode prog_13_method_38_code 94 = .ok (.bipush 40, 2) := by decide +kernel
theorem d_Model_onePart_96 : decode prog_13_method_38_code 96 = .ok (.if_icmp .ne 10, 3) := by decide +kernel
theorem d_Model_onePart_106 : decode prog_13_method_38_code 106 = .ok (.iconst (-1), 1) := by decide +kernel
theorem d_Model_onePart_107 : decode prog_13_method_38_code 107 = .ok (.istore 4, 2) := by decide +kernel
theorem d_Model_onePart_109 : decode prog_13_method_38_code 109 = .ok (.iload 4, 2) := by decide +kernel
theorem d_Model_onePart_111 : decode prog_13_method_38_code 111 = .ok (.iconst (-1), 1) := by decide +kernel
theorem d_Model_onePart_112 : decode prog_13_method_38_code 112 = .ok (.if_icmp .eq 20, 3) := by decide +kernel
theorem d_Model_onePart_132 : decode prog_13_method_38_code 132 = .ok (.aload_n 0, 1) := by decide +kernel
theorem d_Model_onePart_133 : decode prog_13_method_38_code 133 = .ok (.bipush 40, 2) := by decide +kernel
theorem d_Model_onePart_135 : decode prog_13_method_38_code 135 = .ok (.invokevirtual 271, 3) := by decide +kernel
theorem kw_Model_271 : KW "NineBoardsModel" 271 ⟨"NineBoardsModel", "asksSign", "(I)V"⟩ prog_13_method_13_code 2 none 1 := ⟨(mt_6 (List.mem_of_getElem? (i := 137) rfl) rfl), (mt_1 (List.mem_of_getElem? (i := 16) rfl) rfl), (mt_6 (List.mem_of_getElem? (i := 140) rfl) rfl), by decide +kernel⟩
theorem kv_Model_asksSign : Cond.instanceMethod ⟨"NineBoardsModel", "asksSign", "(I)V"⟩ ∈ TB ∧ Cond.selects "NineBoardsModel" ⟨"NineBoardsModel", "asksSign", "(I)V"⟩ ⟨"NineBoardsModel", "asksSign", "(I)V"⟩ ∈ TB := ⟨(mt_6 (List.mem_of_getElem? (i := 139) rfl) rfl), (ms_0 (List.mem_map.mpr ⟨(⟨"NineBoardsModel", "asksSign", "(I)V"⟩, 79), List.mem_of_getElem? (i := 56) (by decide +kernel), rfl⟩) rfl)⟩
theorem d_Model_onePart_138 : decode prog_13_method_38_code 138 = .ok (.goto 5, 3) := by decide +kernel
theorem d_Model_onePart_99 : decode prog_13_method_38_code 99 = .ok (.aload_n 0, 1) := by decide +kernel
theorem d_Model_onePart_100 : decode prog_13_method_38_code 100 = .ok (.getfield 207, 3) := by decide +kernel
theorem d_Model_onePart_103 : decode prog_13_method_38_code 103 = .ok (.goto 4, 3) := by decide +kernel
theorem d_Model_onePart_115 : decode prog_13_method_38_code 115 = .ok (.aload_n 0, 1) := by decide +kernel
theorem d_Model_onePart_116 : decode prog_13_method_38_code 116 = .ok (.iload_n 3, 1) := by decide +kernel
theorem d_Model_onePart_117 : decode prog_13_method_38_code 117 = .ok (.ifCond .eq 8, 3) := by decide +kernel
theorem d_Model_onePart_125 : decode prog_13_method_38_code 125 = .ok (.bipush 22, 2) := by decide +kernel
theorem d_Model_onePart_127 : decode prog_13_method_38_code 127 = .ok (.iload 4, 2) := by decide +kernel
theorem d_Model_onePart_129 : decode prog_13_method_38_code 129 = .ok (.invokevirtual 353, 3) := by decide +kernel
theorem kw_Model_353 : KW "NineBoardsModel" 353 ⟨"NineBoardsModel", "opens", "(II)V"⟩ prog_13_method_32_code 3 none 2 := ⟨(mt_6 (List.mem_of_getElem? (i := 207) rfl) rfl), (mt_1 (List.mem_of_getElem? (i := 16) rfl) rfl), (mt_6 (List.mem_of_getElem? (i := 210) rfl) rfl), by decide +kernel⟩
theorem kv_Model_opens : Cond.instanceMethod ⟨"NineBoardsModel", "opens", "(II)V"⟩ ∈ TB ∧ Cond.selects "NineBoardsModel" ⟨"NineBoardsModel", "opens", "(II)V"⟩ ⟨"NineBoardsModel", "opens", "(II)V"⟩ ∈ TB := ⟨(mt_6 (List.mem_of_getElem? (i := 209) rfl) rfl), (ms_0 (List.mem_map.mpr ⟨(⟨"NineBoardsModel", "opens", "(II)V"⟩, 79), List.mem_of_getElem? (i := 73) (by decide +kernel), rfl⟩) rfl)⟩
theorem d_Model_onePart_120 : decode prog_13_method_38_code 120 = .ok (.bipush 21, 2) := by decide +kernel
theorem d_Model_onePart_122 : decode prog_13_method_38_code 122 = .ok (.goto 5, 3) := by decide +kernel
theorem d_Model_onePart_24 : decode prog_13_method_38_code 24 = .ok (.aload_n 0, 1) := by decide +kernel
theorem d_Model_onePart_25 : decode prog_13_method_38_code 25 = .ok (.bipush 20, 2) := by decide +kernel
theorem d_Model_onePart_27 : decode prog_13_method_38_code 27 = .ok (.aload_n 0, 1) := by decide +kernel
theorem d_Model_onePart_28 : decode prog_13_method_38_code 28 = .ok (.getfield 207, 3) := by decide +kernel
theorem d_Model_onePart_31 : decode prog_13_method_38_code 31 = .ok (.invokevirtual 353, 3) := by decide +kernel
theorem d_Model_onePart_34 : decode prog_13_method_38_code 34 = .ok (.aload_n 0, 1) := by decide +kernel
theorem d_Model_onePart_35 : decode prog_13_method_38_code 35 = .ok (.dup, 1) := by decide +kernel
theorem d_Model_onePart_36 : decode prog_13_method_38_code 36 = .ok (.getfield 207, 3) := by decide +kernel
theorem d_Model_onePart_39 : decode prog_13_method_38_code 39 = .ok (.iconst 1, 1) := by decide +kernel
theorem d_Model_onePart_40 : decode prog_13_method_38_code 40 = .ok (.iadd, 1) := by decide +kernel
theorem d_Model_onePart_41 : decode prog_13_method_38_code 41 = .ok (.putfield 207, 3) := by decide +kernel
theorem d_Model_onePart_44 : decode prog_13_method_38_code 44 = .ok (.goto 99, 3) := by decide +kernel
set_option maxHeartbeats 4000000 in
set_option maxRecDepth 100000 in
theorem c_M_onePart (l : Launch) (D : va_G) (y : Nat → ClassId) (mo : Nat) (ma : Nat → Nat) (t1 : Nat) (t2 : Nat) (t3 : Nat) (i4 : Int32) (i6 : Int32) (i7 : Int32) (i8 : Int32) (i42 : Int32) (i49 : Int32) (cd : Nat) (wn : Nat) (i54 : Int32) (bs : Nat) (i61 : Int32) (i64 : Int32) (i66 : Int32) (t67 : Nat) (i76 : Int64) (i78 : Int32) (g0 : Nat → Int32) (g37 : Nat → Int32) (g38 : Nat → Int32) (g39 : Nat → Int32) (g40 : Nat → Int32) (g41 : Nat → Int32) (g50 : Nat → Int32) (g52 : Nat → Int32) (s0 : Nat) (xx : Nat) (f0 : Nat → Int32) (ha : t2 ≤ t3) (he : t3 ≤ 1600) (hR : RS s0 f0 xx 0 g50 g52 cd wn t2) (hT : ITm g52 bs) (hS : ISm g52 bs wn) (hbw : bs ≤ wn) : CT l D y ⟨"NineBoardsModel", "onePart", "()V"⟩ prog_13_method_38_code 5 none ({ frames := 4, cells := 0, slots := 0, locals := 85 } : Room) [.ref mo] [MB mo ma (nI t1) (nI t2) (nI t3) i4 0 i6 i7 i8 i42 i49 (nI cd) (nI wn) i54 (nI bs) i61 i64 i66 (nI t67) i76 i78, (ma 0, .inl (y 0, 1600, .inl g0)), (ma 37, .inl (y 3, 3, .inl g37)), (ma 38, .inl (y 3, 5, .inl g38)), (ma 39, .inl (y 3, 5, .inl g39)), (ma 40, .inl (y 3, 3, .inl g40)), (ma 41, .inl (y 3, 3, .inl g41)), (ma 50, .inl (y 0, 3200, .inl g50)), (ma 52, .inl (y 0, 1700, .inl g52))] (QV D [MB mo ma (nI t1) (nI t2) (nI t3) i4 0 i6 i7 i8 i42 i49 (nI cd) (nI wn) i54 (nI bs) i61 i64 i66 (nI t67) i76 i78, (ma 0, .inl (y 0, 1600, .inl g0)), (ma 37, .inl (y 3, 3, .inl g37)), (ma 38, .inl (y 3, 5, .inl g38)), (ma 39, .inl (y 3, 5, .inl g39)), (ma 40, .inl (y 3, 3, .inl g40)), (ma 41, .inl (y 3, 3, .inl g41)), (ma 50, .inl (y 0, 3200, .inl g50)), (ma 52, .inl (y 0, 1700, .inl g52))] (fun (u : Nat × Int32 × Int32 × Int32 × Nat × Nat × Int32 × (Nat → Int32) × (Nat → Int32)) => t2 ≤ u.1 ∧ u.1 ≤ t3 ∧ (u.2.2.1 = 0 → 0 = 0 ∧ t2 < u.1) ∧ RS s0 f0 (xx + 1) u.2.2.1 u.2.2.2.2.2.2.2.1 u.2.2.2.2.2.2.2.2 u.2.2.2.2.1 u.2.2.2.2.2.1 u.1 ∧ ITm u.2.2.2.2.2.2.2.2 bs ∧ ISm u.2.2.2.2.2.2.2.2 bs u.2.2.2.2.2.1 ∧ bs ≤ u.2.2.2.2.2.1) (fun u => [MB mo ma (nI t1) (nI u.1) (nI t3) u.2.1 u.2.2.1 u.2.2.2.1 i7 i8 i42 i49 (nI u.2.2.2.2.1) (nI u.2.2.2.2.2.1) u.2.2.2.2.2.2.1 (nI bs) i61 i64 i66 (nI t67) i76 i78, (ma 0, .inl (y 0, 1600, .inl g0)), (ma 37, .inl (y 3, 3, .inl g37)), (ma 38, .inl (y 3, 5, .inl g38)), (ma 39, .inl (y 3, 5, .inl g39)), (ma 40, .inl (y 3, 3, .inl g40)), (ma 41, .inl (y 3, 3, .inl g41)), (ma 50, .inl (y 0, 3200, .inl u.2.2.2.2.2.2.2.1)), (ma 52, .inl (y 0, 1700, .inl u.2.2.2.2.2.2.2.2))])) := by
  refine CT.of (by decide) (nb rfl) ?_
  intro p e s m args below meth c C hr
  refine j_lv (lv' := [(0, .ref mo)]) rfl ?_
  refine j_iconst (pc := 0) C (v := 1) d_Model_onePart_0 (by decide) ?_
  refine j_istore_n (pc := 1) C (lv' := [(1, .int 1), (0, .ref mo)]) d_Model_onePart_1 rfl (by decide) rfl ?_
  refine j_loop (α := Nat × Nat × Int32 × (Nat → Int32) × Nat × Int32 × Int32 × Int32) (fun a => 2 * (t3 - a.2.1) + bz1 a.2.2.1 + a.1) (fun a => (a.2.1 ≤ t3) ∧ (t2 ≤ a.2.1) ∧ (RS s0 f0 xx a.2.2.1 g50 a.2.2.2.1 cd a.2.2.2.2.1 a.2.1) ∧ (ITm a.2.2.2.1 bs) ∧ (ISm a.2.2.2.1 bs a.2.2.2.2.1) ∧ (bs ≤ a.2.2.2.2.1)) (fun a => [MB mo ma (nI t1) (nI a.2.1) (nI t3) a.2.2.2.2.2.1 a.2.2.1 a.2.2.2.2.2.2.1 i7 i8 i42 i49 (nI cd) (nI a.2.2.2.2.1) a.2.2.2.2.2.2.2 (nI bs) i61 i64 i66 (nI t67) i76 i78, (ma 0, .inl (y 0, 1600, .inl g0)), (ma 37, .inl (y 3, 3, .inl g37)), (ma 38, .inl (y 3, 5, .inl g38)), (ma 39, .inl (y 3, 5, .inl g39)), (ma 40, .inl (y 3, 3, .inl g40)), (ma 41, .inl (y 3, 3, .inl g41)), (ma 50, .inl (y 0, 3200, .inl g50)), (ma 52, .inl (y 0, 1700, .inl a.2.2.2.1))]) (fun a => [(1, .int (nI a.1)), (0, .ref mo)]) (1, t2, 0, g52, wn, i4, i6, i54) rfl rfl ⟨ha, (show t2 ≤ t2 by omega), (show RS s0 f0 xx 0 g50 g52 cd wn t2 from (rs_at hR (by omega))), hT, hS, hbw⟩ ?_
  rintro ⟨mz, az, bz, zw, zn, z374, z375, z376⟩ hP750 ih751
  obtain ⟨hz__, hy__, hR__, hT__, hS__, hb__⟩ := hP750
  have hz_ : az ≤ t3 := hz__
  have hy_ : t2 ≤ az := hy__
  have hR_ : RS s0 f0 xx bz g50 zw cd zn az := hR__
  have hT_ : ITm zw bs := hT__
  have hS_ : ISm zw bs zn := hS__
  have hb_ : bs ≤ zn := hb__
  refine j_ws (ws' := [MB mo ma (nI t1) (nI az) (nI t3) z374 bz z375 i7 i8 i42 i49 (nI cd) (nI zn) z376 (nI bs) i61 i64 i66 (nI t67) i76 i78, (ma 0, .inl (y 0, 1600, .inl g0)), (ma 37, .inl (y 3, 3, .inl g37)), (ma 38, .inl (y 3, 5, .inl g38)), (ma 39, .inl (y 3, 5, .inl g39)), (ma 40, .inl (y 3, 3, .inl g40)), (ma 41, .inl (y 3, 3, .inl g41)), (ma 50, .inl (y 0, 3200, .inl g50)), (ma 52, .inl (y 0, 1700, .inl zw))]) rfl ?_
  refine j_lv (lv' := [(1, .int (nI mz)), (0, .ref mo)]) rfl ?_
  have hac := rs_acc hR_
  refine j_iload_n (pc := 2) C d_Model_onePart_2 rfl 0 rfl ?_
  by_cases c752 : mz = 0
  · refine j_if_eqT (pc := 3) C (tgt := 146) d_Model_onePart_3 (by decide) (show nI mz = nI 0 from (nI_eq (by omega) (by omega)).mpr (by omega)) ?_
    refine j_aload_n (pc := 146) C d_Model_onePart_146 rfl 1 rfl ?_
    refine j_get (pc := 147) C gf_Model_201 0 rfl rfl d_Model_onePart_147 ?_
    refine j_if_eq (pc := 150) C (tgt := 154) d_Model_onePart_150 (by decide) (fun c753 => ?_) (fun c753 => ?_)
    · refine j_ws (ws' := [MB mo ma (nI t1) (nI az) (nI t3) z374 0 z375 i7 i8 i42 i49 (nI cd) (nI zn) z376 (nI bs) i61 i64 i66 (nI t67) i76 i78, (ma 0, .inl (y 0, 1600, .inl g0)), (ma 37, .inl (y 3, 3, .inl g37)), (ma 38, .inl (y 3, 5, .inl g38)), (ma 39, .inl (y 3, 5, .inl g39)), (ma 40, .inl (y 3, 3, .inl g40)), (ma 41, .inl (y 3, 3, .inl g41)), (ma 50, .inl (y 0, 3200, .inl g50)), (ma 52, .inl (y 0, 1700, .inl zw))]) (by rw [c753]) ?_
      have xh754 : RS s0 f0 xx 0 g50 zw cd zn az := rs_z hR_ c753
      have hac4 := rs_ac3 xh754
      refine j_aload_n (pc := 154) C d_Model_onePart_154 rfl 1 rfl ?_
      refine j_aload_n (pc := 155) C d_Model_onePart_155 rfl 1 rfl ?_
      refine j_get (pc := 156) C gf_Model_102 0 rfl rfl d_Model_onePart_156 ?_
      refine j_callVi (pc := 159) C (c_M_takes_3 l D y mo (ma 37) ma t1 az t3 z374 0 z375 i7 i8 i42 i49 (nI cd) (nI zn) z376 (nI bs) i61 i64 i66 t67 i76 i78 g0 g37 hz_ he) kw_Model_228 kv_Model_takes 0 10 rfl rfl ⟨by decide, by decide⟩ ⟨by decide, by decide⟩ (wr := [(ma 38, .inl (y 3, 5, .inl g38)), (ma 39, .inl (y 3, 5, .inl g39)), (ma 40, .inl (y 3, 3, .inl g40)), (ma 41, .inl (y 3, 3, .inl g41)), (ma 50, .inl (y 0, 3200, .inl g50)), (ma 52, .inl (y 0, 1700, .inl zw))]) [0, 1, 2] [3, 4, 5, 6, 7, 8] rfl rfl (by decide) (by decide) (by decide) (As := [.ref (ma 37)]) (rest := []) rfl (nb rfl) rfl d_Model_onePart_159 (fun r755 u756 hr755 => ?_)
      refine j_ws (ws' := [(ma 38, .inl (y 3, 5, .inl g38)), (ma 39, .inl (y 3, 5, .inl g39)), (ma 40, .inl (y 3, 3, .inl g40)), (ma 41, .inl (y 3, 3, .inl g41)), (ma 50, .inl (y 0, 3200, .inl g50)), (ma 52, .inl (y 0, 1700, .inl zw)), MB mo ma (nI t1) (nI u756.1) (nI t3) u756.2 0 z375 i7 i8 i42 i49 (nI cd) (nI zn) z376 (nI bs) i61 i64 i66 (nI t67) i76 i78, (ma 0, .inl (y 0, 1600, .inl g0)), (ma 37, .inl (y 3, 3, .inl g37))]) rfl ?_
      obtain ⟨xh757, xh758, xh759⟩ := hr755
      rcases xh759 with rfl | ⟨rfl, xh760⟩
      · refine j_if_eqT (pc := 162) C (tgt := 170) d_Model_onePart_162 (by decide) (by decide) ?_
        refine j_aload_n (pc := 170) C d_Model_onePart_170 rfl 1 rfl ?_
        refine j_aload_n (pc := 171) C d_Model_onePart_171 rfl 1 rfl ?_
        refine j_get (pc := 172) C gf_Model_105 6 rfl rfl d_Model_onePart_172 ?_
        refine j_callVi (pc := 175) C (c_M_takes_5 l D y mo (ma 38) ma t1 u756.1 t3 u756.2 0 z375 i7 i8 i42 i49 (nI cd) (nI zn) z376 (nI bs) i61 i64 i66 t67 i76 i78 g0 g38 xh758 he) kw_Model_228 kv_Model_takes 0 10 rfl rfl ⟨by decide, by decide⟩ ⟨by decide, by decide⟩ (wr := [(ma 39, .inl (y 3, 5, .inl g39)), (ma 40, .inl (y 3, 3, .inl g40)), (ma 41, .inl (y 3, 3, .inl g41)), (ma 50, .inl (y 0, 3200, .inl g50)), (ma 52, .inl (y 0, 1700, .inl zw)), (ma 37, .inl (y 3, 3, .inl g37))]) [6, 7, 0] [1, 2, 3, 4, 5, 8] rfl rfl (by decide) (by decide) (by decide) (As := [.ref (ma 38)]) (rest := []) rfl (nb rfl) rfl d_Model_onePart_175 (fun r761 u762 hr761 => ?_)
        refine j_ws (ws' := [(ma 39, .inl (y 3, 5, .inl g39)), (ma 40, .inl (y 3, 3, .inl g40)), (ma 41, .inl (y 3, 3, .inl g41)), (ma 50, .inl (y 0, 3200, .inl g50)), (ma 52, .inl (y 0, 1700, .inl zw)), (ma 37, .inl (y 3, 3, .inl g37)), MB mo ma (nI t1) (nI u762.1) (nI t3) u762.2 0 z375 i7 i8 i42 i49 (nI cd) (nI zn) z376 (nI bs) i61 i64 i66 (nI t67) i76 i78, (ma 0, .inl (y 0, 1600, .inl g0)), (ma 38, .inl (y 3, 5, .inl g38))]) rfl ?_
        obtain ⟨xh763, xh764, xh765⟩ := hr761
        rcases xh765 with rfl | ⟨rfl, xh766⟩
        · refine j_if_eqT (pc := 178) C (tgt := 186) d_Model_onePart_178 (by decide) (by decide) ?_
          refine j_aload_n (pc := 186) C d_Model_onePart_186 rfl 1 rfl ?_
          refine j_aload_n (pc := 187) C d_Model_onePart_187 rfl 1 rfl ?_
          refine j_get (pc := 188) C gf_Model_108 6 rfl rfl d_Model_onePart_188 ?_
          refine j_callVi (pc := 191) C (c_M_takes_5 l D y mo (ma 39) ma t1 u762.1 t3 u762.2 0 z375 i7 i8 i42 i49 (nI cd) (nI zn) z376 (nI bs) i61 i64 i66 t67 i76 i78 g0 g39 xh764 he) kw_Model_228 kv_Model_takes 0 10 rfl rfl ⟨by decide, by decide⟩ ⟨by decide, by decide⟩ (wr := [(ma 40, .inl (y 3, 3, .inl g40)), (ma 41, .inl (y 3, 3, .inl g41)), (ma 50, .inl (y 0, 3200, .inl g50)), (ma 52, .inl (y 0, 1700, .inl zw)), (ma 37, .inl (y 3, 3, .inl g37)), (ma 38, .inl (y 3, 5, .inl g38))]) [6, 7, 0] [1, 2, 3, 4, 5, 8] rfl rfl (by decide) (by decide) (by decide) (As := [.ref (ma 39)]) (rest := []) rfl (nb rfl) rfl d_Model_onePart_191 (fun r767 u768 hr767 => ?_)
          refine j_ws (ws' := [(ma 40, .inl (y 3, 3, .inl g40)), (ma 41, .inl (y 3, 3, .inl g41)), (ma 50, .inl (y 0, 3200, .inl g50)), (ma 52, .inl (y 0, 1700, .inl zw)), (ma 37, .inl (y 3, 3, .inl g37)), (ma 38, .inl (y 3, 5, .inl g38)), MB mo ma (nI t1) (nI u768.1) (nI t3) u768.2 0 z375 i7 i8 i42 i49 (nI cd) (nI zn) z376 (nI bs) i61 i64 i66 (nI t67) i76 i78, (ma 0, .inl (y 0, 1600, .inl g0)), (ma 39, .inl (y 3, 5, .inl g39))]) rfl ?_
          obtain ⟨xh769, xh770, xh771⟩ := hr767
          rcases xh771 with rfl | ⟨rfl, xh772⟩
          · refine j_if_eqT (pc := 194) C (tgt := 202) d_Model_onePart_194 (by decide) (by decide) ?_
            refine j_iconst (pc := 202) C (v := (-1)) d_Model_onePart_202 (by decide) ?_
            refine j_istore_n (pc := 203) C (lv' := [(2, .int (-1)), (1, .int (nI mz)), (0, .ref mo)]) d_Model_onePart_203 rfl (by decide) rfl ?_
            refine j_aload_n (pc := 204) C d_Model_onePart_204 rfl 2 rfl ?_
            refine j_iload_n (pc := 205) C d_Model_onePart_205 rfl 0 rfl ?_
            refine j_iconst (pc := 206) C (v := (-1)) d_Model_onePart_206 (by decide) ?_
            refine j_icmp_eqT (pc := 207) C (tgt := 214) d_Model_onePart_207 (by decide) (by decide) ?_
            refine j_sipush (pc := 214) C (v := 1000) d_Model_onePart_214 (by decide) ?_
            refine j_aload_n (pc := 217) C d_Model_onePart_217 rfl 2 rfl ?_
            refine j_iconst (pc := 218) C (v := 0) d_Model_onePart_218 (by decide) ?_
            refine j_sipush (pc := 219) C (v := 9999) d_Model_onePart_219 (by decide) ?_
            refine j_callVi (pc := 222) C (c_M_number l D y mo ma t1 u768.1 t3 u768.2 0 z375 i7 i8 i42 i49 (nI cd) (nI zn) z376 (nI bs) i61 i64 i66 t67 i76 i78 g0 0 9999 xh770 he) kw_Model_267 kv_Model_number 0 10 rfl rfl ⟨by decide, by decide⟩ ⟨by decide, by decide⟩ (wr := [(ma 40, .inl (y 3, 3, .inl g40)), (ma 41, .inl (y 3, 3, .inl g41)), (ma 50, .inl (y 0, 3200, .inl g50)), (ma 52, .inl (y 0, 1700, .inl zw)), (ma 37, .inl (y 3, 3, .inl g37)), (ma 38, .inl (y 3, 5, .inl g38)), (ma 39, .inl (y 3, 5, .inl g39))]) [6, 7] [0, 1, 2, 3, 4, 5, 8] rfl rfl (by decide) (by decide) (by decide) (As := [.int 0, .int 9999]) (rest := [.int 1000, .ref mo]) rfl (nb rfl) rfl d_Model_onePart_222 (fun r773 u774 hr773 => ?_)
            obtain ⟨xh775, xh776, xh777⟩ := hr773
            refine j_ws (ws' := [(ma 40, .inl (y 3, 3, .inl g40)), (ma 41, .inl (y 3, 3, .inl g41)), (ma 50, .inl (y 0, 3200, .inl g50)), (ma 52, .inl (y 0, 1700, .inl zw)), (ma 37, .inl (y 3, 3, .inl g37)), (ma 38, .inl (y 3, 5, .inl g38)), (ma 39, .inl (y 3, 5, .inl g39)), MB mo ma (nI t1) (nI u774.1) (nI t3) u774.2.1 u774.2.2.1 u774.2.2.2 i7 i8 i42 i49 (nI cd) (nI zn) z376 (nI bs) i61 i64 i66 (nI t67) i76 i78, (ma 0, .inl (y 0, 1600, .inl g0))]) rfl ?_
            refine j_iadd (pc := 225) C (v := 1000 + r773) d_Model_onePart_225 rfl ?_
            refine j_callVv (pc := 226) C (c_M_code l D y mo ma t1 u774.1 t3 u774.2.1 u774.2.2.1 u774.2.2.2 i7 i8 i42 i49 cd zn z376 bs i61 i64 i66 t67 i76 i78 g50 (1000 + r773) (by omega)) kw_Model_344 kv_Model_code 0 10 rfl rfl ⟨by decide, by decide⟩ ⟨by decide, by decide⟩ (wr := [(ma 40, .inl (y 3, 3, .inl g40)), (ma 41, .inl (y 3, 3, .inl g41)), (ma 52, .inl (y 0, 1700, .inl zw)), (ma 37, .inl (y 3, 3, .inl g37)), (ma 38, .inl (y 3, 5, .inl g38)), (ma 39, .inl (y 3, 5, .inl g39)), (ma 0, .inl (y 0, 1600, .inl g0))]) [7, 2] [0, 1, 3, 4, 5, 6, 8] rfl rfl (by decide) (by decide) (by decide) (As := [.int (1000 + r773)]) (rest := []) rfl (nb rfl) rfl d_Model_onePart_226 (fun _ _ => ?_)
            refine j_ws (ws' := [(ma 40, .inl (y 3, 3, .inl g40)), (ma 41, .inl (y 3, 3, .inl g41)), (ma 52, .inl (y 0, 1700, .inl zw)), (ma 37, .inl (y 3, 3, .inl g37)), (ma 38, .inl (y 3, 5, .inl g38)), (ma 39, .inl (y 3, 5, .inl g39)), (ma 0, .inl (y 0, 1600, .inl g0)), MB mo ma (nI t1) (nI u774.1) (nI t3) u774.2.1 u774.2.2.1 u774.2.2.2 i7 i8 i42 i49 (nI (cd + 1)) (nI zn) z376 (nI bs) i61 i64 i66 (nI t67) i76 i78, (ma 50, .inl (y 0, 3200, .inl (upd g50 cd (1000 + r773))))]) rfl ?_
            exact j_vret (pc := 229) C hr (u774.1, u774.2.1, u774.2.2.1, u774.2.2.2, (cd + 1), zn, z376, (upd g50 cd (1000 + r773)), zw) ⟨(show t2 ≤ u774.1 by omega), (show u774.1 ≤ t3 by omega), (fun e => by obtain ⟨_, f1, _⟩ := xh777 e; exact ⟨rfl, by omega⟩), (rs_leaf xh754 (by omega) (by omega) (fun e => by obtain ⟨_, f1, q, hq, eq⟩ := xh777 e; exact ⟨by omega, Or.inl (num_ge hq eq)⟩)), hT_, hS_, (show bs ≤ zn by omega)⟩ [7, 6, 3, 4, 5, 0, 1, 8, 2] rfl (by decide) (by decide) (by decide) d_Model_onePart_229
          · refine j_if_eqF (pc := 194) C (tgt := 202) d_Model_onePart_194 (by decide) (by decide) ?_
            refine j_bipush (pc := 197) C (v := 9) d_Model_onePart_197 (by decide) ?_
            refine j_goto (pc := 199) C (tgt := 203) d_Model_onePart_199 (by decide) ?_
            refine j_istore_n (pc := 203) C (lv' := [(2, .int 9), (1, .int (nI mz)), (0, .ref mo)]) d_Model_onePart_203 rfl (by decide) rfl ?_
            refine j_aload_n (pc := 204) C d_Model_onePart_204 rfl 2 rfl ?_
            refine j_iload_n (pc := 205) C d_Model_onePart_205 rfl 0 rfl ?_
            refine j_iconst (pc := 206) C (v := (-1)) d_Model_onePart_206 (by decide) ?_
            refine j_icmp_eqF (pc := 207) C (tgt := 214) d_Model_onePart_207 (by decide) (by decide) ?_
            refine j_iload_n (pc := 210) C d_Model_onePart_210 rfl 0 rfl ?_
            refine j_goto (pc := 211) C (tgt := 226) d_Model_onePart_211 (by decide) ?_
            refine j_callVv (pc := 226) C (c_M_code l D y mo ma t1 u768.1 t3 u768.2 0 z375 i7 i8 i42 i49 cd zn z376 bs i61 i64 i66 t67 i76 i78 g50 9 (by omega)) kw_Model_344 kv_Model_code 0 10 rfl rfl ⟨by decide, by decide⟩ ⟨by decide, by decide⟩ (wr := [(ma 40, .inl (y 3, 3, .inl g40)), (ma 41, .inl (y 3, 3, .inl g41)), (ma 52, .inl (y 0, 1700, .inl zw)), (ma 37, .inl (y 3, 3, .inl g37)), (ma 38, .inl (y 3, 5, .inl g38)), (ma 0, .inl (y 0, 1600, .inl g0)), (ma 39, .inl (y 3, 5, .inl g39))]) [6, 2] [0, 1, 3, 4, 5, 7, 8] rfl rfl (by decide) (by decide) (by decide) (As := [.int 9]) (rest := []) rfl (nb rfl) rfl d_Model_onePart_226 (fun _ _ => ?_)
            refine j_ws (ws' := [(ma 40, .inl (y 3, 3, .inl g40)), (ma 41, .inl (y 3, 3, .inl g41)), (ma 52, .inl (y 0, 1700, .inl zw)), (ma 37, .inl (y 3, 3, .inl g37)), (ma 38, .inl (y 3, 5, .inl g38)), (ma 0, .inl (y 0, 1600, .inl g0)), (ma 39, .inl (y 3, 5, .inl g39)), MB mo ma (nI t1) (nI u768.1) (nI t3) u768.2 0 z375 i7 i8 i42 i49 (nI (cd + 1)) (nI zn) z376 (nI bs) i61 i64 i66 (nI t67) i76 i78, (ma 50, .inl (y 0, 3200, .inl (upd g50 cd 9)))]) rfl ?_
            exact j_vret (pc := 229) C hr (u768.1, u768.2, 0, z375, (cd + 1), zn, z376, (upd g50 cd 9), zw) ⟨(show t2 ≤ u768.1 by omega), (show u768.1 ≤ t3 by omega), (fun _ => ⟨rfl, by omega⟩), (rs_leaf xh754 (by omega) (by omega) (fun _ => ⟨by omega, by decide⟩)), hT_, hS_, (show bs ≤ zn by omega)⟩ [7, 5, 3, 4, 6, 0, 1, 8, 2] rfl (by decide) (by decide) (by decide) d_Model_onePart_229
        · refine j_if_eqF (pc := 178) C (tgt := 186) d_Model_onePart_178 (by decide) (by decide) ?_
          refine j_bipush (pc := 181) C (v := 8) d_Model_onePart_181 (by decide) ?_
          refine j_goto (pc := 183) C (tgt := 203) d_Model_onePart_183 (by decide) ?_
          refine j_istore_n (pc := 203) C (lv' := [(2, .int 8), (1, .int (nI mz)), (0, .ref mo)]) d_Model_onePart_203 rfl (by decide) rfl ?_
          refine j_aload_n (pc := 204) C d_Model_onePart_204 rfl 2 rfl ?_
          refine j_iload_n (pc := 205) C d_Model_onePart_205 rfl 0 rfl ?_
          refine j_iconst (pc := 206) C (v := (-1)) d_Model_onePart_206 (by decide) ?_
          refine j_icmp_eqF (pc := 207) C (tgt := 214) d_Model_onePart_207 (by decide) (by decide) ?_
          refine j_iload_n (pc := 210) C d_Model_onePart_210 rfl 0 rfl ?_
          refine j_goto (pc := 211) C (tgt := 226) d_Model_onePart_211 (by decide) ?_
          refine j_callVv (pc := 226) C (c_M_code l D y mo ma t1 u762.1 t3 u762.2 0 z375 i7 i8 i42 i49 cd zn z376 bs i61 i64 i66 t67 i76 i78 g50 8 (by omega)) kw_Model_344 kv_Model_code 0 10 rfl rfl ⟨by decide, by decide⟩ ⟨by decide, by decide⟩ (wr := [(ma 39, .inl (y 3, 5, .inl g39)), (ma 40, .inl (y 3, 3, .inl g40)), (ma 41, .inl (y 3, 3, .inl g41)), (ma 52, .inl (y 0, 1700, .inl zw)), (ma 37, .inl (y 3, 3, .inl g37)), (ma 0, .inl (y 0, 1600, .inl g0)), (ma 38, .inl (y 3, 5, .inl g38))]) [6, 3] [0, 1, 2, 4, 5, 7, 8] rfl rfl (by decide) (by decide) (by decide) (As := [.int 8]) (rest := []) rfl (nb rfl) rfl d_Model_onePart_226 (fun _ _ => ?_)
          refine j_ws (ws' := [(ma 39, .inl (y 3, 5, .inl g39)), (ma 40, .inl (y 3, 3, .inl g40)), (ma 41, .inl (y 3, 3, .inl g41)), (ma 52, .inl (y 0, 1700, .inl zw)), (ma 37, .inl (y 3, 3, .inl g37)), (ma 0, .inl (y 0, 1600, .inl g0)), (ma 38, .inl (y 3, 5, .inl g38)), MB mo ma (nI t1) (nI u762.1) (nI t3) u762.2 0 z375 i7 i8 i42 i49 (nI (cd + 1)) (nI zn) z376 (nI bs) i61 i64 i66 (nI t67) i76 i78, (ma 50, .inl (y 0, 3200, .inl (upd g50 cd 8)))]) rfl ?_
          exact j_vret (pc := 229) C hr (u762.1, u762.2, 0, z375, (cd + 1), zn, z376, (upd g50 cd 8), zw) ⟨(show t2 ≤ u762.1 by omega), (show u762.1 ≤ t3 by omega), (fun _ => ⟨rfl, by omega⟩), (rs_leaf xh754 (by omega) (by omega) (fun _ => ⟨by omega, by decide⟩)), hT_, hS_, (show bs ≤ zn by omega)⟩ [7, 5, 4, 6, 0, 1, 2, 8, 3] rfl (by decide) (by decide) (by decide) d_Model_onePart_229
      · refine j_if_eqF (pc := 162) C (tgt := 170) d_Model_onePart_162 (by decide) (by decide) ?_
        refine j_bipush (pc := 165) C (v := 7) d_Model_onePart_165 (by decide) ?_
        refine j_goto (pc := 167) C (tgt := 203) d_Model_onePart_167 (by decide) ?_
        refine j_istore_n (pc := 203) C (lv' := [(2, .int 7), (1, .int (nI mz)), (0, .ref mo)]) d_Model_onePart_203 rfl (by decide) rfl ?_
        refine j_aload_n (pc := 204) C d_Model_onePart_204 rfl 2 rfl ?_
        refine j_iload_n (pc := 205) C d_Model_onePart_205 rfl 0 rfl ?_
        refine j_iconst (pc := 206) C (v := (-1)) d_Model_onePart_206 (by decide) ?_
        refine j_icmp_eqF (pc := 207) C (tgt := 214) d_Model_onePart_207 (by decide) (by decide) ?_
        refine j_iload_n (pc := 210) C d_Model_onePart_210 rfl 0 rfl ?_
        refine j_goto (pc := 211) C (tgt := 226) d_Model_onePart_211 (by decide) ?_
        refine j_callVv (pc := 226) C (c_M_code l D y mo ma t1 u756.1 t3 u756.2 0 z375 i7 i8 i42 i49 cd zn z376 bs i61 i64 i66 t67 i76 i78 g50 7 (by omega)) kw_Model_344 kv_Model_code 0 10 rfl rfl ⟨by decide, by decide⟩ ⟨by decide, by decide⟩ (wr := [(ma 38, .inl (y 3, 5, .inl g38)), (ma 39, .inl (y 3, 5, .inl g39)), (ma 40, .inl (y 3, 3, .inl g40)), (ma 41, .inl (y 3, 3, .inl g41)), (ma 52, .inl (y 0, 1700, .inl zw)), (ma 0, .inl (y 0, 1600, .inl g0)), (ma 37, .inl (y 3, 3, .inl g37))]) [6, 4] [0, 1, 2, 3, 5, 7, 8] rfl rfl (by decide) (by decide) (by decide) (As := [.int 7]) (rest := []) rfl (nb rfl) rfl d_Model_onePart_226 (fun _ _ => ?_)
        refine j_ws (ws' := [(ma 38, .inl (y 3, 5, .inl g38)), (ma 39, .inl (y 3, 5, .inl g39)), (ma 40, .inl (y 3, 3, .inl g40)), (ma 41, .inl (y 3, 3, .inl g41)), (ma 52, .inl (y 0, 1700, .inl zw)), (ma 0, .inl (y 0, 1600, .inl g0)), (ma 37, .inl (y 3, 3, .inl g37)), MB mo ma (nI t1) (nI u756.1) (nI t3) u756.2 0 z375 i7 i8 i42 i49 (nI (cd + 1)) (nI zn) z376 (nI bs) i61 i64 i66 (nI t67) i76 i78, (ma 50, .inl (y 0, 3200, .inl (upd g50 cd 7)))]) rfl ?_
        exact j_vret (pc := 229) C hr (u756.1, u756.2, 0, z375, (cd + 1), zn, z376, (upd g50 cd 7), zw) ⟨(show t2 ≤ u756.1 by omega), (show u756.1 ≤ t3 by omega), (fun _ => ⟨rfl, by omega⟩), (rs_leaf xh754 (by omega) (by omega) (fun _ => ⟨by omega, by decide⟩)), hT_, hS_, (show bs ≤ zn by omega)⟩ [7, 5, 6, 0, 1, 2, 3, 8, 4] rfl (by decide) (by decide) (by decide) d_Model_onePart_229
    · exact j_vret (pc := 153) C hr (az, z374, bz, z375, cd, zn, z376, g50, zw) ⟨(show t2 ≤ az by omega), (show az ≤ t3 by omega), (fun e => absurd e c753), (rs_at (rs_bad hR_ c753) (by omega)), hT_, hS_, (show bs ≤ zn by omega)⟩ [0, 1, 2, 3, 4, 5, 6, 7, 8] rfl (by decide) (by decide) (by decide) d_Model_onePart_153
  · refine j_if_eqF (pc := 3) C (tgt := 146) d_Model_onePart_3 (by decide) (show ¬ nI mz = nI 0 from fun e => absurd ((nI_eq (by omega) (by omega)).mp e) (by omega)) ?_
    refine j_aload_n (pc := 6) C d_Model_onePart_6 rfl 1 rfl ?_
    refine j_get (pc := 7) C gf_Model_201 0 rfl rfl d_Model_onePart_7 ?_
    refine j_if_ne (pc := 10) C (tgt := 146) d_Model_onePart_10 (by decide) (fun c778 => ?_) (fun c778 => ?_)
    · refine j_aload_n (pc := 146) C d_Model_onePart_146 rfl 1 rfl ?_
      refine j_get (pc := 147) C gf_Model_201 0 rfl rfl d_Model_onePart_147 ?_
      refine j_if_eqF (pc := 150) C (tgt := 154) d_Model_onePart_150 (by decide) c778 ?_
      exact j_vret (pc := 153) C hr (az, z374, bz, z375, cd, zn, z376, g50, zw) ⟨(show t2 ≤ az by omega), (show az ≤ t3 by omega), (fun e => absurd e c778), (rs_at (rs_bad hR_ c778) (by omega)), hT_, hS_, (show bs ≤ zn by omega)⟩ [0, 1, 2, 3, 4, 5, 6, 7, 8] rfl (by decide) (by decide) (by decide) d_Model_onePart_153
    · refine j_ws (ws' := [MB mo ma (nI t1) (nI az) (nI t3) z374 0 z375 i7 i8 i42 i49 (nI cd) (nI zn) z376 (nI bs) i61 i64 i66 (nI t67) i76 i78, (ma 0, .inl (y 0, 1600, .inl g0)), (ma 37, .inl (y 3, 3, .inl g37)), (ma 38, .inl (y 3, 5, .inl g38)), (ma 39, .inl (y 3, 5, .inl g39)), (ma 40, .inl (y 3, 3, .inl g40)), (ma 41, .inl (y 3, 3, .inl g41)), (ma 50, .inl (y 0, 3200, .inl g50)), (ma 52, .inl (y 0, 1700, .inl zw))]) (by rw [c778]) ?_
      have xh779 : RS s0 f0 xx 0 g50 zw cd zn az := rs_z hR_ c778
      refine j_aload_n (pc := 13) C d_Model_onePart_13 rfl 1 rfl ?_
      refine j_callVi (pc := 14) C (c_M_look l D y mo ma t1 az t3 z374 0 z375 i7 i8 i42 i49 (nI cd) (nI zn) z376 (nI bs) i61 i64 i66 t67 i76 i78 g0 hz_ he) kw_Model_213 kv_Model_look 0 10 rfl rfl ⟨by decide, by decide⟩ ⟨by decide, by decide⟩ (wr := [(ma 37, .inl (y 3, 3, .inl g37)), (ma 38, .inl (y 3, 5, .inl g38)), (ma 39, .inl (y 3, 5, .inl g39)), (ma 40, .inl (y 3, 3, .inl g40)), (ma 41, .inl (y 3, 3, .inl g41)), (ma 50, .inl (y 0, 3200, .inl g50)), (ma 52, .inl (y 0, 1700, .inl zw))]) [0, 1] [2, 3, 4, 5, 6, 7, 8] rfl rfl (by decide) (by decide) (by decide) (As := []) (rest := []) rfl (nb rfl) rfl d_Model_onePart_14 (fun r780 u781 hr780 => ?_)
      refine j_ws (ws' := [(ma 37, .inl (y 3, 3, .inl g37)), (ma 38, .inl (y 3, 5, .inl g38)), (ma 39, .inl (y 3, 5, .inl g39)), (ma 40, .inl (y 3, 3, .inl g40)), (ma 41, .inl (y 3, 3, .inl g41)), (ma 50, .inl (y 0, 3200, .inl g50)), (ma 52, .inl (y 0, 1700, .inl zw)), MB mo ma (nI t1) (nI u781) (nI t3) z374 0 z375 i7 i8 i42 i49 (nI cd) (nI zn) z376 (nI bs) i61 i64 i66 (nI t67) i76 i78, (ma 0, .inl (y 0, 1600, .inl g0))]) rfl ?_
      obtain ⟨xh782, xh783, xh784⟩ := hr780
      rcases xh784 with rfl | ⟨xh785, e786⟩
      · refine j_istore_n (pc := 17) C (lv' := [(2, .int (-1)), (1, .int (nI mz)), (0, .ref mo)]) d_Model_onePart_17 rfl (by decide) rfl ?_
        refine j_iload_n (pc := 18) C d_Model_onePart_18 rfl 0 rfl ?_
        refine j_bipush (pc := 19) C (v := 40) d_Model_onePart_19 (by decide) ?_
        refine j_icmp_neT (pc := 21) C (tgt := 47) d_Model_onePart_21 (by decide) (by decide) ?_
        refine j_aload_n (pc := 47) C d_Model_onePart_47 rfl 2 rfl ?_
        refine j_aload_n (pc := 48) C d_Model_onePart_48 rfl 2 rfl ?_
        refine j_get (pc := 49) C gf_Model_111 7 rfl rfl d_Model_onePart_49 ?_
        refine j_callVi (pc := 52) C (c_M_isHere_3 l D y mo (ma 40) ma t1 u781 t3 z374 0 z375 i7 i8 i42 i49 (nI cd) (nI zn) z376 (nI bs) i61 i64 i66 t67 i76 i78 g0 g40 xh783 he) kw_Model_224 kv_Model_isHere 0 10 rfl rfl ⟨by decide, by decide⟩ ⟨by decide, by decide⟩ (wr := [(ma 37, .inl (y 3, 3, .inl g37)), (ma 38, .inl (y 3, 5, .inl g38)), (ma 39, .inl (y 3, 5, .inl g39)), (ma 41, .inl (y 3, 3, .inl g41)), (ma 50, .inl (y 0, 3200, .inl g50)), (ma 52, .inl (y 0, 1700, .inl zw))]) [7, 8, 3] [0, 1, 2, 4, 5, 6] rfl rfl (by decide) (by decide) (by decide) (As := [.ref (ma 40)]) (rest := []) rfl (nb rfl) rfl d_Model_onePart_52 (fun r787 u788 hr787 => ?_)
        refine j_ws (ws' := [(ma 37, .inl (y 3, 3, .inl g37)), (ma 38, .inl (y 3, 5, .inl g38)), (ma 39, .inl (y 3, 5, .inl g39)), (ma 41, .inl (y 3, 3, .inl g41)), (ma 50, .inl (y 0, 3200, .inl g50)), (ma 52, .inl (y 0, 1700, .inl zw)), MB mo ma (nI t1) (nI u788) (nI t3) z374 0 z375 i7 i8 i42 i49 (nI cd) (nI zn) z376 (nI bs) i61 i64 i66 (nI t67) i76 i78, (ma 0, .inl (y 0, 1600, .inl g0)), (ma 40, .inl (y 3, 3, .inl g40))]) rfl ?_
        obtain ⟨xh789, xh790, xh791⟩ := hr787
        rcases xh791 with rfl | ⟨rfl, xh792⟩
        · refine j_if_neF (pc := 55) C (tgt := 69) d_Model_onePart_55 (by decide) (by decide) ?_
          refine j_aload_n (pc := 58) C d_Model_onePart_58 rfl 2 rfl ?_
          refine j_aload_n (pc := 59) C d_Model_onePart_59 rfl 2 rfl ?_
          refine j_get (pc := 60) C gf_Model_114 6 rfl rfl d_Model_onePart_60 ?_
          refine j_callVi (pc := 63) C (c_M_isHere_3 l D y mo (ma 41) ma t1 u788 t3 z374 0 z375 i7 i8 i42 i49 (nI cd) (nI zn) z376 (nI bs) i61 i64 i66 t67 i76 i78 g0 g41 xh790 he) kw_Model_224 kv_Model_isHere 0 10 rfl rfl ⟨by decide, by decide⟩ ⟨by decide, by decide⟩ (wr := [(ma 37, .inl (y 3, 3, .inl g37)), (ma 38, .inl (y 3, 5, .inl g38)), (ma 39, .inl (y 3, 5, .inl g39)), (ma 50, .inl (y 0, 3200, .inl g50)), (ma 52, .inl (y 0, 1700, .inl zw)), (ma 40, .inl (y 3, 3, .inl g40))]) [6, 7, 3] [0, 1, 2, 4, 5, 8] rfl rfl (by decide) (by decide) (by decide) (As := [.ref (ma 41)]) (rest := []) rfl (nb rfl) rfl d_Model_onePart_63 (fun r793 u794 hr793 => ?_)
          refine j_ws (ws' := [(ma 37, .inl (y 3, 3, .inl g37)), (ma 38, .inl (y 3, 5, .inl g38)), (ma 39, .inl (y 3, 5, .inl g39)), (ma 50, .inl (y 0, 3200, .inl g50)), (ma 52, .inl (y 0, 1700, .inl zw)), (ma 40, .inl (y 3, 3, .inl g40)), MB mo ma (nI t1) (nI u794) (nI t3) z374 0 z375 i7 i8 i42 i49 (nI cd) (nI zn) z376 (nI bs) i61 i64 i66 (nI t67) i76 i78, (ma 0, .inl (y 0, 1600, .inl g0)), (ma 41, .inl (y 3, 3, .inl g41))]) rfl ?_
          obtain ⟨xh795, xh796, xh797⟩ := hr793
          rcases xh797 with rfl | ⟨rfl, xh798⟩
          · refine j_if_eqT (pc := 66) C (tgt := 141) d_Model_onePart_66 (by decide) (by decide) ?_
            refine j_iconst (pc := 141) C (v := 0) d_Model_onePart_141 (by decide) ?_
            refine j_istore_n (pc := 142) C (lv' := [(1, .int 0), (2, .int (-1)), (0, .ref mo)]) d_Model_onePart_142 rfl (by decide) rfl ?_
            refine j_goto (pc := 143) C (tgt := 2) d_Model_onePart_143 (by decide) ?_
            refine j_sub (ws' := [MB mo ma (nI t1) (nI u794) (nI t3) z374 0 z375 i7 i8 i42 i49 (nI cd) (nI zn) z376 (nI bs) i61 i64 i66 (nI t67) i76 i78, (ma 0, .inl (y 0, 1600, .inl g0)), (ma 37, .inl (y 3, 3, .inl g37)), (ma 38, .inl (y 3, 5, .inl g38)), (ma 39, .inl (y 3, 5, .inl g39)), (ma 40, .inl (y 3, 3, .inl g40)), (ma 41, .inl (y 3, 3, .inl g41)), (ma 50, .inl (y 0, 3200, .inl g50)), (ma 52, .inl (y 0, 1700, .inl zw))]) [6, 7, 0, 1, 2, 5, 8, 3, 4] rfl (by decide) ?_
            refine j_locs (lv' := [(1, .int 0), (0, .ref mo)]) [0, 2] rfl ?_
            have hz1 := bz_e c778
            have hz0 := bz_1
            exact ih751 (0, u794, 0, zw, zn, z374, z375, z376) ⟨xh796, (show t2 ≤ u794 by omega), (show RS s0 f0 xx 0 g50 zw cd zn u794 from (rs_at xh779 (by omega))), hT_, hS_, hb_⟩ (show 2 * (t3 - u794) + bz1 0 + 0 < 2 * (t3 - az) + bz1 bz + mz by omega)
          · refine j_if_eqF (pc := 66) C (tgt := 141) d_Model_onePart_66 (by decide) (by decide) ?_
            refine j_aload_n (pc := 69) C d_Model_onePart_69 rfl 2 rfl ?_
            refine j_aload_n (pc := 70) C d_Model_onePart_70 rfl 2 rfl ?_
            refine j_get (pc := 71) C gf_Model_111 6 rfl rfl d_Model_onePart_71 ?_
            refine j_callVi (pc := 74) C (c_M_takes_3 l D y mo (ma 40) ma t1 u794 t3 z374 0 z375 i7 i8 i42 i49 (nI cd) (nI zn) z376 (nI bs) i61 i64 i66 t67 i76 i78 g0 g40 xh796 he) kw_Model_228 kv_Model_takes 0 10 rfl rfl ⟨by decide, by decide⟩ ⟨by decide, by decide⟩ (wr := [(ma 37, .inl (y 3, 3, .inl g37)), (ma 38, .inl (y 3, 5, .inl g38)), (ma 39, .inl (y 3, 5, .inl g39)), (ma 50, .inl (y 0, 3200, .inl g50)), (ma 52, .inl (y 0, 1700, .inl zw)), (ma 41, .inl (y 3, 3, .inl g41))]) [6, 7, 5] [0, 1, 2, 3, 4, 8] rfl rfl (by decide) (by decide) (by decide) (As := [.ref (ma 40)]) (rest := []) rfl (nb rfl) rfl d_Model_onePart_74 (fun r799 u800 hr799 => ?_)
            refine j_ws (ws' := [(ma 37, .inl (y 3, 3, .inl g37)), (ma 38, .inl (y 3, 5, .inl g38)), (ma 39, .inl (y 3, 5, .inl g39)), (ma 50, .inl (y 0, 3200, .inl g50)), (ma 52, .inl (y 0, 1700, .inl zw)), (ma 41, .inl (y 3, 3, .inl g41)), MB mo ma (nI t1) (nI u800.1) (nI t3) u800.2 0 z375 i7 i8 i42 i49 (nI cd) (nI zn) z376 (nI bs) i61 i64 i66 (nI t67) i76 i78, (ma 0, .inl (y 0, 1600, .inl g0)), (ma 40, .inl (y 3, 3, .inl g40))]) rfl ?_
            obtain ⟨xh801, xh802, xh803⟩ := hr799
            rcases xh803 with rfl | ⟨rfl, xh804⟩
            · refine j_istore_n (pc := 77) C (lv' := [(3, .int 0), (2, .int (-1)), (1, .int (nI mz)), (0, .ref mo)]) d_Model_onePart_77 rfl (by decide) rfl ?_
              refine j_iload_n (pc := 78) C d_Model_onePart_78 rfl 0 rfl ?_
              refine j_if_neF (pc := 79) C (tgt := 90) d_Model_onePart_79 (by decide) (by decide) ?_
              refine j_aload_n (pc := 82) C d_Model_onePart_82 rfl 3 rfl ?_
              refine j_aload_n (pc := 83) C d_Model_onePart_83 rfl 3 rfl ?_
              refine j_get (pc := 84) C gf_Model_114 6 rfl rfl d_Model_onePart_84 ?_
              refine j_callVv (pc := 87) C (c_M_asks_3 l D y mo (ma 41) ma t1 u800.1 t3 u800.2 0 z375 i7 i8 i42 i49 (nI cd) (nI zn) z376 (nI bs) i61 i64 i66 t67 i76 i78 g0 g41 xh802 he) kw_Model_263 kv_Model_asks 0 10 rfl rfl ⟨by decide, by decide⟩ ⟨by decide, by decide⟩ (wr := [(ma 37, .inl (y 3, 3, .inl g37)), (ma 38, .inl (y 3, 5, .inl g38)), (ma 39, .inl (y 3, 5, .inl g39)), (ma 50, .inl (y 0, 3200, .inl g50)), (ma 52, .inl (y 0, 1700, .inl zw)), (ma 40, .inl (y 3, 3, .inl g40))]) [6, 7, 5] [0, 1, 2, 3, 4, 8] rfl rfl (by decide) (by decide) (by decide) (As := [.ref (ma 41)]) (rest := []) rfl (nb rfl) rfl d_Model_onePart_87 (fun u805 hu806 => ?_)
              obtain ⟨xh807, xh808, xh809⟩ := hu806
              refine j_ws (ws' := [(ma 37, .inl (y 3, 3, .inl g37)), (ma 38, .inl (y 3, 5, .inl g38)), (ma 39, .inl (y 3, 5, .inl g39)), (ma 50, .inl (y 0, 3200, .inl g50)), (ma 52, .inl (y 0, 1700, .inl zw)), (ma 40, .inl (y 3, 3, .inl g40)), MB mo ma (nI t1) (nI u805.1) (nI t3) u805.2.1 u805.2.2.1 u805.2.2.2 i7 i8 i42 i49 (nI cd) (nI zn) z376 (nI bs) i61 i64 i66 (nI t67) i76 i78, (ma 0, .inl (y 0, 1600, .inl g0)), (ma 41, .inl (y 3, 3, .inl g41))]) rfl ?_
              refine j_aload_n (pc := 90) C d_Model_onePart_90 rfl 3 rfl ?_
              refine j_callVi (pc := 91) C (c_M_look l D y mo ma t1 u805.1 t3 u805.2.1 u805.2.2.1 u805.2.2.2 i7 i8 i42 i49 (nI cd) (nI zn) z376 (nI bs) i61 i64 i66 t67 i76 i78 g0 xh808 he) kw_Model_213 kv_Model_look 0 10 rfl rfl ⟨by decide, by decide⟩ ⟨by decide, by decide⟩ (wr := [(ma 37, .inl (y 3, 3, .inl g37)), (ma 38, .inl (y 3, 5, .inl g38)), (ma 39, .inl (y 3, 5, .inl g39)), (ma 50, .inl (y 0, 3200, .inl g50)), (ma 52, .inl (y 0, 1700, .inl zw)), (ma 40, .inl (y 3, 3, .inl g40)), (ma 41, .inl (y 3, 3, .inl g41))]) [6, 7] [0, 1, 2, 3, 4, 5, 8] rfl rfl (by decide) (by decide) (by decide) (As := []) (rest := []) rfl (nb rfl) rfl d_Model_onePart_91 (fun r810 u811 hr810 => ?_)
              refine j_ws (ws' := [(ma 37, .inl (y 3, 3, .inl g37)), (ma 38, .inl (y 3, 5, .inl g38)), (ma 39, .inl (y 3, 5, .inl g39)), (ma 50, .inl (y 0, 3200, .inl g50)), (ma 52, .inl (y 0, 1700, .inl zw)), (ma 40, .inl (y 3, 3, .inl g40)), (ma 41, .inl (y 3, 3, .inl g41)), MB mo ma (nI t1) (nI u811) (nI t3) u805.2.1 u805.2.2.1 u805.2.2.2 i7 i8 i42 i49 (nI cd) (nI zn) z376 (nI bs) i61 i64 i66 (nI t67) i76 i78, (ma 0, .inl (y 0, 1600, .inl g0))]) rfl ?_
              obtain ⟨xh812, xh813, xh814⟩ := hr810
              rcases xh814 with rfl | ⟨xh815, e816⟩
              · refine j_bipush (pc := 94) C (v := 40) d_Model_onePart_94 (by decide) ?_
                refine j_icmp_neT (pc := 96) C (tgt := 106) d_Model_onePart_96 (by decide) (by decide) ?_
                refine j_iconst (pc := 106) C (v := (-1)) d_Model_onePart_106 (by decide) ?_
                refine j_istore (pc := 107) C (lv' := [(4, .int (-1)), (3, .int 0), (2, .int (-1)), (1, .int (nI mz)), (0, .ref mo)]) d_Model_onePart_107 (by decide) rfl ?_
                refine j_iload (pc := 109) C d_Model_onePart_109 0 rfl ?_
                refine j_iconst (pc := 111) C (v := (-1)) d_Model_onePart_111 (by decide) ?_
                refine j_icmp_eqT (pc := 112) C (tgt := 132) d_Model_onePart_112 (by decide) (by decide) ?_
                refine j_aload_n (pc := 132) C d_Model_onePart_132 rfl 4 rfl ?_
                refine j_bipush (pc := 133) C (v := 40) d_Model_onePart_133 (by decide) ?_
                refine j_callVv (pc := 135) C (c_M_asksSign l D y mo ma t1 u811 t3 u805.2.1 u805.2.2.1 u805.2.2.2 i7 i8 i42 i49 (nI cd) (nI zn) z376 (nI bs) i61 i64 i66 t67 i76 i78 g0 40 xh813 he (by decide)) kw_Model_271 kv_Model_asksSign 0 10 rfl rfl ⟨by decide, by decide⟩ ⟨by decide, by decide⟩ (wr := [(ma 37, .inl (y 3, 3, .inl g37)), (ma 38, .inl (y 3, 5, .inl g38)), (ma 39, .inl (y 3, 5, .inl g39)), (ma 50, .inl (y 0, 3200, .inl g50)), (ma 52, .inl (y 0, 1700, .inl zw)), (ma 40, .inl (y 3, 3, .inl g40)), (ma 41, .inl (y 3, 3, .inl g41))]) [7, 8] [0, 1, 2, 3, 4, 5, 6] rfl rfl (by decide) (by decide) (by decide) (As := [.int 40]) (rest := []) rfl (nb rfl) rfl d_Model_onePart_135 (fun u817 hu818 => ?_)
                obtain ⟨xh819, xh820, xh821⟩ := hu818
                refine j_ws (ws' := [(ma 37, .inl (y 3, 3, .inl g37)), (ma 38, .inl (y 3, 5, .inl g38)), (ma 39, .inl (y 3, 5, .inl g39)), (ma 50, .inl (y 0, 3200, .inl g50)), (ma 52, .inl (y 0, 1700, .inl zw)), (ma 40, .inl (y 3, 3, .inl g40)), (ma 41, .inl (y 3, 3, .inl g41)), MB mo ma (nI t1) (nI u817.1) (nI t3) u805.2.1 u817.2.1 u817.2.2 i7 i8 i42 i49 (nI cd) (nI zn) z376 (nI bs) i61 i64 i66 (nI t67) i76 i78, (ma 0, .inl (y 0, 1600, .inl g0))]) rfl ?_
                refine j_goto (pc := 138) C (tgt := 143) d_Model_onePart_138 (by decide) ?_
                refine j_goto (pc := 143) C (tgt := 2) d_Model_onePart_143 (by decide) ?_
                refine j_sub (ws' := [MB mo ma (nI t1) (nI u817.1) (nI t3) u805.2.1 u817.2.1 u817.2.2 i7 i8 i42 i49 (nI cd) (nI zn) z376 (nI bs) i61 i64 i66 (nI t67) i76 i78, (ma 0, .inl (y 0, 1600, .inl g0)), (ma 37, .inl (y 3, 3, .inl g37)), (ma 38, .inl (y 3, 5, .inl g38)), (ma 39, .inl (y 3, 5, .inl g39)), (ma 40, .inl (y 3, 3, .inl g40)), (ma 41, .inl (y 3, 3, .inl g41)), (ma 50, .inl (y 0, 3200, .inl g50)), (ma 52, .inl (y 0, 1700, .inl zw))]) [7, 8, 0, 1, 2, 5, 6, 3, 4] rfl (by decide) ?_
                refine j_locs (lv' := [(1, .int (nI mz)), (0, .ref mo)]) [3, 4] rfl ?_
                have hz1 := bz_e c778
                have hz0 := bz_le u817.2.1
                have hz2 : bz1 u817.2.1 = 0 ∨ az + 1 ≤ u817.1 := by
                  by_cases e : u817.2.1 = 0
                  · right; have f0 := xh821 e; have g0 := f0.2; have f1 := xh809 f0.1; have g1 := f1.2; omega
                  · exact Or.inl (bz_0 e)
                have xh822 : RS s0 f0 xx u817.2.1 g50 zw cd zn az := rs_mono xh779 (fun _ => rfl)
                exact ih751 (mz, u817.1, u817.2.1, zw, zn, u805.2.1, u817.2.2, z376) ⟨xh820, (show t2 ≤ u817.1 by omega), (show RS s0 f0 xx u817.2.1 g50 zw cd zn u817.1 from (rs_at xh822 (by omega))), hT_, hS_, hb_⟩ (show 2 * (t3 - u817.1) + bz1 u817.2.1 + mz < 2 * (t3 - az) + bz1 bz + mz by omega)
              · refine j_bipush (pc := 94) C (v := 40) d_Model_onePart_94 (by decide) ?_
                refine j_icmp_ne (pc := 96) C (tgt := 106) d_Model_onePart_96 (by decide) (fun c823 => ?_) (fun c823 => ?_)
                · refine j_iconst (pc := 106) C (v := (-1)) d_Model_onePart_106 (by decide) ?_
                  refine j_istore (pc := 107) C (lv' := [(4, .int (-1)), (3, .int 0), (2, .int (-1)), (1, .int (nI mz)), (0, .ref mo)]) d_Model_onePart_107 (by decide) rfl ?_
                  refine j_iload (pc := 109) C d_Model_onePart_109 0 rfl ?_
                  refine j_iconst (pc := 111) C (v := (-1)) d_Model_onePart_111 (by decide) ?_
                  refine j_icmp_eqT (pc := 112) C (tgt := 132) d_Model_onePart_112 (by decide) (by decide) ?_
                  refine j_aload_n (pc := 132) C d_Model_onePart_132 rfl 4 rfl ?_
                  refine j_bipush (pc := 133) C (v := 40) d_Model_onePart_133 (by decide) ?_
                  refine j_callVv (pc := 135) C (c_M_asksSign l D y mo ma t1 u811 t3 u805.2.1 u805.2.2.1 u805.2.2.2 i7 i8 i42 i49 (nI cd) (nI zn) z376 (nI bs) i61 i64 i66 t67 i76 i78 g0 40 xh813 he (by decide)) kw_Model_271 kv_Model_asksSign 0 10 rfl rfl ⟨by decide, by decide⟩ ⟨by decide, by decide⟩ (wr := [(ma 37, .inl (y 3, 3, .inl g37)), (ma 38, .inl (y 3, 5, .inl g38)), (ma 39, .inl (y 3, 5, .inl g39)), (ma 50, .inl (y 0, 3200, .inl g50)), (ma 52, .inl (y 0, 1700, .inl zw)), (ma 40, .inl (y 3, 3, .inl g40)), (ma 41, .inl (y 3, 3, .inl g41))]) [7, 8] [0, 1, 2, 3, 4, 5, 6] rfl rfl (by decide) (by decide) (by decide) (As := [.int 40]) (rest := []) rfl (nb rfl) rfl d_Model_onePart_135 (fun u824 hu825 => ?_)
                  obtain ⟨xh826, xh827, xh828⟩ := hu825
                  refine j_ws (ws' := [(ma 37, .inl (y 3, 3, .inl g37)), (ma 38, .inl (y 3, 5, .inl g38)), (ma 39, .inl (y 3, 5, .inl g39)), (ma 50, .inl (y 0, 3200, .inl g50)), (ma 52, .inl (y 0, 1700, .inl zw)), (ma 40, .inl (y 3, 3, .inl g40)), (ma 41, .inl (y 3, 3, .inl g41)), MB mo ma (nI t1) (nI u824.1) (nI t3) u805.2.1 u824.2.1 u824.2.2 i7 i8 i42 i49 (nI cd) (nI zn) z376 (nI bs) i61 i64 i66 (nI t67) i76 i78, (ma 0, .inl (y 0, 1600, .inl g0))]) rfl ?_
                  refine j_goto (pc := 138) C (tgt := 143) d_Model_onePart_138 (by decide) ?_
                  refine j_goto (pc := 143) C (tgt := 2) d_Model_onePart_143 (by decide) ?_
                  refine j_sub (ws' := [MB mo ma (nI t1) (nI u824.1) (nI t3) u805.2.1 u824.2.1 u824.2.2 i7 i8 i42 i49 (nI cd) (nI zn) z376 (nI bs) i61 i64 i66 (nI t67) i76 i78, (ma 0, .inl (y 0, 1600, .inl g0)), (ma 37, .inl (y 3, 3, .inl g37)), (ma 38, .inl (y 3, 5, .inl g38)), (ma 39, .inl (y 3, 5, .inl g39)), (ma 40, .inl (y 3, 3, .inl g40)), (ma 41, .inl (y 3, 3, .inl g41)), (ma 50, .inl (y 0, 3200, .inl g50)), (ma 52, .inl (y 0, 1700, .inl zw))]) [7, 8, 0, 1, 2, 5, 6, 3, 4] rfl (by decide) ?_
                  refine j_locs (lv' := [(1, .int (nI mz)), (0, .ref mo)]) [3, 4] rfl ?_
                  have hz1 := bz_e c778
                  have hz0 := bz_le u824.2.1
                  have hz2 : bz1 u824.2.1 = 0 ∨ az + 1 ≤ u824.1 := by
                    by_cases e : u824.2.1 = 0
                    · right; have f0 := xh828 e; have g0 := f0.2; have f1 := xh809 f0.1; have g1 := f1.2; omega
                    · exact Or.inl (bz_0 e)
                  have xh829 : RS s0 f0 xx u824.2.1 g50 zw cd zn az := rs_mono xh779 (fun _ => rfl)
                  exact ih751 (mz, u824.1, u824.2.1, zw, zn, u805.2.1, u824.2.2, z376) ⟨xh827, (show t2 ≤ u824.1 by omega), (show RS s0 f0 xx u824.2.1 g50 zw cd zn u824.1 from (rs_at xh829 (by omega))), hT_, hS_, hb_⟩ (show 2 * (t3 - u824.1) + bz1 u824.2.1 + mz < 2 * (t3 - az) + bz1 bz + mz by omega)
                · refine j_aload_n (pc := 99) C d_Model_onePart_99 rfl 3 rfl ?_
                  refine j_get (pc := 100) C gf_Model_207 7 rfl rfl d_Model_onePart_100 ?_
                  refine j_goto (pc := 103) C (tgt := 107) d_Model_onePart_103 (by decide) ?_
                  refine j_istore (pc := 107) C (lv' := [(4, .int (nI u811)), (3, .int 0), (2, .int (-1)), (1, .int (nI mz)), (0, .ref mo)]) d_Model_onePart_107 (by decide) rfl ?_
                  refine j_iload (pc := 109) C d_Model_onePart_109 0 rfl ?_
                  refine j_iconst (pc := 111) C (v := (-1)) d_Model_onePart_111 (by decide) ?_
                  refine j_icmp_eqF (pc := 112) C (tgt := 132) d_Model_onePart_112 (by decide) (nI_nm1 (by omega)) ?_
                  refine j_aload_n (pc := 115) C d_Model_onePart_115 rfl 4 rfl ?_
                  refine j_iload_n (pc := 116) C d_Model_onePart_116 rfl 1 rfl ?_
                  refine j_if_eqT (pc := 117) C (tgt := 125) d_Model_onePart_117 (by decide) (by decide) ?_
                  refine j_bipush (pc := 125) C (v := 22) d_Model_onePart_125 (by decide) ?_
                  refine j_iload (pc := 127) C d_Model_onePart_127 0 rfl ?_
                  have xh830 : RS s0 f0 xx u805.2.2.1 g50 zw cd zn az := rs_mono xh779 (fun _ => rfl)
                  refine j_callVv (pc := 129) C (c_M_opens l D y mo ma t1 u811 t3 u805.2.1 u805.2.2.1 u805.2.2.2 i7 i8 i42 i49 cd zn z376 bs i61 i64 i66 t67 i76 i78 zw 22 (nI u811) s0 xx f0 az g50 (by decide) (by omega) xh830 (by decide) hT_ hS_ hb_) kw_Model_353 kv_Model_opens 0 10 rfl rfl ⟨by decide, by decide⟩ ⟨by decide, by decide⟩ (wr := [(ma 37, .inl (y 3, 3, .inl g37)), (ma 38, .inl (y 3, 5, .inl g38)), (ma 39, .inl (y 3, 5, .inl g39)), (ma 50, .inl (y 0, 3200, .inl g50)), (ma 40, .inl (y 3, 3, .inl g40)), (ma 41, .inl (y 3, 3, .inl g41)), (ma 0, .inl (y 0, 1600, .inl g0))]) [7, 4] [0, 1, 2, 3, 5, 6, 8] rfl rfl (by decide) (by decide) (by decide) (As := [.int 22, .int (nI u811)]) (rest := []) rfl (nb rfl) rfl d_Model_onePart_129 (fun u831 hu832 => ?_)
                  obtain ⟨xh833, xh834, xh835, xh836, xh837, xh838, xh839⟩ := hu832
                  refine j_ws (ws' := [(ma 37, .inl (y 3, 3, .inl g37)), (ma 38, .inl (y 3, 5, .inl g38)), (ma 39, .inl (y 3, 5, .inl g39)), (ma 50, .inl (y 0, 3200, .inl g50)), (ma 40, .inl (y 3, 3, .inl g40)), (ma 41, .inl (y 3, 3, .inl g41)), (ma 0, .inl (y 0, 1600, .inl g0)), MB mo ma (nI t1) (nI u811) (nI t3) u805.2.1 u831.1 u831.2.1 i7 i8 i42 i49 (nI cd) (nI u831.2.2.1) u831.2.2.2.1 (nI bs) i61 i64 i66 (nI t67) i76 i78, (ma 52, .inl (y 0, 1700, .inl u831.2.2.2.2))]) rfl ?_
                  refine j_aload_n (pc := 132) C d_Model_onePart_132 rfl 4 rfl ?_
                  refine j_bipush (pc := 133) C (v := 40) d_Model_onePart_133 (by decide) ?_
                  refine j_callVv (pc := 135) C (c_M_asksSign l D y mo ma t1 u811 t3 u805.2.1 u831.1 u831.2.1 i7 i8 i42 i49 (nI cd) (nI u831.2.2.1) u831.2.2.2.1 (nI bs) i61 i64 i66 t67 i76 i78 g0 40 xh813 he (by decide)) kw_Model_271 kv_Model_asksSign 0 10 rfl rfl ⟨by decide, by decide⟩ ⟨by decide, by decide⟩ (wr := [(ma 37, .inl (y 3, 3, .inl g37)), (ma 38, .inl (y 3, 5, .inl g38)), (ma 39, .inl (y 3, 5, .inl g39)), (ma 50, .inl (y 0, 3200, .inl g50)), (ma 40, .inl (y 3, 3, .inl g40)), (ma 41, .inl (y 3, 3, .inl g41)), (ma 52, .inl (y 0, 1700, .inl u831.2.2.2.2))]) [7, 6] [0, 1, 2, 3, 4, 5, 8] rfl rfl (by decide) (by decide) (by decide) (As := [.int 40]) (rest := []) rfl (nb rfl) rfl d_Model_onePart_135 (fun u840 hu841 => ?_)
                  obtain ⟨xh842, xh843, xh844⟩ := hu841
                  refine j_ws (ws' := [(ma 37, .inl (y 3, 3, .inl g37)), (ma 38, .inl (y 3, 5, .inl g38)), (ma 39, .inl (y 3, 5, .inl g39)), (ma 50, .inl (y 0, 3200, .inl g50)), (ma 40, .inl (y 3, 3, .inl g40)), (ma 41, .inl (y 3, 3, .inl g41)), (ma 52, .inl (y 0, 1700, .inl u831.2.2.2.2)), MB mo ma (nI t1) (nI u840.1) (nI t3) u805.2.1 u840.2.1 u840.2.2 i7 i8 i42 i49 (nI cd) (nI u831.2.2.1) u831.2.2.2.1 (nI bs) i61 i64 i66 (nI t67) i76 i78, (ma 0, .inl (y 0, 1600, .inl g0))]) rfl ?_
                  refine j_goto (pc := 138) C (tgt := 143) d_Model_onePart_138 (by decide) ?_
                  refine j_goto (pc := 143) C (tgt := 2) d_Model_onePart_143 (by decide) ?_
                  refine j_sub (ws' := [MB mo ma (nI t1) (nI u840.1) (nI t3) u805.2.1 u840.2.1 u840.2.2 i7 i8 i42 i49 (nI cd) (nI u831.2.2.1) u831.2.2.2.1 (nI bs) i61 i64 i66 (nI t67) i76 i78, (ma 0, .inl (y 0, 1600, .inl g0)), (ma 37, .inl (y 3, 3, .inl g37)), (ma 38, .inl (y 3, 5, .inl g38)), (ma 39, .inl (y 3, 5, .inl g39)), (ma 40, .inl (y 3, 3, .inl g40)), (ma 41, .inl (y 3, 3, .inl g41)), (ma 50, .inl (y 0, 3200, .inl g50)), (ma 52, .inl (y 0, 1700, .inl u831.2.2.2.2))]) [7, 8, 0, 1, 2, 4, 5, 3, 6] rfl (by decide) ?_
                  refine j_locs (lv' := [(1, .int (nI mz)), (0, .ref mo)]) [3, 4] rfl ?_
                  have hz1 := bz_e c778
                  have hz0 := bz_le u840.2.1
                  have hz2 : bz1 u840.2.1 = 0 ∨ az + 1 ≤ u840.1 := by
                    by_cases e : u840.2.1 = 0
                    · right; have f0 := xh844 e; have g0 := f0.2; have f1 := xh835 f0.1; have f2 := xh809 f1; have g2 := f2.2; omega
                    · exact Or.inl (bz_0 e)
                  have xh845 : RS s0 f0 xx u840.2.1 g50 u831.2.2.2.2 cd u831.2.2.1 (az + 1) := rs_mono xh836 (fun e => by have e0 := (xh844 e).1; exact e0)
                  exact ih751 (mz, u840.1, u840.2.1, u831.2.2.2.2, u831.2.2.1, u805.2.1, u840.2.2, u831.2.2.2.1) ⟨xh843, (show t2 ≤ u840.1 by omega), (show RS s0 f0 xx u840.2.1 g50 u831.2.2.2.2 cd u831.2.2.1 u840.1 from (rs_at xh845 (by omega))), xh838, xh839, (show bs ≤ u831.2.2.1 by omega)⟩ (show 2 * (t3 - u840.1) + bz1 u840.2.1 + mz < 2 * (t3 - az) + bz1 bz + mz by omega)
            · refine j_istore_n (pc := 77) C (lv' := [(3, .int 1), (2, .int (-1)), (1, .int (nI mz)), (0, .ref mo)]) d_Model_onePart_77 rfl (by decide) rfl ?_
              refine j_iload_n (pc := 78) C d_Model_onePart_78 rfl 0 rfl ?_
              refine j_if_neT (pc := 79) C (tgt := 90) d_Model_onePart_79 (by decide) (by decide) ?_
              refine j_aload_n (pc := 90) C d_Model_onePart_90 rfl 3 rfl ?_
              refine j_callVi (pc := 91) C (c_M_look l D y mo ma t1 u800.1 t3 u800.2 0 z375 i7 i8 i42 i49 (nI cd) (nI zn) z376 (nI bs) i61 i64 i66 t67 i76 i78 g0 xh802 he) kw_Model_213 kv_Model_look 0 10 rfl rfl ⟨by decide, by decide⟩ ⟨by decide, by decide⟩ (wr := [(ma 37, .inl (y 3, 3, .inl g37)), (ma 38, .inl (y 3, 5, .inl g38)), (ma 39, .inl (y 3, 5, .inl g39)), (ma 50, .inl (y 0, 3200, .inl g50)), (ma 52, .inl (y 0, 1700, .inl zw)), (ma 41, .inl (y 3, 3, .inl g41)), (ma 40, .inl (y 3, 3, .inl g40))]) [6, 7] [0, 1, 2, 3, 4, 5, 8] rfl rfl (by decide) (by decide) (by decide) (As := []) (rest := []) rfl (nb rfl) rfl d_Model_onePart_91 (fun r846 u847 hr846 => ?_)
              refine j_ws (ws' := [(ma 37, .inl (y 3, 3, .inl g37)), (ma 38, .inl (y 3, 5, .inl g38)), (ma 39, .inl (y 3, 5, .inl g39)), (ma 50, .inl (y 0, 3200, .inl g50)), (ma 52, .inl (y 0, 1700, .inl zw)), (ma 41, .inl (y 3, 3, .inl g41)), (ma 40, .inl (y 3, 3, .inl g40)), MB mo ma (nI t1) (nI u847) (nI t3) u800.2 0 z375 i7 i8 i42 i49 (nI cd) (nI zn) z376 (nI bs) i61 i64 i66 (nI t67) i76 i78, (ma 0, .inl (y 0, 1600, .inl g0))]) rfl ?_
              obtain ⟨xh848, xh849, xh850⟩ := hr846
              rcases xh850 with rfl | ⟨xh851, e852⟩
              · refine j_bipush (pc := 94) C (v := 40) d_Model_onePart_94 (by decide) ?_
                refine j_icmp_neT (pc := 96) C (tgt := 106) d_Model_onePart_96 (by decide) (by decide) ?_
                refine j_iconst (pc := 106) C (v := (-1)) d_Model_onePart_106 (by decide) ?_
                refine j_istore (pc := 107) C (lv' := [(4, .int (-1)), (3, .int 1), (2, .int (-1)), (1, .int (nI mz)), (0, .ref mo)]) d_Model_onePart_107 (by decide) rfl ?_
                refine j_iload (pc := 109) C d_Model_onePart_109 0 rfl ?_
                refine j_iconst (pc := 111) C (v := (-1)) d_Model_onePart_111 (by decide) ?_
                refine j_icmp_eqT (pc := 112) C (tgt := 132) d_Model_onePart_112 (by decide) (by decide) ?_
                refine j_aload_n (pc := 132) C d_Model_onePart_132 rfl 4 rfl ?_
                refine j_bipush (pc := 133) C (v := 40) d_Model_onePart_133 (by decide) ?_
                refine j_callVv (pc := 135) C (c_M_asksSign l D y mo ma t1 u847 t3 u800.2 0 z375 i7 i8 i42 i49 (nI cd) (nI zn) z376 (nI bs) i61 i64 i66 t67 i76 i78 g0 40 xh849 he (by decide)) kw_Model_271 kv_Model_asksSign 0 10 rfl rfl ⟨by decide, by decide⟩ ⟨by decide, by decide⟩ (wr := [(ma 37, .inl (y 3, 3, .inl g37)), (ma 38, .inl (y 3, 5, .inl g38)), (ma 39, .inl (y 3, 5, .inl g39)), (ma 50, .inl (y 0, 3200, .inl g50)), (ma 52, .inl (y 0, 1700, .inl zw)), (ma 41, .inl (y 3, 3, .inl g41)), (ma 40, .inl (y 3, 3, .inl g40))]) [7, 8] [0, 1, 2, 3, 4, 5, 6] rfl rfl (by decide) (by decide) (by decide) (As := [.int 40]) (rest := []) rfl (nb rfl) rfl d_Model_onePart_135 (fun u853 hu854 => ?_)
                obtain ⟨xh855, xh856, xh857⟩ := hu854
                refine j_ws (ws' := [(ma 37, .inl (y 3, 3, .inl g37)), (ma 38, .inl (y 3, 5, .inl g38)), (ma 39, .inl (y 3, 5, .inl g39)), (ma 50, .inl (y 0, 3200, .inl g50)), (ma 52, .inl (y 0, 1700, .inl zw)), (ma 41, .inl (y 3, 3, .inl g41)), (ma 40, .inl (y 3, 3, .inl g40)), MB mo ma (nI t1) (nI u853.1) (nI t3) u800.2 u853.2.1 u853.2.2 i7 i8 i42 i49 (nI cd) (nI zn) z376 (nI bs) i61 i64 i66 (nI t67) i76 i78, (ma 0, .inl (y 0, 1600, .inl g0))]) rfl ?_
                refine j_goto (pc := 138) C (tgt := 143) d_Model_onePart_138 (by decide) ?_
                refine j_goto (pc := 143) C (tgt := 2) d_Model_onePart_143 (by decide) ?_
                refine j_sub (ws' := [MB mo ma (nI t1) (nI u853.1) (nI t3) u800.2 u853.2.1 u853.2.2 i7 i8 i42 i49 (nI cd) (nI zn) z376 (nI bs) i61 i64 i66 (nI t67) i76 i78, (ma 0, .inl (y 0, 1600, .inl g0)), (ma 37, .inl (y 3, 3, .inl g37)), (ma 38, .inl (y 3, 5, .inl g38)), (ma 39, .inl (y 3, 5, .inl g39)), (ma 40, .inl (y 3, 3, .inl g40)), (ma 41, .inl (y 3, 3, .inl g41)), (ma 50, .inl (y 0, 3200, .inl g50)), (ma 52, .inl (y 0, 1700, .inl zw))]) [7, 8, 0, 1, 2, 6, 5, 3, 4] rfl (by decide) ?_
                refine j_locs (lv' := [(1, .int (nI mz)), (0, .ref mo)]) [3, 4] rfl ?_
                have hz1 := bz_e c778
                have hz0 := bz_le u853.2.1
                have hz2 : bz1 u853.2.1 = 0 ∨ az + 1 ≤ u853.1 := by
                  by_cases e : u853.2.1 = 0
                  · right; have f0 := xh857 e; have g0 := f0.2; omega
                  · exact Or.inl (bz_0 e)
                have xh858 : RS s0 f0 xx u853.2.1 g50 zw cd zn az := rs_mono xh779 (fun _ => rfl)
                exact ih751 (mz, u853.1, u853.2.1, zw, zn, u800.2, u853.2.2, z376) ⟨xh856, (show t2 ≤ u853.1 by omega), (show RS s0 f0 xx u853.2.1 g50 zw cd zn u853.1 from (rs_at xh858 (by omega))), hT_, hS_, hb_⟩ (show 2 * (t3 - u853.1) + bz1 u853.2.1 + mz < 2 * (t3 - az) + bz1 bz + mz by omega)
              · refine j_bipush (pc := 94) C (v := 40) d_Model_onePart_94 (by decide) ?_
                refine j_icmp_ne (pc := 96) C (tgt := 106) d_Model_onePart_96 (by decide) (fun c859 => ?_) (fun c859 => ?_)
                · refine j_iconst (pc := 106) C (v := (-1)) d_Model_onePart_106 (by decide) ?_
                  refine j_istore (pc := 107) C (lv' := [(4, .int (-1)), (3, .int 1), (2, .int (-1)), (1, .int (nI mz)), (0, .ref mo)]) d_Model_onePart_107 (by decide) rfl ?_
                  refine j_iload (pc := 109) C d_Model_onePart_109 0 rfl ?_
                  refine j_iconst (pc := 111) C (v := (-1)) d_Model_onePart_111 (by decide) ?_
                  refine j_icmp_eqT (pc := 112) C (tgt := 132) d_Model_onePart_112 (by decide) (by decide) ?_
                  refine j_aload_n (pc := 132) C d_Model_onePart_132 rfl 4 rfl ?_
                  refine j_bipush (pc := 133) C (v := 40) d_Model_onePart_133 (by decide) ?_
                  refine j_callVv (pc := 135) C (c_M_asksSign l D y mo ma t1 u847 t3 u800.2 0 z375 i7 i8 i42 i49 (nI cd) (nI zn) z376 (nI bs) i61 i64 i66 t67 i76 i78 g0 40 xh849 he (by decide)) kw_Model_271 kv_Model_asksSign 0 10 rfl rfl ⟨by decide, by decide⟩ ⟨by decide, by decide⟩ (wr := [(ma 37, .inl (y 3, 3, .inl g37)), (ma 38, .inl (y 3, 5, .inl g38)), (ma 39, .inl (y 3, 5, .inl g39)), (ma 50, .inl (y 0, 3200, .inl g50)), (ma 52, .inl (y 0, 1700, .inl zw)), (ma 41, .inl (y 3, 3, .inl g41)), (ma 40, .inl (y 3, 3, .inl g40))]) [7, 8] [0, 1, 2, 3, 4, 5, 6] rfl rfl (by decide) (by decide) (by decide) (As := [.int 40]) (rest := []) rfl (nb rfl) rfl d_Model_onePart_135 (fun u860 hu861 => ?_)
                  obtain ⟨xh862, xh863, xh864⟩ := hu861
                  refine j_ws (ws' := [(ma 37, .inl (y 3, 3, .inl g37)), (ma 38, .inl (y 3, 5, .inl g38)), (ma 39, .inl (y 3, 5, .inl g39)), (ma 50, .inl (y 0, 3200, .inl g50)), (ma 52, .inl (y 0, 1700, .inl zw)), (ma 41, .inl (y 3, 3, .inl g41)), (ma 40, .inl (y 3, 3, .inl g40)), MB mo ma (nI t1) (nI u860.1) (nI t3) u800.2 u860.2.1 u860.2.2 i7 i8 i42 i49 (nI cd) (nI zn) z376 (nI bs) i61 i64 i66 (nI t67) i76 i78, (ma 0, .inl (y 0, 1600, .inl g0))]) rfl ?_
                  refine j_goto (pc := 138) C (tgt := 143) d_Model_onePart_138 (by decide) ?_
                  refine j_goto (pc := 143) C (tgt := 2) d_Model_onePart_143 (by decide) ?_
                  refine j_sub (ws' := [MB mo ma (nI t1) (nI u860.1) (nI t3) u800.2 u860.2.1 u860.2.2 i7 i8 i42 i49 (nI cd) (nI zn) z376 (nI bs) i61 i64 i66 (nI t67) i76 i78, (ma 0, .inl (y 0, 1600, .inl g0)), (ma 37, .inl (y 3, 3, .inl g37)), (ma 38, .inl (y 3, 5, .inl g38)), (ma 39, .inl (y 3, 5, .inl g39)), (ma 40, .inl (y 3, 3, .inl g40)), (ma 41, .inl (y 3, 3, .inl g41)), (ma 50, .inl (y 0, 3200, .inl g50)), (ma 52, .inl (y 0, 1700, .inl zw))]) [7, 8, 0, 1, 2, 6, 5, 3, 4] rfl (by decide) ?_
                  refine j_locs (lv' := [(1, .int (nI mz)), (0, .ref mo)]) [3, 4] rfl ?_
                  have hz1 := bz_e c778
                  have hz0 := bz_le u860.2.1
                  have hz2 : bz1 u860.2.1 = 0 ∨ az + 1 ≤ u860.1 := by
                    by_cases e : u860.2.1 = 0
                    · right; have f0 := xh864 e; have g0 := f0.2; omega
                    · exact Or.inl (bz_0 e)
                  have xh865 : RS s0 f0 xx u860.2.1 g50 zw cd zn az := rs_mono xh779 (fun _ => rfl)
                  exact ih751 (mz, u860.1, u860.2.1, zw, zn, u800.2, u860.2.2, z376) ⟨xh863, (show t2 ≤ u860.1 by omega), (show RS s0 f0 xx u860.2.1 g50 zw cd zn u860.1 from (rs_at xh865 (by omega))), hT_, hS_, hb_⟩ (show 2 * (t3 - u860.1) + bz1 u860.2.1 + mz < 2 * (t3 - az) + bz1 bz + mz by omega)
                · refine j_aload_n (pc := 99) C d_Model_onePart_99 rfl 3 rfl ?_
                  refine j_get (pc := 100) C gf_Model_207 7 rfl rfl d_Model_onePart_100 ?_
                  refine j_goto (pc := 103) C (tgt := 107) d_Model_onePart_103 (by decide) ?_
                  refine j_istore (pc := 107) C (lv' := [(4, .int (nI u847)), (3, .int 1), (2, .int (-1)), (1, .int (nI mz)), (0, .ref mo)]) d_Model_onePart_107 (by decide) rfl ?_
                  refine j_iload (pc := 109) C d_Model_onePart_109 0 rfl ?_
                  refine j_iconst (pc := 111) C (v := (-1)) d_Model_onePart_111 (by decide) ?_
                  refine j_icmp_eqF (pc := 112) C (tgt := 132) d_Model_onePart_112 (by decide) (nI_nm1 (by omega)) ?_
                  refine j_aload_n (pc := 115) C d_Model_onePart_115 rfl 4 rfl ?_
                  refine j_iload_n (pc := 116) C d_Model_onePart_116 rfl 1 rfl ?_
                  refine j_if_eqF (pc := 117) C (tgt := 125) d_Model_onePart_117 (by decide) (by decide) ?_
                  refine j_bipush (pc := 120) C (v := 21) d_Model_onePart_120 (by decide) ?_
                  refine j_goto (pc := 122) C (tgt := 127) d_Model_onePart_122 (by decide) ?_
                  refine j_iload (pc := 127) C d_Model_onePart_127 0 rfl ?_
                  refine j_callVv (pc := 129) C (c_M_opens l D y mo ma t1 u847 t3 u800.2 0 z375 i7 i8 i42 i49 cd zn z376 bs i61 i64 i66 t67 i76 i78 zw 21 (nI u847) s0 xx f0 az g50 (by decide) (by omega) xh779 (by decide) hT_ hS_ hb_) kw_Model_353 kv_Model_opens 0 10 rfl rfl ⟨by decide, by decide⟩ ⟨by decide, by decide⟩ (wr := [(ma 37, .inl (y 3, 3, .inl g37)), (ma 38, .inl (y 3, 5, .inl g38)), (ma 39, .inl (y 3, 5, .inl g39)), (ma 50, .inl (y 0, 3200, .inl g50)), (ma 41, .inl (y 3, 3, .inl g41)), (ma 40, .inl (y 3, 3, .inl g40)), (ma 0, .inl (y 0, 1600, .inl g0))]) [7, 4] [0, 1, 2, 3, 5, 6, 8] rfl rfl (by decide) (by decide) (by decide) (As := [.int 21, .int (nI u847)]) (rest := []) rfl (nb rfl) rfl d_Model_onePart_129 (fun u866 hu867 => ?_)
                  obtain ⟨xh868, xh869, xh870, xh871, xh872, xh873, xh874⟩ := hu867
                  refine j_ws (ws' := [(ma 37, .inl (y 3, 3, .inl g37)), (ma 38, .inl (y 3, 5, .inl g38)), (ma 39, .inl (y 3, 5, .inl g39)), (ma 50, .inl (y 0, 3200, .inl g50)), (ma 41, .inl (y 3, 3, .inl g41)), (ma 40, .inl (y 3, 3, .inl g40)), (ma 0, .inl (y 0, 1600, .inl g0)), MB mo ma (nI t1) (nI u847) (nI t3) u800.2 u866.1 u866.2.1 i7 i8 i42 i49 (nI cd) (nI u866.2.2.1) u866.2.2.2.1 (nI bs) i61 i64 i66 (nI t67) i76 i78, (ma 52, .inl (y 0, 1700, .inl u866.2.2.2.2))]) rfl ?_
                  refine j_aload_n (pc := 132) C d_Model_onePart_132 rfl 4 rfl ?_
                  refine j_bipush (pc := 133) C (v := 40) d_Model_onePart_133 (by decide) ?_
                  refine j_callVv (pc := 135) C (c_M_asksSign l D y mo ma t1 u847 t3 u800.2 u866.1 u866.2.1 i7 i8 i42 i49 (nI cd) (nI u866.2.2.1) u866.2.2.2.1 (nI bs) i61 i64 i66 t67 i76 i78 g0 40 xh849 he (by decide)) kw_Model_271 kv_Model_asksSign 0 10 rfl rfl ⟨by decide, by decide⟩ ⟨by decide, by decide⟩ (wr := [(ma 37, .inl (y 3, 3, .inl g37)), (ma 38, .inl (y 3, 5, .inl g38)), (ma 39, .inl (y 3, 5, .inl g39)), (ma 50, .inl (y 0, 3200, .inl g50)), (ma 41, .inl (y 3, 3, .inl g41)), (ma 40, .inl (y 3, 3, .inl g40)), (ma 52, .inl (y 0, 1700, .inl u866.2.2.2.2))]) [7, 6] [0, 1, 2, 3, 4, 5, 8] rfl rfl (by decide) (by decide) (by decide) (As := [.int 40]) (rest := []) rfl (nb rfl) rfl d_Model_onePart_135 (fun u875 hu876 => ?_)
                  obtain ⟨xh877, xh878, xh879⟩ := hu876
                  refine j_ws (ws' := [(ma 37, .inl (y 3, 3, .inl g37)), (ma 38, .inl (y 3, 5, .inl g38)), (ma 39, .inl (y 3, 5, .inl g39)), (ma 50, .inl (y 0, 3200, .inl g50)), (ma 41, .inl (y 3, 3, .inl g41)), (ma 40, .inl (y 3, 3, .inl g40)), (ma 52, .inl (y 0, 1700, .inl u866.2.2.2.2)), MB mo ma (nI t1) (nI u875.1) (nI t3) u800.2 u875.2.1 u875.2.2 i7 i8 i42 i49 (nI cd) (nI u866.2.2.1) u866.2.2.2.1 (nI bs) i61 i64 i66 (nI t67) i76 i78, (ma 0, .inl (y 0, 1600, .inl g0))]) rfl ?_
                  refine j_goto (pc := 138) C (tgt := 143) d_Model_onePart_138 (by decide) ?_
                  refine j_goto (pc := 143) C (tgt := 2) d_Model_onePart_143 (by decide) ?_
                  refine j_sub (ws' := [MB mo ma (nI t1) (nI u875.1) (nI t3) u800.2 u875.2.1 u875.2.2 i7 i8 i42 i49 (nI cd) (nI u866.2.2.1) u866.2.2.2.1 (nI bs) i61 i64 i66 (nI t67) i76 i78, (ma 0, .inl (y 0, 1600, .inl g0)), (ma 37, .inl (y 3, 3, .inl g37)), (ma 38, .inl (y 3, 5, .inl g38)), (ma 39, .inl (y 3, 5, .inl g39)), (ma 40, .inl (y 3, 3, .inl g40)), (ma 41, .inl (y 3, 3, .inl g41)), (ma 50, .inl (y 0, 3200, .inl g50)), (ma 52, .inl (y 0, 1700, .inl u866.2.2.2.2))]) [7, 8, 0, 1, 2, 5, 4, 3, 6] rfl (by decide) ?_
                  refine j_locs (lv' := [(1, .int (nI mz)), (0, .ref mo)]) [3, 4] rfl ?_
                  have hz1 := bz_e c778
                  have hz0 := bz_le u875.2.1
                  have hz2 : bz1 u875.2.1 = 0 ∨ az + 1 ≤ u875.1 := by
                    by_cases e : u875.2.1 = 0
                    · right; have f0 := xh879 e; have g0 := f0.2; have f1 := xh870 f0.1; omega
                    · exact Or.inl (bz_0 e)
                  have xh880 : RS s0 f0 xx u875.2.1 g50 u866.2.2.2.2 cd u866.2.2.1 (az + 1) := rs_mono xh871 (fun e => by have e0 := (xh879 e).1; exact e0)
                  exact ih751 (mz, u875.1, u875.2.1, u866.2.2.2.2, u866.2.2.1, u800.2, u875.2.2, u866.2.2.2.1) ⟨xh878, (show t2 ≤ u875.1 by omega), (show RS s0 f0 xx u875.2.1 g50 u866.2.2.2.2 cd u866.2.2.1 u875.1 from (rs_at xh880 (by omega))), xh873, xh874, (show bs ≤ u866.2.2.1 by omega)⟩ (show 2 * (t3 - u875.1) + bz1 u875.2.1 + mz < 2 * (t3 - az) + bz1 bz + mz by omega)
        · refine j_if_neT (pc := 55) C (tgt := 69) d_Model_onePart_55 (by decide) (by decide) ?_
          refine j_aload_n (pc := 69) C d_Model_onePart_69 rfl 2 rfl ?_
          refine j_aload_n (pc := 70) C d_Model_onePart_70 rfl 2 rfl ?_
          refine j_get (pc := 71) C gf_Model_111 6 rfl rfl d_Model_onePart_71 ?_
          refine j_callVi (pc := 74) C (c_M_takes_3 l D y mo (ma 40) ma t1 u788 t3 z374 0 z375 i7 i8 i42 i49 (nI cd) (nI zn) z376 (nI bs) i61 i64 i66 t67 i76 i78 g0 g40 xh790 he) kw_Model_228 kv_Model_takes 0 10 rfl rfl ⟨by decide, by decide⟩ ⟨by decide, by decide⟩ (wr := [(ma 37, .inl (y 3, 3, .inl g37)), (ma 38, .inl (y 3, 5, .inl g38)), (ma 39, .inl (y 3, 5, .inl g39)), (ma 41, .inl (y 3, 3, .inl g41)), (ma 50, .inl (y 0, 3200, .inl g50)), (ma 52, .inl (y 0, 1700, .inl zw))]) [6, 7, 8] [0, 1, 2, 3, 4, 5] rfl rfl (by decide) (by decide) (by decide) (As := [.ref (ma 40)]) (rest := []) rfl (nb rfl) rfl d_Model_onePart_74 (fun r881 u882 hr881 => ?_)
          refine j_ws (ws' := [(ma 37, .inl (y 3, 3, .inl g37)), (ma 38, .inl (y 3, 5, .inl g38)), (ma 39, .inl (y 3, 5, .inl g39)), (ma 41, .inl (y 3, 3, .inl g41)), (ma 50, .inl (y 0, 3200, .inl g50)), (ma 52, .inl (y 0, 1700, .inl zw)), MB mo ma (nI t1) (nI u882.1) (nI t3) u882.2 0 z375 i7 i8 i42 i49 (nI cd) (nI zn) z376 (nI bs) i61 i64 i66 (nI t67) i76 i78, (ma 0, .inl (y 0, 1600, .inl g0)), (ma 40, .inl (y 3, 3, .inl g40))]) rfl ?_
          obtain ⟨xh883, xh884, xh885⟩ := hr881
          rcases xh885 with rfl | ⟨rfl, xh886⟩
          · refine j_istore_n (pc := 77) C (lv' := [(3, .int 0), (2, .int (-1)), (1, .int (nI mz)), (0, .ref mo)]) d_Model_onePart_77 rfl (by decide) rfl ?_
            refine j_iload_n (pc := 78) C d_Model_onePart_78 rfl 0 rfl ?_
            refine j_if_neF (pc := 79) C (tgt := 90) d_Model_onePart_79 (by decide) (by decide) ?_
            refine j_aload_n (pc := 82) C d_Model_onePart_82 rfl 3 rfl ?_
            refine j_aload_n (pc := 83) C d_Model_onePart_83 rfl 3 rfl ?_
            refine j_get (pc := 84) C gf_Model_114 6 rfl rfl d_Model_onePart_84 ?_
            refine j_callVv (pc := 87) C (c_M_asks_3 l D y mo (ma 41) ma t1 u882.1 t3 u882.2 0 z375 i7 i8 i42 i49 (nI cd) (nI zn) z376 (nI bs) i61 i64 i66 t67 i76 i78 g0 g41 xh884 he) kw_Model_263 kv_Model_asks 0 10 rfl rfl ⟨by decide, by decide⟩ ⟨by decide, by decide⟩ (wr := [(ma 37, .inl (y 3, 3, .inl g37)), (ma 38, .inl (y 3, 5, .inl g38)), (ma 39, .inl (y 3, 5, .inl g39)), (ma 50, .inl (y 0, 3200, .inl g50)), (ma 52, .inl (y 0, 1700, .inl zw)), (ma 40, .inl (y 3, 3, .inl g40))]) [6, 7, 3] [0, 1, 2, 4, 5, 8] rfl rfl (by decide) (by decide) (by decide) (As := [.ref (ma 41)]) (rest := []) rfl (nb rfl) rfl d_Model_onePart_87 (fun u887 hu888 => ?_)
            obtain ⟨xh889, xh890, xh891⟩ := hu888
            refine j_ws (ws' := [(ma 37, .inl (y 3, 3, .inl g37)), (ma 38, .inl (y 3, 5, .inl g38)), (ma 39, .inl (y 3, 5, .inl g39)), (ma 50, .inl (y 0, 3200, .inl g50)), (ma 52, .inl (y 0, 1700, .inl zw)), (ma 40, .inl (y 3, 3, .inl g40)), MB mo ma (nI t1) (nI u887.1) (nI t3) u887.2.1 u887.2.2.1 u887.2.2.2 i7 i8 i42 i49 (nI cd) (nI zn) z376 (nI bs) i61 i64 i66 (nI t67) i76 i78, (ma 0, .inl (y 0, 1600, .inl g0)), (ma 41, .inl (y 3, 3, .inl g41))]) rfl ?_
            refine j_aload_n (pc := 90) C d_Model_onePart_90 rfl 3 rfl ?_
            refine j_callVi (pc := 91) C (c_M_look l D y mo ma t1 u887.1 t3 u887.2.1 u887.2.2.1 u887.2.2.2 i7 i8 i42 i49 (nI cd) (nI zn) z376 (nI bs) i61 i64 i66 t67 i76 i78 g0 xh890 he) kw_Model_213 kv_Model_look 0 10 rfl rfl ⟨by decide, by decide⟩ ⟨by decide, by decide⟩ (wr := [(ma 37, .inl (y 3, 3, .inl g37)), (ma 38, .inl (y 3, 5, .inl g38)), (ma 39, .inl (y 3, 5, .inl g39)), (ma 50, .inl (y 0, 3200, .inl g50)), (ma 52, .inl (y 0, 1700, .inl zw)), (ma 40, .inl (y 3, 3, .inl g40)), (ma 41, .inl (y 3, 3, .inl g41))]) [6, 7] [0, 1, 2, 3, 4, 5, 8] rfl rfl (by decide) (by decide) (by decide) (As := []) (rest := []) rfl (nb rfl) rfl d_Model_onePart_91 (fun r892 u893 hr892 => ?_)
            refine j_ws (ws' := [(ma 37, .inl (y 3, 3, .inl g37)), (ma 38, .inl (y 3, 5, .inl g38)), (ma 39, .inl (y 3, 5, .inl g39)), (ma 50, .inl (y 0, 3200, .inl g50)), (ma 52, .inl (y 0, 1700, .inl zw)), (ma 40, .inl (y 3, 3, .inl g40)), (ma 41, .inl (y 3, 3, .inl g41)), MB mo ma (nI t1) (nI u893) (nI t3) u887.2.1 u887.2.2.1 u887.2.2.2 i7 i8 i42 i49 (nI cd) (nI zn) z376 (nI bs) i61 i64 i66 (nI t67) i76 i78, (ma 0, .inl (y 0, 1600, .inl g0))]) rfl ?_
            obtain ⟨xh894, xh895, xh896⟩ := hr892
            rcases xh896 with rfl | ⟨xh897, e898⟩
            · refine j_bipush (pc := 94) C (v := 40) d_Model_onePart_94 (by decide) ?_
              refine j_icmp_neT (pc := 96) C (tgt := 106) d_Model_onePart_96 (by decide) (by decide) ?_
              refine j_iconst (pc := 106) C (v := (-1)) d_Model_onePart_106 (by decide) ?_
              refine j_istore (pc := 107) C (lv' := [(4, .int (-1)), (3, .int 0), (2, .int (-1)), (1, .int (nI mz)), (0, .ref mo)]) d_Model_onePart_107 (by decide) rfl ?_
              refine j_iload (pc := 109) C d_Model_onePart_109 0 rfl ?_
              refine j_iconst (pc := 111) C (v := (-1)) d_Model_onePart_111 (by decide) ?_
              refine j_icmp_eqT (pc := 112) C (tgt := 132) d_Model_onePart_112 (by decide) (by decide) ?_
              refine j_aload_n (pc := 132) C d_Model_onePart_132 rfl 4 rfl ?_
              refine j_bipush (pc := 133) C (v := 40) d_Model_onePart_133 (by decide) ?_
              refine j_callVv (pc := 135) C (c_M_asksSign l D y mo ma t1 u893 t3 u887.2.1 u887.2.2.1 u887.2.2.2 i7 i8 i42 i49 (nI cd) (nI zn) z376 (nI bs) i61 i64 i66 t67 i76 i78 g0 40 xh895 he (by decide)) kw_Model_271 kv_Model_asksSign 0 10 rfl rfl ⟨by decide, by decide⟩ ⟨by decide, by decide⟩ (wr := [(ma 37, .inl (y 3, 3, .inl g37)), (ma 38, .inl (y 3, 5, .inl g38)), (ma 39, .inl (y 3, 5, .inl g39)), (ma 50, .inl (y 0, 3200, .inl g50)), (ma 52, .inl (y 0, 1700, .inl zw)), (ma 40, .inl (y 3, 3, .inl g40)), (ma 41, .inl (y 3, 3, .inl g41))]) [7, 8] [0, 1, 2, 3, 4, 5, 6] rfl rfl (by decide) (by decide) (by decide) (As := [.int 40]) (rest := []) rfl (nb rfl) rfl d_Model_onePart_135 (fun u899 hu900 => ?_)
              obtain ⟨xh901, xh902, xh903⟩ := hu900
              refine j_ws (ws' := [(ma 37, .inl (y 3, 3, .inl g37)), (ma 38, .inl (y 3, 5, .inl g38)), (ma 39, .inl (y 3, 5, .inl g39)), (ma 50, .inl (y 0, 3200, .inl g50)), (ma 52, .inl (y 0, 1700, .inl zw)), (ma 40, .inl (y 3, 3, .inl g40)), (ma 41, .inl (y 3, 3, .inl g41)), MB mo ma (nI t1) (nI u899.1) (nI t3) u887.2.1 u899.2.1 u899.2.2 i7 i8 i42 i49 (nI cd) (nI zn) z376 (nI bs) i61 i64 i66 (nI t67) i76 i78, (ma 0, .inl (y 0, 1600, .inl g0))]) rfl ?_
              refine j_goto (pc := 138) C (tgt := 143) d_Model_onePart_138 (by decide) ?_
              refine j_goto (pc := 143) C (tgt := 2) d_Model_onePart_143 (by decide) ?_
              refine j_sub (ws' := [MB mo ma (nI t1) (nI u899.1) (nI t3) u887.2.1 u899.2.1 u899.2.2 i7 i8 i42 i49 (nI cd) (nI zn) z376 (nI bs) i61 i64 i66 (nI t67) i76 i78, (ma 0, .inl (y 0, 1600, .inl g0)), (ma 37, .inl (y 3, 3, .inl g37)), (ma 38, .inl (y 3, 5, .inl g38)), (ma 39, .inl (y 3, 5, .inl g39)), (ma 40, .inl (y 3, 3, .inl g40)), (ma 41, .inl (y 3, 3, .inl g41)), (ma 50, .inl (y 0, 3200, .inl g50)), (ma 52, .inl (y 0, 1700, .inl zw))]) [7, 8, 0, 1, 2, 5, 6, 3, 4] rfl (by decide) ?_
              refine j_locs (lv' := [(1, .int (nI mz)), (0, .ref mo)]) [3, 4] rfl ?_
              have hz1 := bz_e c778
              have hz0 := bz_le u899.2.1
              have hz2 : bz1 u899.2.1 = 0 ∨ az + 1 ≤ u899.1 := by
                by_cases e : u899.2.1 = 0
                · right; have f0 := xh903 e; have g0 := f0.2; have f1 := xh891 f0.1; have g1 := f1.2; omega
                · exact Or.inl (bz_0 e)
              have xh904 : RS s0 f0 xx u899.2.1 g50 zw cd zn az := rs_mono xh779 (fun _ => rfl)
              exact ih751 (mz, u899.1, u899.2.1, zw, zn, u887.2.1, u899.2.2, z376) ⟨xh902, (show t2 ≤ u899.1 by omega), (show RS s0 f0 xx u899.2.1 g50 zw cd zn u899.1 from (rs_at xh904 (by omega))), hT_, hS_, hb_⟩ (show 2 * (t3 - u899.1) + bz1 u899.2.1 + mz < 2 * (t3 - az) + bz1 bz + mz by omega)
            · refine j_bipush (pc := 94) C (v := 40) d_Model_onePart_94 (by decide) ?_
              refine j_icmp_ne (pc := 96) C (tgt := 106) d_Model_onePart_96 (by decide) (fun c905 => ?_) (fun c905 => ?_)
              · refine j_iconst (pc := 106) C (v := (-1)) d_Model_onePart_106 (by decide) ?_
                refine j_istore (pc := 107) C (lv' := [(4, .int (-1)), (3, .int 0), (2, .int (-1)), (1, .int (nI mz)), (0, .ref mo)]) d_Model_onePart_107 (by decide) rfl ?_
                refine j_iload (pc := 109) C d_Model_onePart_109 0 rfl ?_
                refine j_iconst (pc := 111) C (v := (-1)) d_Model_onePart_111 (by decide) ?_
                refine j_icmp_eqT (pc := 112) C (tgt := 132) d_Model_onePart_112 (by decide) (by decide) ?_
                refine j_aload_n (pc := 132) C d_Model_onePart_132 rfl 4 rfl ?_
                refine j_bipush (pc := 133) C (v := 40) d_Model_onePart_133 (by decide) ?_
                refine j_callVv (pc := 135) C (c_M_asksSign l D y mo ma t1 u893 t3 u887.2.1 u887.2.2.1 u887.2.2.2 i7 i8 i42 i49 (nI cd) (nI zn) z376 (nI bs) i61 i64 i66 t67 i76 i78 g0 40 xh895 he (by decide)) kw_Model_271 kv_Model_asksSign 0 10 rfl rfl ⟨by decide, by decide⟩ ⟨by decide, by decide⟩ (wr := [(ma 37, .inl (y 3, 3, .inl g37)), (ma 38, .inl (y 3, 5, .inl g38)), (ma 39, .inl (y 3, 5, .inl g39)), (ma 50, .inl (y 0, 3200, .inl g50)), (ma 52, .inl (y 0, 1700, .inl zw)), (ma 40, .inl (y 3, 3, .inl g40)), (ma 41, .inl (y 3, 3, .inl g41))]) [7, 8] [0, 1, 2, 3, 4, 5, 6] rfl rfl (by decide) (by decide) (by decide) (As := [.int 40]) (rest := []) rfl (nb rfl) rfl d_Model_onePart_135 (fun u906 hu907 => ?_)
                obtain ⟨xh908, xh909, xh910⟩ := hu907
                refine j_ws (ws' := [(ma 37, .inl (y 3, 3, .inl g37)), (ma 38, .inl (y 3, 5, .inl g38)), (ma 39, .inl (y 3, 5, .inl g39)), (ma 50, .inl (y 0, 3200, .inl g50)), (ma 52, .inl (y 0, 1700, .inl zw)), (ma 40, .inl (y 3, 3, .inl g40)), (ma 41, .inl (y 3, 3, .inl g41)), MB mo ma (nI t1) (nI u906.1) (nI t3) u887.2.1 u906.2.1 u906.2.2 i7 i8 i42 i49 (nI cd) (nI zn) z376 (nI bs) i61 i64 i66 (nI t67) i76 i78, (ma 0, .inl (y 0, 1600, .inl g0))]) rfl ?_
                refine j_goto (pc := 138) C (tgt := 143) d_Model_onePart_138 (by decide) ?_
                refine j_goto (pc := 143) C (tgt := 2) d_Model_onePart_143 (by decide) ?_
                refine j_sub (ws' := [MB mo ma (nI t1) (nI u906.1) (nI t3) u887.2.1 u906.2.1 u906.2.2 i7 i8 i42 i49 (nI cd) (nI zn) z376 (nI bs) i61 i64 i66 (nI t67) i76 i78, (ma 0, .inl (y 0, 1600, .inl g0)), (ma 37, .inl (y 3, 3, .inl g37)), (ma 38, .inl (y 3, 5, .inl g38)), (ma 39, .inl (y 3, 5, .inl g39)), (ma 40, .inl (y 3, 3, .inl g40)), (ma 41, .inl (y 3, 3, .inl g41)), (ma 50, .inl (y 0, 3200, .inl g50)), (ma 52, .inl (y 0, 1700, .inl zw))]) [7, 8, 0, 1, 2, 5, 6, 3, 4] rfl (by decide) ?_
                refine j_locs (lv' := [(1, .int (nI mz)), (0, .ref mo)]) [3, 4] rfl ?_
                have hz1 := bz_e c778
                have hz0 := bz_le u906.2.1
                have hz2 : bz1 u906.2.1 = 0 ∨ az + 1 ≤ u906.1 := by
                  by_cases e : u906.2.1 = 0
                  · right; have f0 := xh910 e; have g0 := f0.2; have f1 := xh891 f0.1; have g1 := f1.2; omega
                  · exact Or.inl (bz_0 e)
                have xh911 : RS s0 f0 xx u906.2.1 g50 zw cd zn az := rs_mono xh779 (fun _ => rfl)
                exact ih751 (mz, u906.1, u906.2.1, zw, zn, u887.2.1, u906.2.2, z376) ⟨xh909, (show t2 ≤ u906.1 by omega), (show RS s0 f0 xx u906.2.1 g50 zw cd zn u906.1 from (rs_at xh911 (by omega))), hT_, hS_, hb_⟩ (show 2 * (t3 - u906.1) + bz1 u906.2.1 + mz < 2 * (t3 - az) + bz1 bz + mz by omega)
              · refine j_aload_n (pc := 99) C d_Model_onePart_99 rfl 3 rfl ?_
                refine j_get (pc := 100) C gf_Model_207 7 rfl rfl d_Model_onePart_100 ?_
                refine j_goto (pc := 103) C (tgt := 107) d_Model_onePart_103 (by decide) ?_
                refine j_istore (pc := 107) C (lv' := [(4, .int (nI u893)), (3, .int 0), (2, .int (-1)), (1, .int (nI mz)), (0, .ref mo)]) d_Model_onePart_107 (by decide) rfl ?_
                refine j_iload (pc := 109) C d_Model_onePart_109 0 rfl ?_
                refine j_iconst (pc := 111) C (v := (-1)) d_Model_onePart_111 (by decide) ?_
                refine j_icmp_eqF (pc := 112) C (tgt := 132) d_Model_onePart_112 (by decide) (nI_nm1 (by omega)) ?_
                refine j_aload_n (pc := 115) C d_Model_onePart_115 rfl 4 rfl ?_
                refine j_iload_n (pc := 116) C d_Model_onePart_116 rfl 1 rfl ?_
                refine j_if_eqT (pc := 117) C (tgt := 125) d_Model_onePart_117 (by decide) (by decide) ?_
                refine j_bipush (pc := 125) C (v := 22) d_Model_onePart_125 (by decide) ?_
                refine j_iload (pc := 127) C d_Model_onePart_127 0 rfl ?_
                have xh912 : RS s0 f0 xx u887.2.2.1 g50 zw cd zn az := rs_mono xh779 (fun _ => rfl)
                refine j_callVv (pc := 129) C (c_M_opens l D y mo ma t1 u893 t3 u887.2.1 u887.2.2.1 u887.2.2.2 i7 i8 i42 i49 cd zn z376 bs i61 i64 i66 t67 i76 i78 zw 22 (nI u893) s0 xx f0 az g50 (by decide) (by omega) xh912 (by decide) hT_ hS_ hb_) kw_Model_353 kv_Model_opens 0 10 rfl rfl ⟨by decide, by decide⟩ ⟨by decide, by decide⟩ (wr := [(ma 37, .inl (y 3, 3, .inl g37)), (ma 38, .inl (y 3, 5, .inl g38)), (ma 39, .inl (y 3, 5, .inl g39)), (ma 50, .inl (y 0, 3200, .inl g50)), (ma 40, .inl (y 3, 3, .inl g40)), (ma 41, .inl (y 3, 3, .inl g41)), (ma 0, .inl (y 0, 1600, .inl g0))]) [7, 4] [0, 1, 2, 3, 5, 6, 8] rfl rfl (by decide) (by decide) (by decide) (As := [.int 22, .int (nI u893)]) (rest := []) rfl (nb rfl) rfl d_Model_onePart_129 (fun u913 hu914 => ?_)
                obtain ⟨xh915, xh916, xh917, xh918, xh919, xh920, xh921⟩ := hu914
                refine j_ws (ws' := [(ma 37, .inl (y 3, 3, .inl g37)), (ma 38, .inl (y 3, 5, .inl g38)), (ma 39, .inl (y 3, 5, .inl g39)), (ma 50, .inl (y 0, 3200, .inl g50)), (ma 40, .inl (y 3, 3, .inl g40)), (ma 41, .inl (y 3, 3, .inl g41)), (ma 0, .inl (y 0, 1600, .inl g0)), MB mo ma (nI t1) (nI u893) (nI t3) u887.2.1 u913.1 u913.2.1 i7 i8 i42 i49 (nI cd) (nI u913.2.2.1) u913.2.2.2.1 (nI bs) i61 i64 i66 (nI t67) i76 i78, (ma 52, .inl (y 0, 1700, .inl u913.2.2.2.2))]) rfl ?_
                refine j_aload_n (pc := 132) C d_Model_onePart_132 rfl 4 rfl ?_
                refine j_bipush (pc := 133) C (v := 40) d_Model_onePart_133 (by decide) ?_
                refine j_callVv (pc := 135) C (c_M_asksSign l D y mo ma t1 u893 t3 u887.2.1 u913.1 u913.2.1 i7 i8 i42 i49 (nI cd) (nI u913.2.2.1) u913.2.2.2.1 (nI bs) i61 i64 i66 t67 i76 i78 g0 40 xh895 he (by decide)) kw_Model_271 kv_Model_asksSign 0 10 rfl rfl ⟨by decide, by decide⟩ ⟨by decide, by decide⟩ (wr := [(ma 37, .inl (y 3, 3, .inl g37)), (ma 38, .inl (y 3, 5, .inl g38)), (ma 39, .inl (y 3, 5, .inl g39)), (ma 50, .inl (y 0, 3200, .inl g50)), (ma 40, .inl (y 3, 3, .inl g40)), (ma 41, .inl (y 3, 3, .inl g41)), (ma 52, .inl (y 0, 1700, .inl u913.2.2.2.2))]) [7, 6] [0, 1, 2, 3, 4, 5, 8] rfl rfl (by decide) (by decide) (by decide) (As := [.int 40]) (rest := []) rfl (nb rfl) rfl d_Model_onePart_135 (fun u922 hu923 => ?_)
                obtain ⟨xh924, xh925, xh926⟩ := hu923
                refine j_ws (ws' := [(ma 37, .inl (y 3, 3, .inl g37)), (ma 38, .inl (y 3, 5, .inl g38)), (ma 39, .inl (y 3, 5, .inl g39)), (ma 50, .inl (y 0, 3200, .inl g50)), (ma 40, .inl (y 3, 3, .inl g40)), (ma 41, .inl (y 3, 3, .inl g41)), (ma 52, .inl (y 0, 1700, .inl u913.2.2.2.2)), MB mo ma (nI t1) (nI u922.1) (nI t3) u887.2.1 u922.2.1 u922.2.2 i7 i8 i42 i49 (nI cd) (nI u913.2.2.1) u913.2.2.2.1 (nI bs) i61 i64 i66 (nI t67) i76 i78, (ma 0, .inl (y 0, 1600, .inl g0))]) rfl ?_
                refine j_goto (pc := 138) C (tgt := 143) d_Model_onePart_138 (by decide) ?_
                refine j_goto (pc := 143) C (tgt := 2) d_Model_onePart_143 (by decide) ?_
                refine j_sub (ws' := [MB mo ma (nI t1) (nI u922.1) (nI t3) u887.2.1 u922.2.1 u922.2.2 i7 i8 i42 i49 (nI cd) (nI u913.2.2.1) u913.2.2.2.1 (nI bs) i61 i64 i66 (nI t67) i76 i78, (ma 0, .inl (y 0, 1600, .inl g0)), (ma 37, .inl (y 3, 3, .inl g37)), (ma 38, .inl (y 3, 5, .inl g38)), (ma 39, .inl (y 3, 5, .inl g39)), (ma 40, .inl (y 3, 3, .inl g40)), (ma 41, .inl (y 3, 3, .inl g41)), (ma 50, .inl (y 0, 3200, .inl g50)), (ma 52, .inl (y 0, 1700, .inl u913.2.2.2.2))]) [7, 8, 0, 1, 2, 4, 5, 3, 6] rfl (by decide) ?_
                refine j_locs (lv' := [(1, .int (nI mz)), (0, .ref mo)]) [3, 4] rfl ?_
                have hz1 := bz_e c778
                have hz0 := bz_le u922.2.1
                have hz2 : bz1 u922.2.1 = 0 ∨ az + 1 ≤ u922.1 := by
                  by_cases e : u922.2.1 = 0
                  · right; have f0 := xh926 e; have g0 := f0.2; have f1 := xh917 f0.1; have f2 := xh891 f1; have g2 := f2.2; omega
                  · exact Or.inl (bz_0 e)
                have xh927 : RS s0 f0 xx u922.2.1 g50 u913.2.2.2.2 cd u913.2.2.1 (az + 1) := rs_mono xh918 (fun e => by have e0 := (xh926 e).1; exact e0)
                exact ih751 (mz, u922.1, u922.2.1, u913.2.2.2.2, u913.2.2.1, u887.2.1, u922.2.2, u913.2.2.2.1) ⟨xh925, (show t2 ≤ u922.1 by omega), (show RS s0 f0 xx u922.2.1 g50 u913.2.2.2.2 cd u913.2.2.1 u922.1 from (rs_at xh927 (by omega))), xh920, xh921, (show bs ≤ u913.2.2.1 by omega)⟩ (show 2 * (t3 - u922.1) + bz1 u922.2.1 + mz < 2 * (t3 - az) + bz1 bz + mz by omega)
          · refine j_istore_n (pc := 77) C (lv' := [(3, .int 1), (2, .int (-1)), (1, .int (nI mz)), (0, .ref mo)]) d_Model_onePart_77 rfl (by decide) rfl ?_
            refine j_iload_n (pc := 78) C d_Model_onePart_78 rfl 0 rfl ?_
            refine j_if_neT (pc := 79) C (tgt := 90) d_Model_onePart_79 (by decide) (by decide) ?_
            refine j_aload_n (pc := 90) C d_Model_onePart_90 rfl 3 rfl ?_
            refine j_callVi (pc := 91) C (c_M_look l D y mo ma t1 u882.1 t3 u882.2 0 z375 i7 i8 i42 i49 (nI cd) (nI zn) z376 (nI bs) i61 i64 i66 t67 i76 i78 g0 xh884 he) kw_Model_213 kv_Model_look 0 10 rfl rfl ⟨by decide, by decide⟩ ⟨by decide, by decide⟩ (wr := [(ma 37, .inl (y 3, 3, .inl g37)), (ma 38, .inl (y 3, 5, .inl g38)), (ma 39, .inl (y 3, 5, .inl g39)), (ma 41, .inl (y 3, 3, .inl g41)), (ma 50, .inl (y 0, 3200, .inl g50)), (ma 52, .inl (y 0, 1700, .inl zw)), (ma 40, .inl (y 3, 3, .inl g40))]) [6, 7] [0, 1, 2, 3, 4, 5, 8] rfl rfl (by decide) (by decide) (by decide) (As := []) (rest := []) rfl (nb rfl) rfl d_Model_onePart_91 (fun r928 u929 hr928 => ?_)
            refine j_ws (ws' := [(ma 37, .inl (y 3, 3, .inl g37)), (ma 38, .inl (y 3, 5, .inl g38)), (ma 39, .inl (y 3, 5, .inl g39)), (ma 41, .inl (y 3, 3, .inl g41)), (ma 50, .inl (y 0, 3200, .inl g50)), (ma 52, .inl (y 0, 1700, .inl zw)), (ma 40, .inl (y 3, 3, .inl g40)), MB mo ma (nI t1) (nI u929) (nI t3) u882.2 0 z375 i7 i8 i42 i49 (nI cd) (nI zn) z376 (nI bs) i61 i64 i66 (nI t67) i76 i78, (ma 0, .inl (y 0, 1600, .inl g0))]) rfl ?_
            obtain ⟨xh930, xh931, xh932⟩ := hr928
            rcases xh932 with rfl | ⟨xh933, e934⟩
            · refine j_bipush (pc := 94) C (v := 40) d_Model_onePart_94 (by decide) ?_
              refine j_icmp_neT (pc := 96) C (tgt := 106) d_Model_onePart_96 (by decide) (by decide) ?_
              refine j_iconst (pc := 106) C (v := (-1)) d_Model_onePart_106 (by decide) ?_
              refine j_istore (pc := 107) C (lv' := [(4, .int (-1)), (3, .int 1), (2, .int (-1)), (1, .int (nI mz)), (0, .ref mo)]) d_Model_onePart_107 (by decide) rfl ?_
              refine j_iload (pc := 109) C d_Model_onePart_109 0 rfl ?_
              refine j_iconst (pc := 111) C (v := (-1)) d_Model_onePart_111 (by decide) ?_
              refine j_icmp_eqT (pc := 112) C (tgt := 132) d_Model_onePart_112 (by decide) (by decide) ?_
              refine j_aload_n (pc := 132) C d_Model_onePart_132 rfl 4 rfl ?_
              refine j_bipush (pc := 133) C (v := 40) d_Model_onePart_133 (by decide) ?_
              refine j_callVv (pc := 135) C (c_M_asksSign l D y mo ma t1 u929 t3 u882.2 0 z375 i7 i8 i42 i49 (nI cd) (nI zn) z376 (nI bs) i61 i64 i66 t67 i76 i78 g0 40 xh931 he (by decide)) kw_Model_271 kv_Model_asksSign 0 10 rfl rfl ⟨by decide, by decide⟩ ⟨by decide, by decide⟩ (wr := [(ma 37, .inl (y 3, 3, .inl g37)), (ma 38, .inl (y 3, 5, .inl g38)), (ma 39, .inl (y 3, 5, .inl g39)), (ma 41, .inl (y 3, 3, .inl g41)), (ma 50, .inl (y 0, 3200, .inl g50)), (ma 52, .inl (y 0, 1700, .inl zw)), (ma 40, .inl (y 3, 3, .inl g40))]) [7, 8] [0, 1, 2, 3, 4, 5, 6] rfl rfl (by decide) (by decide) (by decide) (As := [.int 40]) (rest := []) rfl (nb rfl) rfl d_Model_onePart_135 (fun u935 hu936 => ?_)
              obtain ⟨xh937, xh938, xh939⟩ := hu936
              refine j_ws (ws' := [(ma 37, .inl (y 3, 3, .inl g37)), (ma 38, .inl (y 3, 5, .inl g38)), (ma 39, .inl (y 3, 5, .inl g39)), (ma 41, .inl (y 3, 3, .inl g41)), (ma 50, .inl (y 0, 3200, .inl g50)), (ma 52, .inl (y 0, 1700, .inl zw)), (ma 40, .inl (y 3, 3, .inl g40)), MB mo ma (nI t1) (nI u935.1) (nI t3) u882.2 u935.2.1 u935.2.2 i7 i8 i42 i49 (nI cd) (nI zn) z376 (nI bs) i61 i64 i66 (nI t67) i76 i78, (ma 0, .inl (y 0, 1600, .inl g0))]) rfl ?_
              refine j_goto (pc := 138) C (tgt := 143) d_Model_onePart_138 (by decide) ?_
              refine j_goto (pc := 143) C (tgt := 2) d_Model_onePart_143 (by decide) ?_
              refine j_sub (ws' := [MB mo ma (nI t1) (nI u935.1) (nI t3) u882.2 u935.2.1 u935.2.2 i7 i8 i42 i49 (nI cd) (nI zn) z376 (nI bs) i61 i64 i66 (nI t67) i76 i78, (ma 0, .inl (y 0, 1600, .inl g0)), (ma 37, .inl (y 3, 3, .inl g37)), (ma 38, .inl (y 3, 5, .inl g38)), (ma 39, .inl (y 3, 5, .inl g39)), (ma 40, .inl (y 3, 3, .inl g40)), (ma 41, .inl (y 3, 3, .inl g41)), (ma 50, .inl (y 0, 3200, .inl g50)), (ma 52, .inl (y 0, 1700, .inl zw))]) [7, 8, 0, 1, 2, 6, 3, 4, 5] rfl (by decide) ?_
              refine j_locs (lv' := [(1, .int (nI mz)), (0, .ref mo)]) [3, 4] rfl ?_
              have hz1 := bz_e c778
              have hz0 := bz_le u935.2.1
              have hz2 : bz1 u935.2.1 = 0 ∨ az + 1 ≤ u935.1 := by
                by_cases e : u935.2.1 = 0
                · right; have f0 := xh939 e; have g0 := f0.2; omega
                · exact Or.inl (bz_0 e)
              have xh940 : RS s0 f0 xx u935.2.1 g50 zw cd zn az := rs_mono xh779 (fun _ => rfl)
              exact ih751 (mz, u935.1, u935.2.1, zw, zn, u882.2, u935.2.2, z376) ⟨xh938, (show t2 ≤ u935.1 by omega), (show RS s0 f0 xx u935.2.1 g50 zw cd zn u935.1 from (rs_at xh940 (by omega))), hT_, hS_, hb_⟩ (show 2 * (t3 - u935.1) + bz1 u935.2.1 + mz < 2 * (t3 - az) + bz1 bz + mz by omega)
            · refine j_bipush (pc := 94) C (v := 40) d_Model_onePart_94 (by decide) ?_
              refine j_icmp_ne (pc := 96) C (tgt := 106) d_Model_onePart_96 (by decide) (fun c941 => ?_) (fun c941 => ?_)
              · refine j_iconst (pc := 106) C (v := (-1)) d_Model_onePart_106 (by decide) ?_
                refine j_istore (pc := 107) C (lv' := [(4, .int (-1)), (3, .int 1), (2, .int (-1)), (1, .int (nI mz)), (0, .ref mo)]) d_Model_onePart_107 (by decide) rfl ?_
                refine j_iload (pc := 109) C d_Model_onePart_109 0 rfl ?_
                refine j_iconst (pc := 111) C (v := (-1)) d_Model_onePart_111 (by decide) ?_
                refine j_icmp_eqT (pc := 112) C (tgt := 132) d_Model_onePart_112 (by decide) (by decide) ?_
                refine j_aload_n (pc := 132) C d_Model_onePart_132 rfl 4 rfl ?_
                refine j_bipush (pc := 133) C (v := 40) d_Model_onePart_133 (by decide) ?_
                refine j_callVv (pc := 135) C (c_M_asksSign l D y mo ma t1 u929 t3 u882.2 0 z375 i7 i8 i42 i49 (nI cd) (nI zn) z376 (nI bs) i61 i64 i66 t67 i76 i78 g0 40 xh931 he (by decide)) kw_Model_271 kv_Model_asksSign 0 10 rfl rfl ⟨by decide, by decide⟩ ⟨by decide, by decide⟩ (wr := [(ma 37, .inl (y 3, 3, .inl g37)), (ma 38, .inl (y 3, 5, .inl g38)), (ma 39, .inl (y 3, 5, .inl g39)), (ma 41, .inl (y 3, 3, .inl g41)), (ma 50, .inl (y 0, 3200, .inl g50)), (ma 52, .inl (y 0, 1700, .inl zw)), (ma 40, .inl (y 3, 3, .inl g40))]) [7, 8] [0, 1, 2, 3, 4, 5, 6] rfl rfl (by decide) (by decide) (by decide) (As := [.int 40]) (rest := []) rfl (nb rfl) rfl d_Model_onePart_135 (fun u942 hu943 => ?_)
                obtain ⟨xh944, xh945, xh946⟩ := hu943
                refine j_ws (ws' := [(ma 37, .inl (y 3, 3, .inl g37)), (ma 38, .inl (y 3, 5, .inl g38)), (ma 39, .inl (y 3, 5, .inl g39)), (ma 41, .inl (y 3, 3, .inl g41)), (ma 50, .inl (y 0, 3200, .inl g50)), (ma 52, .inl (y 0, 1700, .inl zw)), (ma 40, .inl (y 3, 3, .inl g40)), MB mo ma (nI t1) (nI u942.1) (nI t3) u882.2 u942.2.1 u942.2.2 i7 i8 i42 i49 (nI cd) (nI zn) z376 (nI bs) i61 i64 i66 (nI t67) i76 i78, (ma 0, .inl (y 0, 1600, .inl g0))]) rfl ?_
                refine j_goto (pc := 138) C (tgt := 143) d_Model_onePart_138 (by decide) ?_
                refine j_goto (pc := 143) C (tgt := 2) d_Model_onePart_143 (by decide) ?_
                refine j_sub (ws' := [MB mo ma (nI t1) (nI u942.1) (nI t3) u882.2 u942.2.1 u942.2.2 i7 i8 i42 i49 (nI cd) (nI zn) z376 (nI bs) i61 i64 i66 (nI t67) i76 i78, (ma 0, .inl (y 0, 1600, .inl g0)), (ma 37, .inl (y 3, 3, .inl g37)), (ma 38, .inl (y 3, 5, .inl g38)), (ma 39, .inl (y 3, 5, .inl g39)), (ma 40, .inl (y 3, 3, .inl g40)), (ma 41, .inl (y 3, 3, .inl g41)), (ma 50, .inl (y 0, 3200, .inl g50)), (ma 52, .inl (y 0, 1700, .inl zw))]) [7, 8, 0, 1, 2, 6, 3, 4, 5] rfl (by decide) ?_
                refine j_locs (lv' := [(1, .int (nI mz)), (0, .ref mo)]) [3, 4] rfl ?_
                have hz1 := bz_e c778
                have hz0 := bz_le u942.2.1
                have hz2 : bz1 u942.2.1 = 0 ∨ az + 1 ≤ u942.1 := by
                  by_cases e : u942.2.1 = 0
                  · right; have f0 := xh946 e; have g0 := f0.2; omega
                  · exact Or.inl (bz_0 e)
                have xh947 : RS s0 f0 xx u942.2.1 g50 zw cd zn az := rs_mono xh779 (fun _ => rfl)
                exact ih751 (mz, u942.1, u942.2.1, zw, zn, u882.2, u942.2.2, z376) ⟨xh945, (show t2 ≤ u942.1 by omega), (show RS s0 f0 xx u942.2.1 g50 zw cd zn u942.1 from (rs_at xh947 (by omega))), hT_, hS_, hb_⟩ (show 2 * (t3 - u942.1) + bz1 u942.2.1 + mz < 2 * (t3 - az) + bz1 bz + mz by omega)
              · refine j_aload_n (pc := 99) C d_Model_onePart_99 rfl 3 rfl ?_
                refine j_get (pc := 100) C gf_Model_207 7 rfl rfl d_Model_onePart_100 ?_
                refine j_goto (pc := 103) C (tgt := 107) d_Model_onePart_103 (by decide) ?_
                refine j_istore (pc := 107) C (lv' := [(4, .int (nI u929)), (3, .int 1), (2, .int (-1)), (1, .int (nI mz)), (0, .ref mo)]) d_Model_onePart_107 (by decide) rfl ?_
                refine j_iload (pc := 109) C d_Model_onePart_109 0 rfl ?_
                refine j_iconst (pc := 111) C (v := (-1)) d_Model_onePart_111 (by decide) ?_
                refine j_icmp_eqF (pc := 112) C (tgt := 132) d_Model_onePart_112 (by decide) (nI_nm1 (by omega)) ?_
                refine j_aload_n (pc := 115) C d_Model_onePart_115 rfl 4 rfl ?_
                refine j_iload_n (pc := 116) C d_Model_onePart_116 rfl 1 rfl ?_
                refine j_if_eqF (pc := 117) C (tgt := 125) d_Model_onePart_117 (by decide) (by decide) ?_
                refine j_bipush (pc := 120) C (v := 21) d_Model_onePart_120 (by decide) ?_
                refine j_goto (pc := 122) C (tgt := 127) d_Model_onePart_122 (by decide) ?_
                refine j_iload (pc := 127) C d_Model_onePart_127 0 rfl ?_
                refine j_callVv (pc := 129) C (c_M_opens l D y mo ma t1 u929 t3 u882.2 0 z375 i7 i8 i42 i49 cd zn z376 bs i61 i64 i66 t67 i76 i78 zw 21 (nI u929) s0 xx f0 az g50 (by decide) (by omega) xh779 (by decide) hT_ hS_ hb_) kw_Model_353 kv_Model_opens 0 10 rfl rfl ⟨by decide, by decide⟩ ⟨by decide, by decide⟩ (wr := [(ma 37, .inl (y 3, 3, .inl g37)), (ma 38, .inl (y 3, 5, .inl g38)), (ma 39, .inl (y 3, 5, .inl g39)), (ma 41, .inl (y 3, 3, .inl g41)), (ma 50, .inl (y 0, 3200, .inl g50)), (ma 40, .inl (y 3, 3, .inl g40)), (ma 0, .inl (y 0, 1600, .inl g0))]) [7, 5] [0, 1, 2, 3, 4, 6, 8] rfl rfl (by decide) (by decide) (by decide) (As := [.int 21, .int (nI u929)]) (rest := []) rfl (nb rfl) rfl d_Model_onePart_129 (fun u948 hu949 => ?_)
                obtain ⟨xh950, xh951, xh952, xh953, xh954, xh955, xh956⟩ := hu949
                refine j_ws (ws' := [(ma 37, .inl (y 3, 3, .inl g37)), (ma 38, .inl (y 3, 5, .inl g38)), (ma 39, .inl (y 3, 5, .inl g39)), (ma 41, .inl (y 3, 3, .inl g41)), (ma 50, .inl (y 0, 3200, .inl g50)), (ma 40, .inl (y 3, 3, .inl g40)), (ma 0, .inl (y 0, 1600, .inl g0)), MB mo ma (nI t1) (nI u929) (nI t3) u882.2 u948.1 u948.2.1 i7 i8 i42 i49 (nI cd) (nI u948.2.2.1) u948.2.2.2.1 (nI bs) i61 i64 i66 (nI t67) i76 i78, (ma 52, .inl (y 0, 1700, .inl u948.2.2.2.2))]) rfl ?_
                refine j_aload_n (pc := 132) C d_Model_onePart_132 rfl 4 rfl ?_
                refine j_bipush (pc := 133) C (v := 40) d_Model_onePart_133 (by decide) ?_
                refine j_callVv (pc := 135) C (c_M_asksSign l D y mo ma t1 u929 t3 u882.2 u948.1 u948.2.1 i7 i8 i42 i49 (nI cd) (nI u948.2.2.1) u948.2.2.2.1 (nI bs) i61 i64 i66 t67 i76 i78 g0 40 xh931 he (by decide)) kw_Model_271 kv_Model_asksSign 0 10 rfl rfl ⟨by decide, by decide⟩ ⟨by decide, by decide⟩ (wr := [(ma 37, .inl (y 3, 3, .inl g37)), (ma 38, .inl (y 3, 5, .inl g38)), (ma 39, .inl (y 3, 5, .inl g39)), (ma 41, .inl (y 3, 3, .inl g41)), (ma 50, .inl (y 0, 3200, .inl g50)), (ma 40, .inl (y 3, 3, .inl g40)), (ma 52, .inl (y 0, 1700, .inl u948.2.2.2.2))]) [7, 6] [0, 1, 2, 3, 4, 5, 8] rfl rfl (by decide) (by decide) (by decide) (As := [.int 40]) (rest := []) rfl (nb rfl) rfl d_Model_onePart_135 (fun u957 hu958 => ?_)
                obtain ⟨xh959, xh960, xh961⟩ := hu958
                refine j_ws (ws' := [(ma 37, .inl (y 3, 3, .inl g37)), (ma 38, .inl (y 3, 5, .inl g38)), (ma 39, .inl (y 3, 5, .inl g39)), (ma 41, .inl (y 3, 3, .inl g41)), (ma 50, .inl (y 0, 3200, .inl g50)), (ma 40, .inl (y 3, 3, .inl g40)), (ma 52, .inl (y 0, 1700, .inl u948.2.2.2.2)), MB mo ma (nI t1) (nI u957.1) (nI t3) u882.2 u957.2.1 u957.2.2 i7 i8 i42 i49 (nI cd) (nI u948.2.2.1) u948.2.2.2.1 (nI bs) i61 i64 i66 (nI t67) i76 i78, (ma 0, .inl (y 0, 1600, .inl g0))]) rfl ?_
                refine j_goto (pc := 138) C (tgt := 143) d_Model_onePart_138 (by decide) ?_
                refine j_goto (pc := 143) C (tgt := 2) d_Model_onePart_143 (by decide) ?_
                refine j_sub (ws' := [MB mo ma (nI t1) (nI u957.1) (nI t3) u882.2 u957.2.1 u957.2.2 i7 i8 i42 i49 (nI cd) (nI u948.2.2.1) u948.2.2.2.1 (nI bs) i61 i64 i66 (nI t67) i76 i78, (ma 0, .inl (y 0, 1600, .inl g0)), (ma 37, .inl (y 3, 3, .inl g37)), (ma 38, .inl (y 3, 5, .inl g38)), (ma 39, .inl (y 3, 5, .inl g39)), (ma 40, .inl (y 3, 3, .inl g40)), (ma 41, .inl (y 3, 3, .inl g41)), (ma 50, .inl (y 0, 3200, .inl g50)), (ma 52, .inl (y 0, 1700, .inl u948.2.2.2.2))]) [7, 8, 0, 1, 2, 5, 3, 4, 6] rfl (by decide) ?_
                refine j_locs (lv' := [(1, .int (nI mz)), (0, .ref mo)]) [3, 4] rfl ?_
                have hz1 := bz_e c778
                have hz0 := bz_le u957.2.1
                have hz2 : bz1 u957.2.1 = 0 ∨ az + 1 ≤ u957.1 := by
                  by_cases e : u957.2.1 = 0
                  · right; have f0 := xh961 e; have g0 := f0.2; have f1 := xh952 f0.1; omega
                  · exact Or.inl (bz_0 e)
                have xh962 : RS s0 f0 xx u957.2.1 g50 u948.2.2.2.2 cd u948.2.2.1 (az + 1) := rs_mono xh953 (fun e => by have e0 := (xh961 e).1; exact e0)
                exact ih751 (mz, u957.1, u957.2.1, u948.2.2.2.2, u948.2.2.1, u882.2, u957.2.2, u948.2.2.2.1) ⟨xh960, (show t2 ≤ u957.1 by omega), (show RS s0 f0 xx u957.2.1 g50 u948.2.2.2.2 cd u948.2.2.1 u957.1 from (rs_at xh962 (by omega))), xh955, xh956, (show bs ≤ u948.2.2.1 by omega)⟩ (show 2 * (t3 - u957.1) + bz1 u957.2.1 + mz < 2 * (t3 - az) + bz1 bz + mz by omega)
      · refine j_istore_n (pc := 17) C (lv' := [(2, .int r780), (1, .int (nI mz)), (0, .ref mo)]) d_Model_onePart_17 rfl (by decide) rfl ?_
        refine j_iload_n (pc := 18) C d_Model_onePart_18 rfl 0 rfl ?_
        refine j_bipush (pc := 19) C (v := 40) d_Model_onePart_19 (by decide) ?_
        refine j_icmp_ne (pc := 21) C (tgt := 47) d_Model_onePart_21 (by decide) (fun c963 => ?_) (fun c963 => ?_)
        · refine j_aload_n (pc := 47) C d_Model_onePart_47 rfl 2 rfl ?_
          refine j_aload_n (pc := 48) C d_Model_onePart_48 rfl 2 rfl ?_
          refine j_get (pc := 49) C gf_Model_111 7 rfl rfl d_Model_onePart_49 ?_
          refine j_callVi (pc := 52) C (c_M_isHere_3 l D y mo (ma 40) ma t1 u781 t3 z374 0 z375 i7 i8 i42 i49 (nI cd) (nI zn) z376 (nI bs) i61 i64 i66 t67 i76 i78 g0 g40 xh783 he) kw_Model_224 kv_Model_isHere 0 10 rfl rfl ⟨by decide, by decide⟩ ⟨by decide, by decide⟩ (wr := [(ma 37, .inl (y 3, 3, .inl g37)), (ma 38, .inl (y 3, 5, .inl g38)), (ma 39, .inl (y 3, 5, .inl g39)), (ma 41, .inl (y 3, 3, .inl g41)), (ma 50, .inl (y 0, 3200, .inl g50)), (ma 52, .inl (y 0, 1700, .inl zw))]) [7, 8, 3] [0, 1, 2, 4, 5, 6] rfl rfl (by decide) (by decide) (by decide) (As := [.ref (ma 40)]) (rest := []) rfl (nb rfl) rfl d_Model_onePart_52 (fun r964 u965 hr964 => ?_)
          refine j_ws (ws' := [(ma 37, .inl (y 3, 3, .inl g37)), (ma 38, .inl (y 3, 5, .inl g38)), (ma 39, .inl (y 3, 5, .inl g39)), (ma 41, .inl (y 3, 3, .inl g41)), (ma 50, .inl (y 0, 3200, .inl g50)), (ma 52, .inl (y 0, 1700, .inl zw)), MB mo ma (nI t1) (nI u965) (nI t3) z374 0 z375 i7 i8 i42 i49 (nI cd) (nI zn) z376 (nI bs) i61 i64 i66 (nI t67) i76 i78, (ma 0, .inl (y 0, 1600, .inl g0)), (ma 40, .inl (y 3, 3, .inl g40))]) rfl ?_
          obtain ⟨xh966, xh967, xh968⟩ := hr964
          rcases xh968 with rfl | ⟨rfl, xh969⟩
          · refine j_if_neF (pc := 55) C (tgt := 69) d_Model_onePart_55 (by decide) (by decide) ?_
            refine j_aload_n (pc := 58) C d_Model_onePart_58 rfl 2 rfl ?_
            refine j_aload_n (pc := 59) C d_Model_onePart_59 rfl 2 rfl ?_
            refine j_get (pc := 60) C gf_Model_114 6 rfl rfl d_Model_onePart_60 ?_
            refine j_callVi (pc := 63) C (c_M_isHere_3 l D y mo (ma 41) ma t1 u965 t3 z374 0 z375 i7 i8 i42 i49 (nI cd) (nI zn) z376 (nI bs) i61 i64 i66 t67 i76 i78 g0 g41 xh967 he) kw_Model_224 kv_Model_isHere 0 10 rfl rfl ⟨by decide, by decide⟩ ⟨by decide, by decide⟩ (wr := [(ma 37, .inl (y 3, 3, .inl g37)), (ma 38, .inl (y 3, 5, .inl g38)), (ma 39, .inl (y 3, 5, .inl g39)), (ma 50, .inl (y 0, 3200, .inl g50)), (ma 52, .inl (y 0, 1700, .inl zw)), (ma 40, .inl (y 3, 3, .inl g40))]) [6, 7, 3] [0, 1, 2, 4, 5, 8] rfl rfl (by decide) (by decide) (by decide) (As := [.ref (ma 41)]) (rest := []) rfl (nb rfl) rfl d_Model_onePart_63 (fun r970 u971 hr970 => ?_)
            refine j_ws (ws' := [(ma 37, .inl (y 3, 3, .inl g37)), (ma 38, .inl (y 3, 5, .inl g38)), (ma 39, .inl (y 3, 5, .inl g39)), (ma 50, .inl (y 0, 3200, .inl g50)), (ma 52, .inl (y 0, 1700, .inl zw)), (ma 40, .inl (y 3, 3, .inl g40)), MB mo ma (nI t1) (nI u971) (nI t3) z374 0 z375 i7 i8 i42 i49 (nI cd) (nI zn) z376 (nI bs) i61 i64 i66 (nI t67) i76 i78, (ma 0, .inl (y 0, 1600, .inl g0)), (ma 41, .inl (y 3, 3, .inl g41))]) rfl ?_
            obtain ⟨xh972, xh973, xh974⟩ := hr970
            rcases xh974 with rfl | ⟨rfl, xh975⟩
            · refine j_if_eqT (pc := 66) C (tgt := 141) d_Model_onePart_66 (by decide) (by decide) ?_
              refine j_iconst (pc := 141) C (v := 0) d_Model_onePart_141 (by decide) ?_
              refine j_istore_n (pc := 142) C (lv' := [(1, .int 0), (2, .int r780), (0, .ref mo)]) d_Model_onePart_142 rfl (by decide) rfl ?_
              refine j_goto (pc := 143) C (tgt := 2) d_Model_onePart_143 (by decide) ?_
              refine j_sub (ws' := [MB mo ma (nI t1) (nI u971) (nI t3) z374 0 z375 i7 i8 i42 i49 (nI cd) (nI zn) z376 (nI bs) i61 i64 i66 (nI t67) i76 i78, (ma 0, .inl (y 0, 1600, .inl g0)), (ma 37, .inl (y 3, 3, .inl g37)), (ma 38, .inl (y 3, 5, .inl g38)), (ma 39, .inl (y 3, 5, .inl g39)), (ma 40, .inl (y 3, 3, .inl g40)), (ma 41, .inl (y 3, 3, .inl g41)), (ma 50, .inl (y 0, 3200, .inl g50)), (ma 52, .inl (y 0, 1700, .inl zw))]) [6, 7, 0, 1, 2, 5, 8, 3, 4] rfl (by decide) ?_
              refine j_locs (lv' := [(1, .int 0), (0, .ref mo)]) [0, 2] rfl ?_
              have hz1 := bz_e c778
              have hz0 := bz_1
              exact ih751 (0, u971, 0, zw, zn, z374, z375, z376) ⟨xh973, (show t2 ≤ u971 by omega), (show RS s0 f0 xx 0 g50 zw cd zn u971 from (rs_at xh779 (by omega))), hT_, hS_, hb_⟩ (show 2 * (t3 - u971) + bz1 0 + 0 < 2 * (t3 - az) + bz1 bz + mz by omega)
            · refine j_if_eqF (pc := 66) C (tgt := 141) d_Model_onePart_66 (by decide) (by decide) ?_
              refine j_aload_n (pc := 69) C d_Model_onePart_69 rfl 2 rfl ?_
              refine j_aload_n (pc := 70) C d_Model_onePart_70 rfl 2 rfl ?_
              refine j_get (pc := 71) C gf_Model_111 6 rfl rfl d_Model_onePart_71 ?_
              refine j_callVi (pc := 74) C (c_M_takes_3 l D y mo (ma 40) ma t1 u971 t3 z374 0 z375 i7 i8 i42 i49 (nI cd) (nI zn) z376 (nI bs) i61 i64 i66 t67 i76 i78 g0 g40 xh973 he) kw_Model_228 kv_Model_takes 0 10 rfl rfl ⟨by decide, by decide⟩ ⟨by decide, by decide⟩ (wr := [(ma 37, .inl (y 3, 3, .inl g37)), (ma 38, .inl (y 3, 5, .inl g38)), (ma 39, .inl (y 3, 5, .inl g39)), (ma 50, .inl (y 0, 3200, .inl g50)), (ma 52, .inl (y 0, 1700, .inl zw)), (ma 41, .inl (y 3, 3, .inl g41))]) [6, 7, 5] [0, 1, 2, 3, 4, 8] rfl rfl (by decide) (by decide) (by decide) (As := [.ref (ma 40)]) (rest := []) rfl (nb rfl) rfl d_Model_onePart_74 (fun r976 u977 hr976 => ?_)
              refine j_ws (ws' := [(ma 37, .inl (y 3, 3, .inl g37)), (ma 38, .inl (y 3, 5, .inl g38)), (ma 39, .inl (y 3, 5, .inl g39)), (ma 50, .inl (y 0, 3200, .inl g50)), (ma 52, .inl (y 0, 1700, .inl zw)), (ma 41, .inl (y 3, 3, .inl g41)), MB mo ma (nI t1) (nI u977.1) (nI t3) u977.2 0 z375 i7 i8 i42 i49 (nI cd) (nI zn) z376 (nI bs) i61 i64 i66 (nI t67) i76 i78, (ma 0, .inl (y 0, 1600, .inl g0)), (ma 40, .inl (y 3, 3, .inl g40))]) rfl ?_
              obtain ⟨xh978, xh979, xh980⟩ := hr976
              rcases xh980 with rfl | ⟨rfl, xh981⟩
              · refine j_istore_n (pc := 77) C (lv' := [(3, .int 0), (2, .int r780), (1, .int (nI mz)), (0, .ref mo)]) d_Model_onePart_77 rfl (by decide) rfl ?_
                refine j_iload_n (pc := 78) C d_Model_onePart_78 rfl 0 rfl ?_
                refine j_if_neF (pc := 79) C (tgt := 90) d_Model_onePart_79 (by decide) (by decide) ?_
                refine j_aload_n (pc := 82) C d_Model_onePart_82 rfl 3 rfl ?_
                refine j_aload_n (pc := 83) C d_Model_onePart_83 rfl 3 rfl ?_
                refine j_get (pc := 84) C gf_Model_114 6 rfl rfl d_Model_onePart_84 ?_
                refine j_callVv (pc := 87) C (c_M_asks_3 l D y mo (ma 41) ma t1 u977.1 t3 u977.2 0 z375 i7 i8 i42 i49 (nI cd) (nI zn) z376 (nI bs) i61 i64 i66 t67 i76 i78 g0 g41 xh979 he) kw_Model_263 kv_Model_asks 0 10 rfl rfl ⟨by decide, by decide⟩ ⟨by decide, by decide⟩ (wr := [(ma 37, .inl (y 3, 3, .inl g37)), (ma 38, .inl (y 3, 5, .inl g38)), (ma 39, .inl (y 3, 5, .inl g39)), (ma 50, .inl (y 0, 3200, .inl g50)), (ma 52, .inl (y 0, 1700, .inl zw)), (ma 40, .inl (y 3, 3, .inl g40))]) [6, 7, 5] [0, 1, 2, 3, 4, 8] rfl rfl (by decide) (by decide) (by decide) (As := [.ref (ma 41)]) (rest := []) rfl (nb rfl) rfl d_Model_onePart_87 (fun u982 hu983 => ?_)
                obtain ⟨xh984, xh985, xh986⟩ := hu983
                refine j_ws (ws' := [(ma 37, .inl (y 3, 3, .inl g37)), (ma 38, .inl (y 3, 5, .inl g38)), (ma 39, .inl (y 3, 5, .inl g39)), (ma 50, .inl (y 0, 3200, .inl g50)), (ma 52, .inl (y 0, 1700, .inl zw)), (ma 40, .inl (y 3, 3, .inl g40)), MB mo ma (nI t1) (nI u982.1) (nI t3) u982.2.1 u982.2.2.1 u982.2.2.2 i7 i8 i42 i49 (nI cd) (nI zn) z376 (nI bs) i61 i64 i66 (nI t67) i76 i78, (ma 0, .inl (y 0, 1600, .inl g0)), (ma 41, .inl (y 3, 3, .inl g41))]) rfl ?_
                refine j_aload_n (pc := 90) C d_Model_onePart_90 rfl 3 rfl ?_
                refine j_callVi (pc := 91) C (c_M_look l D y mo ma t1 u982.1 t3 u982.2.1 u982.2.2.1 u982.2.2.2 i7 i8 i42 i49 (nI cd) (nI zn) z376 (nI bs) i61 i64 i66 t67 i76 i78 g0 xh985 he) kw_Model_213 kv_Model_look 0 10 rfl rfl ⟨by decide, by decide⟩ ⟨by decide, by decide⟩ (wr := [(ma 37, .inl (y 3, 3, .inl g37)), (ma 38, .inl (y 3, 5, .inl g38)), (ma 39, .inl (y 3, 5, .inl g39)), (ma 50, .inl (y 0, 3200, .inl g50)), (ma 52, .inl (y 0, 1700, .inl zw)), (ma 40, .inl (y 3, 3, .inl g40)), (ma 41, .inl (y 3, 3, .inl g41))]) [6, 7] [0, 1, 2, 3, 4, 5, 8] rfl rfl (by decide) (by decide) (by decide) (As := []) (rest := []) rfl (nb rfl) rfl d_Model_onePart_91 (fun r987 u988 hr987 => ?_)
                refine j_ws (ws' := [(ma 37, .inl (y 3, 3, .inl g37)), (ma 38, .inl (y 3, 5, .inl g38)), (ma 39, .inl (y 3, 5, .inl g39)), (ma 50, .inl (y 0, 3200, .inl g50)), (ma 52, .inl (y 0, 1700, .inl zw)), (ma 40, .inl (y 3, 3, .inl g40)), (ma 41, .inl (y 3, 3, .inl g41)), MB mo ma (nI t1) (nI u988) (nI t3) u982.2.1 u982.2.2.1 u982.2.2.2 i7 i8 i42 i49 (nI cd) (nI zn) z376 (nI bs) i61 i64 i66 (nI t67) i76 i78, (ma 0, .inl (y 0, 1600, .inl g0))]) rfl ?_
                obtain ⟨xh989, xh990, xh991⟩ := hr987
                rcases xh991 with rfl | ⟨xh992, e993⟩
                · refine j_bipush (pc := 94) C (v := 40) d_Model_onePart_94 (by decide) ?_
                  refine j_icmp_neT (pc := 96) C (tgt := 106) d_Model_onePart_96 (by decide) (by decide) ?_
                  refine j_iconst (pc := 106) C (v := (-1)) d_Model_onePart_106 (by decide) ?_
                  refine j_istore (pc := 107) C (lv' := [(4, .int (-1)), (3, .int 0), (2, .int r780), (1, .int (nI mz)), (0, .ref mo)]) d_Model_onePart_107 (by decide) rfl ?_
                  refine j_iload (pc := 109) C d_Model_onePart_109 0 rfl ?_
                  refine j_iconst (pc := 111) C (v := (-1)) d_Model_onePart_111 (by decide) ?_
                  refine j_icmp_eqT (pc := 112) C (tgt := 132) d_Model_onePart_112 (by decide) (by decide) ?_
                  refine j_aload_n (pc := 132) C d_Model_onePart_132 rfl 4 rfl ?_
                  refine j_bipush (pc := 133) C (v := 40) d_Model_onePart_133 (by decide) ?_
                  refine j_callVv (pc := 135) C (c_M_asksSign l D y mo ma t1 u988 t3 u982.2.1 u982.2.2.1 u982.2.2.2 i7 i8 i42 i49 (nI cd) (nI zn) z376 (nI bs) i61 i64 i66 t67 i76 i78 g0 40 xh990 he (by decide)) kw_Model_271 kv_Model_asksSign 0 10 rfl rfl ⟨by decide, by decide⟩ ⟨by decide, by decide⟩ (wr := [(ma 37, .inl (y 3, 3, .inl g37)), (ma 38, .inl (y 3, 5, .inl g38)), (ma 39, .inl (y 3, 5, .inl g39)), (ma 50, .inl (y 0, 3200, .inl g50)), (ma 52, .inl (y 0, 1700, .inl zw)), (ma 40, .inl (y 3, 3, .inl g40)), (ma 41, .inl (y 3, 3, .inl g41))]) [7, 8] [0, 1, 2, 3, 4, 5, 6] rfl rfl (by decide) (by decide) (by decide) (As := [.int 40]) (rest := []) rfl (nb rfl) rfl d_Model_onePart_135 (fun u994 hu995 => ?_)
                  obtain ⟨xh996, xh997, xh998⟩ := hu995
                  refine j_ws (ws' := [(ma 37, .inl (y 3, 3, .inl g37)), (ma 38, .inl (y 3, 5, .inl g38)), (ma 39, .inl (y 3, 5, .inl g39)), (ma 50, .inl (y 0, 3200, .inl g50)), (ma 52, .inl (y 0, 1700, .inl zw)), (ma 40, .inl (y 3, 3, .inl g40)), (ma 41, .inl (y 3, 3, .inl g41)), MB mo ma (nI t1) (nI u994.1) (nI t3) u982.2.1 u994.2.1 u994.2.2 i7 i8 i42 i49 (nI cd) (nI zn) z376 (nI bs) i61 i64 i66 (nI t67) i76 i78, (ma 0, .inl (y 0, 1600, .inl g0))]) rfl ?_
                  refine j_goto (pc := 138) C (tgt := 143) d_Model_onePart_138 (by decide) ?_
                  refine j_goto (pc := 143) C (tgt := 2) d_Model_onePart_143 (by decide) ?_
                  refine j_sub (ws' := [MB mo ma (nI t1) (nI u994.1) (nI t3) u982.2.1 u994.2.1 u994.2.2 i7 i8 i42 i49 (nI cd) (nI zn) z376 (nI bs) i61 i64 i66 (nI t67) i76 i78, (ma 0, .inl (y 0, 1600, .inl g0)), (ma 37, .inl (y 3, 3, .inl g37)), (ma 38, .inl (y 3, 5, .inl g38)), (ma 39, .inl (y 3, 5, .inl g39)), (ma 40, .inl (y 3, 3, .inl g40)), (ma 41, .inl (y 3, 3, .inl g41)), (ma 50, .inl (y 0, 3200, .inl g50)), (ma 52, .inl (y 0, 1700, .inl zw))]) [7, 8, 0, 1, 2, 5, 6, 3, 4] rfl (by decide) ?_
                  refine j_locs (lv' := [(1, .int (nI mz)), (0, .ref mo)]) [3, 4] rfl ?_
                  have hz1 := bz_e c778
                  have hz0 := bz_le u994.2.1
                  have hz2 : bz1 u994.2.1 = 0 ∨ az + 1 ≤ u994.1 := by
                    by_cases e : u994.2.1 = 0
                    · right; have f0 := xh998 e; have g0 := f0.2; have f1 := xh986 f0.1; have g1 := f1.2; omega
                    · exact Or.inl (bz_0 e)
                  have xh999 : RS s0 f0 xx u994.2.1 g50 zw cd zn az := rs_mono xh779 (fun _ => rfl)
                  exact ih751 (mz, u994.1, u994.2.1, zw, zn, u982.2.1, u994.2.2, z376) ⟨xh997, (show t2 ≤ u994.1 by omega), (show RS s0 f0 xx u994.2.1 g50 zw cd zn u994.1 from (rs_at xh999 (by omega))), hT_, hS_, hb_⟩ (show 2 * (t3 - u994.1) + bz1 u994.2.1 + mz < 2 * (t3 - az) + bz1 bz + mz by omega)
                · refine j_bipush (pc := 94) C (v := 40) d_Model_onePart_94 (by decide) ?_
                  refine j_icmp_ne (pc := 96) C (tgt := 106) d_Model_onePart_96 (by decide) (fun c1000 => ?_) (fun c1000 => ?_)
                  · refine j_iconst (pc := 106) C (v := (-1)) d_Model_onePart_106 (by decide) ?_
                    refine j_istore (pc := 107) C (lv' := [(4, .int (-1)), (3, .int 0), (2, .int r780), (1, .int (nI mz)), (0, .ref mo)]) d_Model_onePart_107 (by decide) rfl ?_
                    refine j_iload (pc := 109) C d_Model_onePart_109 0 rfl ?_
                    refine j_iconst (pc := 111) C (v := (-1)) d_Model_onePart_111 (by decide) ?_
                    refine j_icmp_eqT (pc := 112) C (tgt := 132) d_Model_onePart_112 (by decide) (by decide) ?_
                    refine j_aload_n (pc := 132) C d_Model_onePart_132 rfl 4 rfl ?_
                    refine j_bipush (pc := 133) C (v := 40) d_Model_onePart_133 (by decide) ?_
                    refine j_callVv (pc := 135) C (c_M_asksSign l D y mo ma t1 u988 t3 u982.2.1 u982.2.2.1 u982.2.2.2 i7 i8 i42 i49 (nI cd) (nI zn) z376 (nI bs) i61 i64 i66 t67 i76 i78 g0 40 xh990 he (by decide)) kw_Model_271 kv_Model_asksSign 0 10 rfl rfl ⟨by decide, by decide⟩ ⟨by decide, by decide⟩ (wr := [(ma 37, .inl (y 3, 3, .inl g37)), (ma 38, .inl (y 3, 5, .inl g38)), (ma 39, .inl (y 3, 5, .inl g39)), (ma 50, .inl (y 0, 3200, .inl g50)), (ma 52, .inl (y 0, 1700, .inl zw)), (ma 40, .inl (y 3, 3, .inl g40)), (ma 41, .inl (y 3, 3, .inl g41))]) [7, 8] [0, 1, 2, 3, 4, 5, 6] rfl rfl (by decide) (by decide) (by decide) (As := [.int 40]) (rest := []) rfl (nb rfl) rfl d_Model_onePart_135 (fun u1001 hu1002 => ?_)
                    obtain ⟨xh1003, xh1004, xh1005⟩ := hu1002
                    refine j_ws (ws' := [(ma 37, .inl (y 3, 3, .inl g37)), (ma 38, .inl (y 3, 5, .inl g38)), (ma 39, .inl (y 3, 5, .inl g39)), (ma 50, .inl (y 0, 3200, .inl g50)), (ma 52, .inl (y 0, 1700, .inl zw)), (ma 40, .inl (y 3, 3, .inl g40)), (ma 41, .inl (y 3, 3, .inl g41)), MB mo ma (nI t1) (nI u1001.1) (nI t3) u982.2.1 u1001.2.1 u1001.2.2 i7 i8 i42 i49 (nI cd) (nI zn) z376 (nI bs) i61 i64 i66 (nI t67) i76 i78, (ma 0, .inl (y 0, 1600, .inl g0))]) rfl ?_
                    refine j_goto (pc := 138) C (tgt := 143) d_Model_onePart_138 (by decide) ?_
                    refine j_goto (pc := 143) C (tgt := 2) d_Model_onePart_143 (by decide) ?_
                    refine j_sub (ws' := [MB mo ma (nI t1) (nI u1001.1) (nI t3) u982.2.1 u1001.2.1 u1001.2.2 i7 i8 i42 i49 (nI cd) (nI zn) z376 (nI bs) i61 i64 i66 (nI t67) i76 i78, (ma 0, .inl (y 0, 1600, .inl g0)), (ma 37, .inl (y 3, 3, .inl g37)), (ma 38, .inl (y 3, 5, .inl g38)), (ma 39, .inl (y 3, 5, .inl g39)), (ma 40, .inl (y 3, 3, .inl g40)), (ma 41, .inl (y 3, 3, .inl g41)), (ma 50, .inl (y 0, 3200, .inl g50)), (ma 52, .inl (y 0, 1700, .inl zw))]) [7, 8, 0, 1, 2, 5, 6, 3, 4] rfl (by decide) ?_
                    refine j_locs (lv' := [(1, .int (nI mz)), (0, .ref mo)]) [3, 4] rfl ?_
                    have hz1 := bz_e c778
                    have hz0 := bz_le u1001.2.1
                    have hz2 : bz1 u1001.2.1 = 0 ∨ az + 1 ≤ u1001.1 := by
                      by_cases e : u1001.2.1 = 0
                      · right; have f0 := xh1005 e; have g0 := f0.2; have f1 := xh986 f0.1; have g1 := f1.2; omega
                      · exact Or.inl (bz_0 e)
                    have xh1006 : RS s0 f0 xx u1001.2.1 g50 zw cd zn az := rs_mono xh779 (fun _ => rfl)
                    exact ih751 (mz, u1001.1, u1001.2.1, zw, zn, u982.2.1, u1001.2.2, z376) ⟨xh1004, (show t2 ≤ u1001.1 by omega), (show RS s0 f0 xx u1001.2.1 g50 zw cd zn u1001.1 from (rs_at xh1006 (by omega))), hT_, hS_, hb_⟩ (show 2 * (t3 - u1001.1) + bz1 u1001.2.1 + mz < 2 * (t3 - az) + bz1 bz + mz by omega)
                  · refine j_aload_n (pc := 99) C d_Model_onePart_99 rfl 3 rfl ?_
                    refine j_get (pc := 100) C gf_Model_207 7 rfl rfl d_Model_onePart_100 ?_
                    refine j_goto (pc := 103) C (tgt := 107) d_Model_onePart_103 (by decide) ?_
                    refine j_istore (pc := 107) C (lv' := [(4, .int (nI u988)), (3, .int 0), (2, .int r780), (1, .int (nI mz)), (0, .ref mo)]) d_Model_onePart_107 (by decide) rfl ?_
                    refine j_iload (pc := 109) C d_Model_onePart_109 0 rfl ?_
                    refine j_iconst (pc := 111) C (v := (-1)) d_Model_onePart_111 (by decide) ?_
                    refine j_icmp_eqF (pc := 112) C (tgt := 132) d_Model_onePart_112 (by decide) (nI_nm1 (by omega)) ?_
                    refine j_aload_n (pc := 115) C d_Model_onePart_115 rfl 4 rfl ?_
                    refine j_iload_n (pc := 116) C d_Model_onePart_116 rfl 1 rfl ?_
                    refine j_if_eqT (pc := 117) C (tgt := 125) d_Model_onePart_117 (by decide) (by decide) ?_
                    refine j_bipush (pc := 125) C (v := 22) d_Model_onePart_125 (by decide) ?_
                    refine j_iload (pc := 127) C d_Model_onePart_127 0 rfl ?_
                    have xh1007 : RS s0 f0 xx u982.2.2.1 g50 zw cd zn az := rs_mono xh779 (fun _ => rfl)
                    refine j_callVv (pc := 129) C (c_M_opens l D y mo ma t1 u988 t3 u982.2.1 u982.2.2.1 u982.2.2.2 i7 i8 i42 i49 cd zn z376 bs i61 i64 i66 t67 i76 i78 zw 22 (nI u988) s0 xx f0 az g50 (by decide) (by omega) xh1007 (by decide) hT_ hS_ hb_) kw_Model_353 kv_Model_opens 0 10 rfl rfl ⟨by decide, by decide⟩ ⟨by decide, by decide⟩ (wr := [(ma 37, .inl (y 3, 3, .inl g37)), (ma 38, .inl (y 3, 5, .inl g38)), (ma 39, .inl (y 3, 5, .inl g39)), (ma 50, .inl (y 0, 3200, .inl g50)), (ma 40, .inl (y 3, 3, .inl g40)), (ma 41, .inl (y 3, 3, .inl g41)), (ma 0, .inl (y 0, 1600, .inl g0))]) [7, 4] [0, 1, 2, 3, 5, 6, 8] rfl rfl (by decide) (by decide) (by decide) (As := [.int 22, .int (nI u988)]) (rest := []) rfl (nb rfl) rfl d_Model_onePart_129 (fun u1008 hu1009 => ?_)
                    obtain ⟨xh1010, xh1011, xh1012, xh1013, xh1014, xh1015, xh1016⟩ := hu1009
                    refine j_ws (ws' := [(ma 37, .inl (y 3, 3, .inl g37)), (ma 38, .inl (y 3, 5, .inl g38)), (ma 39, .inl (y 3, 5, .inl g39)), (ma 50, .inl (y 0, 3200, .inl g50)), (ma 40, .inl (y 3, 3, .inl g40)), (ma 41, .inl (y 3, 3, .inl g41)), (ma 0, .inl (y 0, 1600, .inl g0)), MB mo ma (nI t1) (nI u988) (nI t3) u982.2.1 u1008.1 u1008.2.1 i7 i8 i42 i49 (nI cd) (nI u1008.2.2.1) u1008.2.2.2.1 (nI bs) i61 i64 i66 (nI t67) i76 i78, (ma 52, .inl (y 0, 1700, .inl u1008.2.2.2.2))]) rfl ?_
                    refine j_aload_n (pc := 132) C d_Model_onePart_132 rfl 4 rfl ?_
                    refine j_bipush (pc := 133) C (v := 40) d_Model_onePart_133 (by decide) ?_
                    refine j_callVv (pc := 135) C (c_M_asksSign l D y mo ma t1 u988 t3 u982.2.1 u1008.1 u1008.2.1 i7 i8 i42 i49 (nI cd) (nI u1008.2.2.1) u1008.2.2.2.1 (nI bs) i61 i64 i66 t67 i76 i78 g0 40 xh990 he (by decide)) kw_Model_271 kv_Model_asksSign 0 10 rfl rfl ⟨by decide, by decide⟩ ⟨by decide, by decide⟩ (wr := [(ma 37, .inl (y 3, 3, .inl g37)), (ma 38, .inl (y 3, 5, .inl g38)), (ma 39, .inl (y 3, 5, .inl g39)), (ma 50, .inl (y 0, 3200, .inl g50)), (ma 40, .inl (y 3, 3, .inl g40)), (ma 41, .inl (y 3, 3, .inl g41)), (ma 52, .inl (y 0, 1700, .inl u1008.2.2.2.2))]) [7, 6] [0, 1, 2, 3, 4, 5, 8] rfl rfl (by decide) (by decide) (by decide) (As := [.int 40]) (rest := []) rfl (nb rfl) rfl d_Model_onePart_135 (fun u1017 hu1018 => ?_)
                    obtain ⟨xh1019, xh1020, xh1021⟩ := hu1018
                    refine j_ws (ws' := [(ma 37, .inl (y 3, 3, .inl g37)), (ma 38, .inl (y 3, 5, .inl g38)), (ma 39, .inl (y 3, 5, .inl g39)), (ma 50, .inl (y 0, 3200, .inl g50)), (ma 40, .inl (y 3, 3, .inl g40)), (ma 41, .inl (y 3, 3, .inl g41)), (ma 52, .inl (y 0, 1700, .inl u1008.2.2.2.2)), MB mo ma (nI t1) (nI u1017.1) (nI t3) u982.2.1 u1017.2.1 u1017.2.2 i7 i8 i42 i49 (nI cd) (nI u1008.2.2.1) u1008.2.2.2.1 (nI bs) i61 i64 i66 (nI t67) i76 i78, (ma 0, .inl (y 0, 1600, .inl g0))]) rfl ?_
                    refine j_goto (pc := 138) C (tgt := 143) d_Model_onePart_138 (by decide) ?_
                    refine j_goto (pc := 143) C (tgt := 2) d_Model_onePart_143 (by decide) ?_
                    refine j_sub (ws' := [MB mo ma (nI t1) (nI u1017.1) (nI t3) u982.2.1 u1017.2.1 u1017.2.2 i7 i8 i42 i49 (nI cd) (nI u1008.2.2.1) u1008.2.2.2.1 (nI bs) i61 i64 i66 (nI t67) i76 i78, (ma 0, .inl (y 0, 1600, .inl g0)), (ma 37, .inl (y 3, 3, .inl g37)), (ma 38, .inl (y 3, 5, .inl g38)), (ma 39, .inl (y 3, 5, .inl g39)), (ma 40, .inl (y 3, 3, .inl g40)), (ma 41, .inl (y 3, 3, .inl g41)), (ma 50, .inl (y 0, 3200, .inl g50)), (ma 52, .inl (y 0, 1700, .inl u1008.2.2.2.2))]) [7, 8, 0, 1, 2, 4, 5, 3, 6] rfl (by decide) ?_
                    refine j_locs (lv' := [(1, .int (nI mz)), (0, .ref mo)]) [3, 4] rfl ?_
                    have hz1 := bz_e c778
                    have hz0 := bz_le u1017.2.1
                    have hz2 : bz1 u1017.2.1 = 0 ∨ az + 1 ≤ u1017.1 := by
                      by_cases e : u1017.2.1 = 0
                      · right; have f0 := xh1021 e; have g0 := f0.2; have f1 := xh1012 f0.1; have f2 := xh986 f1; have g2 := f2.2; omega
                      · exact Or.inl (bz_0 e)
                    have xh1022 : RS s0 f0 xx u1017.2.1 g50 u1008.2.2.2.2 cd u1008.2.2.1 (az + 1) := rs_mono xh1013 (fun e => by have e0 := (xh1021 e).1; exact e0)
                    exact ih751 (mz, u1017.1, u1017.2.1, u1008.2.2.2.2, u1008.2.2.1, u982.2.1, u1017.2.2, u1008.2.2.2.1) ⟨xh1020, (show t2 ≤ u1017.1 by omega), (show RS s0 f0 xx u1017.2.1 g50 u1008.2.2.2.2 cd u1008.2.2.1 u1017.1 from (rs_at xh1022 (by omega))), xh1015, xh1016, (show bs ≤ u1008.2.2.1 by omega)⟩ (show 2 * (t3 - u1017.1) + bz1 u1017.2.1 + mz < 2 * (t3 - az) + bz1 bz + mz by omega)
              · refine j_istore_n (pc := 77) C (lv' := [(3, .int 1), (2, .int r780), (1, .int (nI mz)), (0, .ref mo)]) d_Model_onePart_77 rfl (by decide) rfl ?_
                refine j_iload_n (pc := 78) C d_Model_onePart_78 rfl 0 rfl ?_
                refine j_if_neT (pc := 79) C (tgt := 90) d_Model_onePart_79 (by decide) (by decide) ?_
                refine j_aload_n (pc := 90) C d_Model_onePart_90 rfl 3 rfl ?_
                refine j_callVi (pc := 91) C (c_M_look l D y mo ma t1 u977.1 t3 u977.2 0 z375 i7 i8 i42 i49 (nI cd) (nI zn) z376 (nI bs) i61 i64 i66 t67 i76 i78 g0 xh979 he) kw_Model_213 kv_Model_look 0 10 rfl rfl ⟨by decide, by decide⟩ ⟨by decide, by decide⟩ (wr := [(ma 37, .inl (y 3, 3, .inl g37)), (ma 38, .inl (y 3, 5, .inl g38)), (ma 39, .inl (y 3, 5, .inl g39)), (ma 50, .inl (y 0, 3200, .inl g50)), (ma 52, .inl (y 0, 1700, .inl zw)), (ma 41, .inl (y 3, 3, .inl g41)), (ma 40, .inl (y 3, 3, .inl g40))]) [6, 7] [0, 1, 2, 3, 4, 5, 8] rfl rfl (by decide) (by decide) (by decide) (As := []) (rest := []) rfl (nb rfl) rfl d_Model_onePart_91 (fun r1023 u1024 hr1023 => ?_)
                refine j_ws (ws' := [(ma 37, .inl (y 3, 3, .inl g37)), (ma 38, .inl (y 3, 5, .inl g38)), (ma 39, .inl (y 3, 5, .inl g39)), (ma 50, .inl (y 0, 3200, .inl g50)), (ma 52, .inl (y 0, 1700, .inl zw)), (ma 41, .inl (y 3, 3, .inl g41)), (ma 40, .inl (y 3, 3, .inl g40)), MB mo ma (nI t1) (nI u1024) (nI t3) u977.2 0 z375 i7 i8 i42 i49 (nI cd) (nI zn) z376 (nI bs) i61 i64 i66 (nI t67) i76 i78, (ma 0, .inl (y 0, 1600, .inl g0))]) rfl ?_
                obtain ⟨xh1025, xh1026, xh1027⟩ := hr1023
                rcases xh1027 with rfl | ⟨xh1028, e1029⟩
                · refine j_bipush (pc := 94) C (v := 40) d_Model_onePart_94 (by decide) ?_
                  refine j_icmp_neT (pc := 96) C (tgt := 106) d_Model_onePart_96 (by decide) (by decide) ?_
                  refine j_iconst (pc := 106) C (v := (-1)) d_Model_onePart_106 (by decide) ?_
                  refine j_istore (pc := 107) C (lv' := [(4, .int (-1)), (3, .int 1), (2, .int r780), (1, .int (nI mz)), (0, .ref mo)]) d_Model_onePart_107 (by decide) rfl ?_
                  refine j_iload (pc := 109) C d_Model_onePart_109 0 rfl ?_
                  refine j_iconst (pc := 111) C (v := (-1)) d_Model_onePart_111 (by decide) ?_
                  refine j_icmp_eqT (pc := 112) C (tgt := 132) d_Model_onePart_112 (by decide) (by decide) ?_
                  refine j_aload_n (pc := 132) C d_Model_onePart_132 rfl 4 rfl ?_
                  refine j_bipush (pc := 133) C (v := 40) d_Model_onePart_133 (by decide) ?_
                  refine j_callVv (pc := 135) C (c_M_asksSign l D y mo ma t1 u1024 t3 u977.2 0 z375 i7 i8 i42 i49 (nI cd) (nI zn) z376 (nI bs) i61 i64 i66 t67 i76 i78 g0 40 xh1026 he (by decide)) kw_Model_271 kv_Model_asksSign 0 10 rfl rfl ⟨by decide, by decide⟩ ⟨by decide, by decide⟩ (wr := [(ma 37, .inl (y 3, 3, .inl g37)), (ma 38, .inl (y 3, 5, .inl g38)), (ma 39, .inl (y 3, 5, .inl g39)), (ma 50, .inl (y 0, 3200, .inl g50)), (ma 52, .inl (y 0, 1700, .inl zw)), (ma 41, .inl (y 3, 3, .inl g41)), (ma 40, .inl (y 3, 3, .inl g40))]) [7, 8] [0, 1, 2, 3, 4, 5, 6] rfl rfl (by decide) (by decide) (by decide) (As := [.int 40]) (rest := []) rfl (nb rfl) rfl d_Model_onePart_135 (fun u1030 hu1031 => ?_)
                  obtain ⟨xh1032, xh1033, xh1034⟩ := hu1031
                  refine j_ws (ws' := [(ma 37, .inl (y 3, 3, .inl g37)), (ma 38, .inl (y 3, 5, .inl g38)), (ma 39, .inl (y 3, 5, .inl g39)), (ma 50, .inl (y 0, 3200, .inl g50)), (ma 52, .inl (y 0, 1700, .inl zw)), (ma 41, .inl (y 3, 3, .inl g41)), (ma 40, .inl (y 3, 3, .inl g40)), MB mo ma (nI t1) (nI u1030.1) (nI t3) u977.2 u1030.2.1 u1030.2.2 i7 i8 i42 i49 (nI cd) (nI zn) z376 (nI bs) i61 i64 i66 (nI t67) i76 i78, (ma 0, .inl (y 0, 1600, .inl g0))]) rfl ?_
                  refine j_goto (pc := 138) C (tgt := 143) d_Model_onePart_138 (by decide) ?_
                  refine j_goto (pc := 143) C (tgt := 2) d_Model_onePart_143 (by decide) ?_
                  refine j_sub (ws' := [MB mo ma (nI t1) (nI u1030.1) (nI t3) u977.2 u1030.2.1 u1030.2.2 i7 i8 i42 i49 (nI cd) (nI zn) z376 (nI bs) i61 i64 i66 (nI t67) i76 i78, (ma 0, .inl (y 0, 1600, .inl g0)), (ma 37, .inl (y 3, 3, .inl g37)), (ma 38, .inl (y 3, 5, .inl g38)), (ma 39, .inl (y 3, 5, .inl g39)), (ma 40, .inl (y 3, 3, .inl g40)), (ma 41, .inl (y 3, 3, .inl g41)), (ma 50, .inl (y 0, 3200, .inl g50)), (ma 52, .inl (y 0, 1700, .inl zw))]) [7, 8, 0, 1, 2, 6, 5, 3, 4] rfl (by decide) ?_
                  refine j_locs (lv' := [(1, .int (nI mz)), (0, .ref mo)]) [3, 4] rfl ?_
                  have hz1 := bz_e c778
                  have hz0 := bz_le u1030.2.1
                  have hz2 : bz1 u1030.2.1 = 0 ∨ az + 1 ≤ u1030.1 := by
                    by_cases e : u1030.2.1 = 0
                    · right; have f0 := xh1034 e; have g0 := f0.2; omega
                    · exact Or.inl (bz_0 e)
                  have xh1035 : RS s0 f0 xx u1030.2.1 g50 zw cd zn az := rs_mono xh779 (fun _ => rfl)
                  exact ih751 (mz, u1030.1, u1030.2.1, zw, zn, u977.2, u1030.2.2, z376) ⟨xh1033, (show t2 ≤ u1030.1 by omega), (show RS s0 f0 xx u1030.2.1 g50 zw cd zn u1030.1 from (rs_at xh1035 (by omega))), hT_, hS_, hb_⟩ (show 2 * (t3 - u1030.1) + bz1 u1030.2.1 + mz < 2 * (t3 - az) + bz1 bz + mz by omega)
                · refine j_bipush (pc := 94) C (v := 40) d_Model_onePart_94 (by decide) ?_
                  refine j_icmp_ne (pc := 96) C (tgt := 106) d_Model_onePart_96 (by decide) (fun c1036 => ?_) (fun c1036 => ?_)
                  · refine j_iconst (pc := 106) C (v := (-1)) d_Model_onePart_106 (by decide) ?_
                    refine j_istore (pc := 107) C (lv' := [(4, .int (-1)), (3, .int 1), (2, .int r780), (1, .int (nI mz)), (0, .ref mo)]) d_Model_onePart_107 (by decide) rfl ?_
                    refine j_iload (pc := 109) C d_Model_onePart_109 0 rfl ?_
                    refine j_iconst (pc := 111) C (v := (-1)) d_Model_onePart_111 (by decide) ?_
                    refine j_icmp_eqT (pc := 112) C (tgt := 132) d_Model_onePart_112 (by decide) (by decide) ?_
                    refine j_aload_n (pc := 132) C d_Model_onePart_132 rfl 4 rfl ?_
                    refine j_bipush (pc := 133) C (v := 40) d_Model_onePart_133 (by decide) ?_
                    refine j_callVv (pc := 135) C (c_M_asksSign l D y mo ma t1 u1024 t3 u977.2 0 z375 i7 i8 i42 i49 (nI cd) (nI zn) z376 (nI bs) i61 i64 i66 t67 i76 i78 g0 40 xh1026 he (by decide)) kw_Model_271 kv_Model_asksSign 0 10 rfl rfl ⟨by decide, by decide⟩ ⟨by decide, by decide⟩ (wr := [(ma 37, .inl (y 3, 3, .inl g37)), (ma 38, .inl (y 3, 5, .inl g38)), (ma 39, .inl (y 3, 5, .inl g39)), (ma 50, .inl (y 0, 3200, .inl g50)), (ma 52, .inl (y 0, 1700, .inl zw)), (ma 41, .inl (y 3, 3, .inl g41)), (ma 40, .inl (y 3, 3, .inl g40))]) [7, 8] [0, 1, 2, 3, 4, 5, 6] rfl rfl (by decide) (by decide) (by decide) (As := [.int 40]) (rest := []) rfl (nb rfl) rfl d_Model_onePart_135 (fun u1037 hu1038 => ?_)
                    obtain ⟨xh1039, xh1040, xh1041⟩ := hu1038
                    refine j_ws (ws' := [(ma 37, .inl (y 3, 3, .inl g37)), (ma 38, .inl (y 3, 5, .inl g38)), (ma 39, .inl (y 3, 5, .inl g39)), (ma 50, .inl (y 0, 3200, .inl g50)), (ma 52, .inl (y 0, 1700, .inl zw)), (ma 41, .inl (y 3, 3, .inl g41)), (ma 40, .inl (y 3, 3, .inl g40)), MB mo ma (nI t1) (nI u1037.1) (nI t3) u977.2 u1037.2.1 u1037.2.2 i7 i8 i42 i49 (nI cd) (nI zn) z376 (nI bs) i61 i64 i66 (nI t67) i76 i78, (ma 0, .inl (y 0, 1600, .inl g0))]) rfl ?_
                    refine j_goto (pc := 138) C (tgt := 143) d_Model_onePart_138 (by decide) ?_
                    refine j_goto (pc := 143) C (tgt := 2) d_Model_onePart_143 (by decide) ?_
                    refine j_sub (ws' := [MB mo ma (nI t1) (nI u1037.1) (nI t3) u977.2 u1037.2.1 u1037.2.2 i7 i8 i42 i49 (nI cd) (nI zn) z376 (nI bs) i61 i64 i66 (nI t67) i76 i78, (ma 0, .inl (y 0, 1600, .inl g0)), (ma 37, .inl (y 3, 3, .inl g37)), (ma 38, .inl (y 3, 5, .inl g38)), (ma 39, .inl (y 3, 5, .inl g39)), (ma 40, .inl (y 3, 3, .inl g40)), (ma 41, .inl (y 3, 3, .inl g41)), (ma 50, .inl (y 0, 3200, .inl g50)), (ma 52, .inl (y 0, 1700, .inl zw))]) [7, 8, 0, 1, 2, 6, 5, 3, 4] rfl (by decide) ?_
                    refine j_locs (lv' := [(1, .int (nI mz)), (0, .ref mo)]) [3, 4] rfl ?_
                    have hz1 := bz_e c778
                    have hz0 := bz_le u1037.2.1
                    have hz2 : bz1 u1037.2.1 = 0 ∨ az + 1 ≤ u1037.1 := by
                      by_cases e : u1037.2.1 = 0
                      · right; have f0 := xh1041 e; have g0 := f0.2; omega
                      · exact Or.inl (bz_0 e)
                    have xh1042 : RS s0 f0 xx u1037.2.1 g50 zw cd zn az := rs_mono xh779 (fun _ => rfl)
                    exact ih751 (mz, u1037.1, u1037.2.1, zw, zn, u977.2, u1037.2.2, z376) ⟨xh1040, (show t2 ≤ u1037.1 by omega), (show RS s0 f0 xx u1037.2.1 g50 zw cd zn u1037.1 from (rs_at xh1042 (by omega))), hT_, hS_, hb_⟩ (show 2 * (t3 - u1037.1) + bz1 u1037.2.1 + mz < 2 * (t3 - az) + bz1 bz + mz by omega)
                  · refine j_aload_n (pc := 99) C d_Model_onePart_99 rfl 3 rfl ?_
                    refine j_get (pc := 100) C gf_Model_207 7 rfl rfl d_Model_onePart_100 ?_
                    refine j_goto (pc := 103) C (tgt := 107) d_Model_onePart_103 (by decide) ?_
                    refine j_istore (pc := 107) C (lv' := [(4, .int (nI u1024)), (3, .int 1), (2, .int r780), (1, .int (nI mz)), (0, .ref mo)]) d_Model_onePart_107 (by decide) rfl ?_
                    refine j_iload (pc := 109) C d_Model_onePart_109 0 rfl ?_
                    refine j_iconst (pc := 111) C (v := (-1)) d_Model_onePart_111 (by decide) ?_
                    refine j_icmp_eqF (pc := 112) C (tgt := 132) d_Model_onePart_112 (by decide) (nI_nm1 (by omega)) ?_
                    refine j_aload_n (pc := 115) C d_Model_onePart_115 rfl 4 rfl ?_
                    refine j_iload_n (pc := 116) C d_Model_onePart_116 rfl 1 rfl ?_
                    refine j_if_eqF (pc := 117) C (tgt := 125) d_Model_onePart_117 (by decide) (by decide) ?_
                    refine j_bipush (pc := 120) C (v := 21) d_Model_onePart_120 (by decide) ?_
                    refine j_goto (pc := 122) C (tgt := 127) d_Model_onePart_122 (by decide) ?_
                    refine j_iload (pc := 127) C d_Model_onePart_127 0 rfl ?_
                    refine j_callVv (pc := 129) C (c_M_opens l D y mo ma t1 u1024 t3 u977.2 0 z375 i7 i8 i42 i49 cd zn z376 bs i61 i64 i66 t67 i76 i78 zw 21 (nI u1024) s0 xx f0 az g50 (by decide) (by omega) xh779 (by decide) hT_ hS_ hb_) kw_Model_353 kv_Model_opens 0 10 rfl rfl ⟨by decide, by decide⟩ ⟨by decide, by decide⟩ (wr := [(ma 37, .inl (y 3, 3, .inl g37)), (ma 38, .inl (y 3, 5, .inl g38)), (ma 39, .inl (y 3, 5, .inl g39)), (ma 50, .inl (y 0, 3200, .inl g50)), (ma 41, .inl (y 3, 3, .inl g41)), (ma 40, .inl (y 3, 3, .inl g40)), (ma 0, .inl (y 0, 1600, .inl g0))]) [7, 4] [0, 1, 2, 3, 5, 6, 8] rfl rfl (by decide) (by decide) (by decide) (As := [.int 21, .int (nI u1024)]) (rest := []) rfl (nb rfl) rfl d_Model_onePart_129 (fun u1043 hu1044 => ?_)
                    obtain ⟨xh1045, xh1046, xh1047, xh1048, xh1049, xh1050, xh1051⟩ := hu1044
                    refine j_ws (ws' := [(ma 37, .inl (y 3, 3, .inl g37)), (ma 38, .inl (y 3, 5, .inl g38)), (ma 39, .inl (y 3, 5, .inl g39)), (ma 50, .inl (y 0, 3200, .inl g50)), (ma 41, .inl (y 3, 3, .inl g41)), (ma 40, .inl (y 3, 3, .inl g40)), (ma 0, .inl (y 0, 1600, .inl g0)), MB mo ma (nI t1) (nI u1024) (nI t3) u977.2 u1043.1 u1043.2.1 i7 i8 i42 i49 (nI cd) (nI u1043.2.2.1) u1043.2.2.2.1 (nI bs) i61 i64 i66 (nI t67) i76 i78, (ma 52, .inl (y 0, 1700, .inl u1043.2.2.2.2))]) rfl ?_
                    refine j_aload_n (pc := 132) C d_Model_onePart_132 rfl 4 rfl ?_
                    refine j_bipush (pc := 133) C (v := 40) d_Model_onePart_133 (by decide) ?_
                    refine j_callVv (pc := 135) C (c_M_asksSign l D y mo ma t1 u1024 t3 u977.2 u1043.1 u1043.2.1 i7 i8 i42 i49 (nI cd) (nI u1043.2.2.1) u1043.2.2.2.1 (nI bs) i61 i64 i66 t67 i76 i78 g0 40 xh1026 he (by decide)) kw_Model_271 kv_Model_asksSign 0 10 rfl rfl ⟨by decide, by decide⟩ ⟨by decide, by decide⟩ (wr := [(ma 37, .inl (y 3, 3, .inl g37)), (ma 38, .inl (y 3, 5, .inl g38)), (ma 39, .inl (y 3, 5, .inl g39)), (ma 50, .inl (y 0, 3200, .inl g50)), (ma 41, .inl (y 3, 3, .inl g41)), (ma 40, .inl (y 3, 3, .inl g40)), (ma 52, .inl (y 0, 1700, .inl u1043.2.2.2.2))]) [7, 6] [0, 1, 2, 3, 4, 5, 8] rfl rfl (by decide) (by decide) (by decide) (As := [.int 40]) (rest := []) rfl (nb rfl) rfl d_Model_onePart_135 (fun u1052 hu1053 => ?_)
                    obtain ⟨xh1054, xh1055, xh1056⟩ := hu1053
                    refine j_ws (ws' := [(ma 37, .inl (y 3, 3, .inl g37)), (ma 38, .inl (y 3, 5, .inl g38)), (ma 39, .inl (y 3, 5, .inl g39)), (ma 50, .inl (y 0, 3200, .inl g50)), (ma 41, .inl (y 3, 3, .inl g41)), (ma 40, .inl (y 3, 3, .inl g40)), (ma 52, .inl (y 0, 1700, .inl u1043.2.2.2.2)), MB mo ma (nI t1) (nI u1052.1) (nI t3) u977.2 u1052.2.1 u1052.2.2 i7 i8 i42 i49 (nI cd) (nI u1043.2.2.1) u1043.2.2.2.1 (nI bs) i61 i64 i66 (nI t67) i76 i78, (ma 0, .inl (y 0, 1600, .inl g0))]) rfl ?_
                    refine j_goto (pc := 138) C (tgt := 143) d_Model_onePart_138 (by decide) ?_
                    refine j_goto (pc := 143) C (tgt := 2) d_Model_onePart_143 (by decide) ?_
                    refine j_sub (ws' := [MB mo ma (nI t1) (nI u1052.1) (nI t3) u977.2 u1052.2.1 u1052.2.2 i7 i8 i42 i49 (nI cd) (nI u1043.2.2.1) u1043.2.2.2.1 (nI bs) i61 i64 i66 (nI t67) i76 i78, (ma 0, .inl (y 0, 1600, .inl g0)), (ma 37, .inl (y 3, 3, .inl g37)), (ma 38, .inl (y 3, 5, .inl g38)), (ma 39, .inl (y 3, 5, .inl g39)), (ma 40, .inl (y 3, 3, .inl g40)), (ma 41, .inl (y 3, 3, .inl g41)), (ma 50, .inl (y 0, 3200, .inl g50)), (ma 52, .inl (y 0, 1700, .inl u1043.2.2.2.2))]) [7, 8, 0, 1, 2, 5, 4, 3, 6] rfl (by decide) ?_
                    refine j_locs (lv' := [(1, .int (nI mz)), (0, .ref mo)]) [3, 4] rfl ?_
                    have hz1 := bz_e c778
                    have hz0 := bz_le u1052.2.1
                    have hz2 : bz1 u1052.2.1 = 0 ∨ az + 1 ≤ u1052.1 := by
                      by_cases e : u1052.2.1 = 0
                      · right; have f0 := xh1056 e; have g0 := f0.2; have f1 := xh1047 f0.1; omega
                      · exact Or.inl (bz_0 e)
                    have xh1057 : RS s0 f0 xx u1052.2.1 g50 u1043.2.2.2.2 cd u1043.2.2.1 (az + 1) := rs_mono xh1048 (fun e => by have e0 := (xh1056 e).1; exact e0)
                    exact ih751 (mz, u1052.1, u1052.2.1, u1043.2.2.2.2, u1043.2.2.1, u977.2, u1052.2.2, u1043.2.2.2.1) ⟨xh1055, (show t2 ≤ u1052.1 by omega), (show RS s0 f0 xx u1052.2.1 g50 u1043.2.2.2.2 cd u1043.2.2.1 u1052.1 from (rs_at xh1057 (by omega))), xh1050, xh1051, (show bs ≤ u1043.2.2.1 by omega)⟩ (show 2 * (t3 - u1052.1) + bz1 u1052.2.1 + mz < 2 * (t3 - az) + bz1 bz + mz by omega)
          · refine j_if_neT (pc := 55) C (tgt := 69) d_Model_onePart_55 (by decide) (by decide) ?_
            refine j_aload_n (pc := 69) C d_Model_onePart_69 rfl 2 rfl ?_
            refine j_aload_n (pc := 70) C d_Model_onePart_70 rfl 2 rfl ?_
            refine j_get (pc := 71) C gf_Model_111 6 rfl rfl d_Model_onePart_71 ?_
            refine j_callVi (pc := 74) C (c_M_takes_3 l D y mo (ma 40) ma t1 u965 t3 z374 0 z375 i7 i8 i42 i49 (nI cd) (nI zn) z376 (nI bs) i61 i64 i66 t67 i76 i78 g0 g40 xh967 he) kw_Model_228 kv_Model_takes 0 10 rfl rfl ⟨by decide, by decide⟩ ⟨by decide, by decide⟩ (wr := [(ma 37, .inl (y 3, 3, .inl g37)), (ma 38, .inl (y 3, 5, .inl g38)), (ma 39, .inl (y 3, 5, .inl g39)), (ma 41, .inl (y 3, 3, .inl g41)), (ma 50, .inl (y 0, 3200, .inl g50)), (ma 52, .inl (y 0, 1700, .inl zw))]) [6, 7, 8] [0, 1, 2, 3, 4, 5] rfl rfl (by decide) (by decide) (by decide) (As := [.ref (ma 40)]) (rest := []) rfl (nb rfl) rfl d_Model_onePart_74 (fun r1058 u1059 hr1058 => ?_)
            refine j_ws (ws' := [(ma 37, .inl (y 3, 3, .inl g37)), (ma 38, .inl (y 3, 5, .inl g38)), (ma 39, .inl (y 3, 5, .inl g39)), (ma 41, .inl (y 3, 3, .inl g41)), (ma 50, .inl (y 0, 3200, .inl g50)), (ma 52, .inl (y 0, 1700, .inl zw)), MB mo ma (nI t1) (nI u1059.1) (nI t3) u1059.2 0 z375 i7 i8 i42 i49 (nI cd) (nI zn) z376 (nI bs) i61 i64 i66 (nI t67) i76 i78, (ma 0, .inl (y 0, 1600, .inl g0)), (ma 40, .inl (y 3, 3, .inl g40))]) rfl ?_
            obtain ⟨xh1060, xh1061, xh1062⟩ := hr1058
            rcases xh1062 with rfl | ⟨rfl, xh1063⟩
            · refine j_istore_n (pc := 77) C (lv' := [(3, .int 0), (2, .int r780), (1, .int (nI mz)), (0, .ref mo)]) d_Model_onePart_77 rfl (by decide) rfl ?_
              refine j_iload_n (pc := 78) C d_Model_onePart_78 rfl 0 rfl ?_
              refine j_if_neF (pc := 79) C (tgt := 90) d_Model_onePart_79 (by decide) (by decide) ?_
              refine j_aload_n (pc := 82) C d_Model_onePart_82 rfl 3 rfl ?_
              refine j_aload_n (pc := 83) C d_Model_onePart_83 rfl 3 rfl ?_
              refine j_get (pc := 84) C gf_Model_114 6 rfl rfl d_Model_onePart_84 ?_
              refine j_callVv (pc := 87) C (c_M_asks_3 l D y mo (ma 41) ma t1 u1059.1 t3 u1059.2 0 z375 i7 i8 i42 i49 (nI cd) (nI zn) z376 (nI bs) i61 i64 i66 t67 i76 i78 g0 g41 xh1061 he) kw_Model_263 kv_Model_asks 0 10 rfl rfl ⟨by decide, by decide⟩ ⟨by decide, by decide⟩ (wr := [(ma 37, .inl (y 3, 3, .inl g37)), (ma 38, .inl (y 3, 5, .inl g38)), (ma 39, .inl (y 3, 5, .inl g39)), (ma 50, .inl (y 0, 3200, .inl g50)), (ma 52, .inl (y 0, 1700, .inl zw)), (ma 40, .inl (y 3, 3, .inl g40))]) [6, 7, 3] [0, 1, 2, 4, 5, 8] rfl rfl (by decide) (by decide) (by decide) (As := [.ref (ma 41)]) (rest := []) rfl (nb rfl) rfl d_Model_onePart_87 (fun u1064 hu1065 => ?_)
              obtain ⟨xh1066, xh1067, xh1068⟩ := hu1065
              refine j_ws (ws' := [(ma 37, .inl (y 3, 3, .inl g37)), (ma 38, .inl (y 3, 5, .inl g38)), (ma 39, .inl (y 3, 5, .inl g39)), (ma 50, .inl (y 0, 3200, .inl g50)), (ma 52, .inl (y 0, 1700, .inl zw)), (ma 40, .inl (y 3, 3, .inl g40)), MB mo ma (nI t1) (nI u1064.1) (nI t3) u1064.2.1 u1064.2.2.1 u1064.2.2.2 i7 i8 i42 i49 (nI cd) (nI zn) z376 (nI bs) i61 i64 i66 (nI t67) i76 i78, (ma 0, .inl (y 0, 1600, .inl g0)), (ma 41, .inl (y 3, 3, .inl g41))]) rfl ?_
              refine j_aload_n (pc := 90) C d_Model_onePart_90 rfl 3 rfl ?_
              refine j_callVi (pc := 91) C (c_M_look l D y mo ma t1 u1064.1 t3 u1064.2.1 u1064.2.2.1 u1064.2.2.2 i7 i8 i42 i49 (nI cd) (nI zn) z376 (nI bs) i61 i64 i66 t67 i76 i78 g0 xh1067 he) kw_Model_213 kv_Model_look 0 10 rfl rfl ⟨by decide, by decide⟩ ⟨by decide, by decide⟩ (wr := [(ma 37, .inl (y 3, 3, .inl g37)), (ma 38, .inl (y 3, 5, .inl g38)), (ma 39, .inl (y 3, 5, .inl g39)), (ma 50, .inl (y 0, 3200, .inl g50)), (ma 52, .inl (y 0, 1700, .inl zw)), (ma 40, .inl (y 3, 3, .inl g40)), (ma 41, .inl (y 3, 3, .inl g41))]) [6, 7] [0, 1, 2, 3, 4, 5, 8] rfl rfl (by decide) (by decide) (by decide) (As := []) (rest := []) rfl (nb rfl) rfl d_Model_onePart_91 (fun r1069 u1070 hr1069 => ?_)
              refine j_ws (ws' := [(ma 37, .inl (y 3, 3, .inl g37)), (ma 38, .inl (y 3, 5, .inl g38)), (ma 39, .inl (y 3, 5, .inl g39)), (ma 50, .inl (y 0, 3200, .inl g50)), (ma 52, .inl (y 0, 1700, .inl zw)), (ma 40, .inl (y 3, 3, .inl g40)), (ma 41, .inl (y 3, 3, .inl g41)), MB mo ma (nI t1) (nI u1070) (nI t3) u1064.2.1 u1064.2.2.1 u1064.2.2.2 i7 i8 i42 i49 (nI cd) (nI zn) z376 (nI bs) i61 i64 i66 (nI t67) i76 i78, (ma 0, .inl (y 0, 1600, .inl g0))]) rfl ?_
              obtain ⟨xh1071, xh1072, xh1073⟩ := hr1069
              rcases xh1073 with rfl | ⟨xh1074, e1075⟩
              · refine j_bipush (pc := 94) C (v := 40) d_Model_onePart_94 (by decide) ?_
                refine j_icmp_neT (pc := 96) C (tgt := 106) d_Model_onePart_96 (by decide) (by decide) ?_
                refine j_iconst (pc := 106) C (v := (-1)) d_Model_onePart_106 (by decide) ?_
                refine j_istore (pc := 107) C (lv' := [(4, .int (-1)), (3, .int 0), (2, .int r780), (1, .int (nI mz)), (0, .ref mo)]) d_Model_onePart_107 (by decide) rfl ?_
                refine j_iload (pc := 109) C d_Model_onePart_109 0 rfl ?_
                refine j_iconst (pc := 111) C (v := (-1)) d_Model_onePart_111 (by decide) ?_
                refine j_icmp_eqT (pc := 112) C (tgt := 132) d_Model_onePart_112 (by decide) (by decide) ?_
                refine j_aload_n (pc := 132) C d_Model_onePart_132 rfl 4 rfl ?_
                refine j_bipush (pc := 133) C (v := 40) d_Model_onePart_133 (by decide) ?_
                refine j_callVv (pc := 135) C (c_M_asksSign l D y mo ma t1 u1070 t3 u1064.2.1 u1064.2.2.1 u1064.2.2.2 i7 i8 i42 i49 (nI cd) (nI zn) z376 (nI bs) i61 i64 i66 t67 i76 i78 g0 40 xh1072 he (by decide)) kw_Model_271 kv_Model_asksSign 0 10 rfl rfl ⟨by decide, by decide⟩ ⟨by decide, by decide⟩ (wr := [(ma 37, .inl (y 3, 3, .inl g37)), (ma 38, .inl (y 3, 5, .inl g38)), (ma 39, .inl (y 3, 5, .inl g39)), (ma 50, .inl (y 0, 3200, .inl g50)), (ma 52, .inl (y 0, 1700, .inl zw)), (ma 40, .inl (y 3, 3, .inl g40)), (ma 41, .inl (y 3, 3, .inl g41))]) [7, 8] [0, 1, 2, 3, 4, 5, 6] rfl rfl (by decide) (by decide) (by decide) (As := [.int 40]) (rest := []) rfl (nb rfl) rfl d_Model_onePart_135 (fun u1076 hu1077 => ?_)
                obtain ⟨xh1078, xh1079, xh1080⟩ := hu1077
                refine j_ws (ws' := [(ma 37, .inl (y 3, 3, .inl g37)), (ma 38, .inl (y 3, 5, .inl g38)), (ma 39, .inl (y 3, 5, .inl g39)), (ma 50, .inl (y 0, 3200, .inl g50)), (ma 52, .inl (y 0, 1700, .inl zw)), (ma 40, .inl (y 3, 3, .inl g40)), (ma 41, .inl (y 3, 3, .inl g41)), MB mo ma (nI t1) (nI u1076.1) (nI t3) u1064.2.1 u1076.2.1 u1076.2.2 i7 i8 i42 i49 (nI cd) (nI zn) z376 (nI bs) i61 i64 i66 (nI t67) i76 i78, (ma 0, .inl (y 0, 1600, .inl g0))]) rfl ?_
                refine j_goto (pc := 138) C (tgt := 143) d_Model_onePart_138 (by decide) ?_
                refine j_goto (pc := 143) C (tgt := 2) d_Model_onePart_143 (by decide) ?_
                refine j_sub (ws' := [MB mo ma (nI t1) (nI u1076.1) (nI t3) u1064.2.1 u1076.2.1 u1076.2.2 i7 i8 i42 i49 (nI cd) (nI zn) z376 (nI bs) i61 i64 i66 (nI t67) i76 i78, (ma 0, .inl (y 0, 1600, .inl g0)), (ma 37, .inl (y 3, 3, .inl g37)), (ma 38, .inl (y 3, 5, .inl g38)), (ma 39, .inl (y 3, 5, .inl g39)), (ma 40, .inl (y 3, 3, .inl g40)), (ma 41, .inl (y 3, 3, .inl g41)), (ma 50, .inl (y 0, 3200, .inl g50)), (ma 52, .inl (y 0, 1700, .inl zw))]) [7, 8, 0, 1, 2, 5, 6, 3, 4] rfl (by decide) ?_
                refine j_locs (lv' := [(1, .int (nI mz)), (0, .ref mo)]) [3, 4] rfl ?_
                have hz1 := bz_e c778
                have hz0 := bz_le u1076.2.1
                have hz2 : bz1 u1076.2.1 = 0 ∨ az + 1 ≤ u1076.1 := by
                  by_cases e : u1076.2.1 = 0
                  · right; have f0 := xh1080 e; have g0 := f0.2; have f1 := xh1068 f0.1; have g1 := f1.2; omega
                  · exact Or.inl (bz_0 e)
                have xh1081 : RS s0 f0 xx u1076.2.1 g50 zw cd zn az := rs_mono xh779 (fun _ => rfl)
                exact ih751 (mz, u1076.1, u1076.2.1, zw, zn, u1064.2.1, u1076.2.2, z376) ⟨xh1079, (show t2 ≤ u1076.1 by omega), (show RS s0 f0 xx u1076.2.1 g50 zw cd zn u1076.1 from (rs_at xh1081 (by omega))), hT_, hS_, hb_⟩ (show 2 * (t3 - u1076.1) + bz1 u1076.2.1 + mz < 2 * (t3 - az) + bz1 bz + mz by omega)
              · refine j_bipush (pc := 94) C (v := 40) d_Model_onePart_94 (by decide) ?_
                refine j_icmp_ne (pc := 96) C (tgt := 106) d_Model_onePart_96 (by decide) (fun c1082 => ?_) (fun c1082 => ?_)
                · refine j_iconst (pc := 106) C (v := (-1)) d_Model_onePart_106 (by decide) ?_
                  refine j_istore (pc := 107) C (lv' := [(4, .int (-1)), (3, .int 0), (2, .int r780), (1, .int (nI mz)), (0, .ref mo)]) d_Model_onePart_107 (by decide) rfl ?_
                  refine j_iload (pc := 109) C d_Model_onePart_109 0 rfl ?_
                  refine j_iconst (pc := 111) C (v := (-1)) d_Model_onePart_111 (by decide) ?_
                  refine j_icmp_eqT (pc := 112) C (tgt := 132) d_Model_onePart_112 (by decide) (by decide) ?_
                  refine j_aload_n (pc := 132) C d_Model_onePart_132 rfl 4 rfl ?_
                  refine j_bipush (pc := 133) C (v := 40) d_Model_onePart_133 (by decide) ?_
                  refine j_callVv (pc := 135) C (c_M_asksSign l D y mo ma t1 u1070 t3 u1064.2.1 u1064.2.2.1 u1064.2.2.2 i7 i8 i42 i49 (nI cd) (nI zn) z376 (nI bs) i61 i64 i66 t67 i76 i78 g0 40 xh1072 he (by decide)) kw_Model_271 kv_Model_asksSign 0 10 rfl rfl ⟨by decide, by decide⟩ ⟨by decide, by decide⟩ (wr := [(ma 37, .inl (y 3, 3, .inl g37)), (ma 38, .inl (y 3, 5, .inl g38)), (ma 39, .inl (y 3, 5, .inl g39)), (ma 50, .inl (y 0, 3200, .inl g50)), (ma 52, .inl (y 0, 1700, .inl zw)), (ma 40, .inl (y 3, 3, .inl g40)), (ma 41, .inl (y 3, 3, .inl g41))]) [7, 8] [0, 1, 2, 3, 4, 5, 6] rfl rfl (by decide) (by decide) (by decide) (As := [.int 40]) (rest := []) rfl (nb rfl) rfl d_Model_onePart_135 (fun u1083 hu1084 => ?_)
                  obtain ⟨xh1085, xh1086, xh1087⟩ := hu1084
                  refine j_ws (ws' := [(ma 37, .inl (y 3, 3, .inl g37)), (ma 38, .inl (y 3, 5, .inl g38)), (ma 39, .inl (y 3, 5, .inl g39)), (ma 50, .inl (y 0, 3200, .inl g50)), (ma 52, .inl (y 0, 1700, .inl zw)), (ma 40, .inl (y 3, 3, .inl g40)), (ma 41, .inl (y 3, 3, .inl g41)), MB mo ma (nI t1) (nI u1083.1) (nI t3) u1064.2.1 u1083.2.1 u1083.2.2 i7 i8 i42 i49 (nI cd) (nI zn) z376 (nI bs) i61 i64 i66 (nI t67) i76 i78, (ma 0, .inl (y 0, 1600, .inl g0))]) rfl ?_
                  refine j_goto (pc := 138) C (tgt := 143) d_Model_onePart_138 (by decide) ?_
                  refine j_goto (pc := 143) C (tgt := 2) d_Model_onePart_143 (by decide) ?_
                  refine j_sub (ws' := [MB mo ma (nI t1) (nI u1083.1) (nI t3) u1064.2.1 u1083.2.1 u1083.2.2 i7 i8 i42 i49 (nI cd) (nI zn) z376 (nI bs) i61 i64 i66 (nI t67) i76 i78, (ma 0, .inl (y 0, 1600, .inl g0)), (ma 37, .inl (y 3, 3, .inl g37)), (ma 38, .inl (y 3, 5, .inl g38)), (ma 39, .inl (y 3, 5, .inl g39)), (ma 40, .inl (y 3, 3, .inl g40)), (ma 41, .inl (y 3, 3, .inl g41)), (ma 50, .inl (y 0, 3200, .inl g50)), (ma 52, .inl (y 0, 1700, .inl zw))]) [7, 8, 0, 1, 2, 5, 6, 3, 4] rfl (by decide) ?_
                  refine j_locs (lv' := [(1, .int (nI mz)), (0, .ref mo)]) [3, 4] rfl ?_
                  have hz1 := bz_e c778
                  have hz0 := bz_le u1083.2.1
                  have hz2 : bz1 u1083.2.1 = 0 ∨ az + 1 ≤ u1083.1 := by
                    by_cases e : u1083.2.1 = 0
                    · right; have f0 := xh1087 e; have g0 := f0.2; have f1 := xh1068 f0.1; have g1 := f1.2; omega
                    · exact Or.inl (bz_0 e)
                  have xh1088 : RS s0 f0 xx u1083.2.1 g50 zw cd zn az := rs_mono xh779 (fun _ => rfl)
                  exact ih751 (mz, u1083.1, u1083.2.1, zw, zn, u1064.2.1, u1083.2.2, z376) ⟨xh1086, (show t2 ≤ u1083.1 by omega), (show RS s0 f0 xx u1083.2.1 g50 zw cd zn u1083.1 from (rs_at xh1088 (by omega))), hT_, hS_, hb_⟩ (show 2 * (t3 - u1083.1) + bz1 u1083.2.1 + mz < 2 * (t3 - az) + bz1 bz + mz by omega)
                · refine j_aload_n (pc := 99) C d_Model_onePart_99 rfl 3 rfl ?_
                  refine j_get (pc := 100) C gf_Model_207 7 rfl rfl d_Model_onePart_100 ?_
                  refine j_goto (pc := 103) C (tgt := 107) d_Model_onePart_103 (by decide) ?_
                  refine j_istore (pc := 107) C (lv' := [(4, .int (nI u1070)), (3, .int 0), (2, .int r780), (1, .int (nI mz)), (0, .ref mo)]) d_Model_onePart_107 (by decide) rfl ?_
                  refine j_iload (pc := 109) C d_Model_onePart_109 0 rfl ?_
                  refine j_iconst (pc := 111) C (v := (-1)) d_Model_onePart_111 (by decide) ?_
                  refine j_icmp_eqF (pc := 112) C (tgt := 132) d_Model_onePart_112 (by decide) (nI_nm1 (by omega)) ?_
                  refine j_aload_n (pc := 115) C d_Model_onePart_115 rfl 4 rfl ?_
                  refine j_iload_n (pc := 116) C d_Model_onePart_116 rfl 1 rfl ?_
                  refine j_if_eqT (pc := 117) C (tgt := 125) d_Model_onePart_117 (by decide) (by decide) ?_
                  refine j_bipush (pc := 125) C (v := 22) d_Model_onePart_125 (by decide) ?_
                  refine j_iload (pc := 127) C d_Model_onePart_127 0 rfl ?_
                  have xh1089 : RS s0 f0 xx u1064.2.2.1 g50 zw cd zn az := rs_mono xh779 (fun _ => rfl)
                  refine j_callVv (pc := 129) C (c_M_opens l D y mo ma t1 u1070 t3 u1064.2.1 u1064.2.2.1 u1064.2.2.2 i7 i8 i42 i49 cd zn z376 bs i61 i64 i66 t67 i76 i78 zw 22 (nI u1070) s0 xx f0 az g50 (by decide) (by omega) xh1089 (by decide) hT_ hS_ hb_) kw_Model_353 kv_Model_opens 0 10 rfl rfl ⟨by decide, by decide⟩ ⟨by decide, by decide⟩ (wr := [(ma 37, .inl (y 3, 3, .inl g37)), (ma 38, .inl (y 3, 5, .inl g38)), (ma 39, .inl (y 3, 5, .inl g39)), (ma 50, .inl (y 0, 3200, .inl g50)), (ma 40, .inl (y 3, 3, .inl g40)), (ma 41, .inl (y 3, 3, .inl g41)), (ma 0, .inl (y 0, 1600, .inl g0))]) [7, 4] [0, 1, 2, 3, 5, 6, 8] rfl rfl (by decide) (by decide) (by decide) (As := [.int 22, .int (nI u1070)]) (rest := []) rfl (nb rfl) rfl d_Model_onePart_129 (fun u1090 hu1091 => ?_)
                  obtain ⟨xh1092, xh1093, xh1094, xh1095, xh1096, xh1097, xh1098⟩ := hu1091
                  refine j_ws (ws' := [(ma 37, .inl (y 3, 3, .inl g37)), (ma 38, .inl (y 3, 5, .inl g38)), (ma 39, .inl (y 3, 5, .inl g39)), (ma 50, .inl (y 0, 3200, .inl g50)), (ma 40, .inl (y 3, 3, .inl g40)), (ma 41, .inl (y 3, 3, .inl g41)), (ma 0, .inl (y 0, 1600, .inl g0)), MB mo ma (nI t1) (nI u1070) (nI t3) u1064.2.1 u1090.1 u1090.2.1 i7 i8 i42 i49 (nI cd) (nI u1090.2.2.1) u1090.2.2.2.1 (nI bs) i61 i64 i66 (nI t67) i76 i78, (ma 52, .inl (y 0, 1700, .inl u1090.2.2.2.2))]) rfl ?_
                  refine j_aload_n (pc := 132) C d_Model_onePart_132 rfl 4 rfl ?_
                  refine j_bipush (pc := 133) C (v := 40) d_Model_onePart_133 (by decide) ?_
                  refine j_callVv (pc := 135) C (c_M_asksSign l D y mo ma t1 u1070 t3 u1064.2.1 u1090.1 u1090.2.1 i7 i8 i42 i49 (nI cd) (nI u1090.2.2.1) u1090.2.2.2.1 (nI bs) i61 i64 i66 t67 i76 i78 g0 40 xh1072 he (by decide)) kw_Model_271 kv_Model_asksSign 0 10 rfl rfl ⟨by decide, by decide⟩ ⟨by decide, by decide⟩ (wr := [(ma 37, .inl (y 3, 3, .inl g37)), (ma 38, .inl (y 3, 5, .inl g38)), (ma 39, .inl (y 3, 5, .inl g39)), (ma 50, .inl (y 0, 3200, .inl g50)), (ma 40, .inl (y 3, 3, .inl g40)), (ma 41, .inl (y 3, 3, .inl g41)), (ma 52, .inl (y 0, 1700, .inl u1090.2.2.2.2))]) [7, 6] [0, 1, 2, 3, 4, 5, 8] rfl rfl (by decide) (by decide) (by decide) (As := [.int 40]) (rest := []) rfl (nb rfl) rfl d_Model_onePart_135 (fun u1099 hu1100 => ?_)
                  obtain ⟨xh1101, xh1102, xh1103⟩ := hu1100
                  refine j_ws (ws' := [(ma 37, .inl (y 3, 3, .inl g37)), (ma 38, .inl (y 3, 5, .inl g38)), (ma 39, .inl (y 3, 5, .inl g39)), (ma 50, .inl (y 0, 3200, .inl g50)), (ma 40, .inl (y 3, 3, .inl g40)), (ma 41, .inl (y 3, 3, .inl g41)), (ma 52, .inl (y 0, 1700, .inl u1090.2.2.2.2)), MB mo ma (nI t1) (nI u1099.1) (nI t3) u1064.2.1 u1099.2.1 u1099.2.2 i7 i8 i42 i49 (nI cd) (nI u1090.2.2.1) u1090.2.2.2.1 (nI bs) i61 i64 i66 (nI t67) i76 i78, (ma 0, .inl (y 0, 1600, .inl g0))]) rfl ?_
                  refine j_goto (pc := 138) C (tgt := 143) d_Model_onePart_138 (by decide) ?_
                  refine j_goto (pc := 143) C (tgt := 2) d_Model_onePart_143 (by decide) ?_
                  refine j_sub (ws' := [MB mo ma (nI t1) (nI u1099.1) (nI t3) u1064.2.1 u1099.2.1 u1099.2.2 i7 i8 i42 i49 (nI cd) (nI u1090.2.2.1) u1090.2.2.2.1 (nI bs) i61 i64 i66 (nI t67) i76 i78, (ma 0, .inl (y 0, 1600, .inl g0)), (ma 37, .inl (y 3, 3, .inl g37)), (ma 38, .inl (y 3, 5, .inl g38)), (ma 39, .inl (y 3, 5, .inl g39)), (ma 40, .inl (y 3, 3, .inl g40)), (ma 41, .inl (y 3, 3, .inl g41)), (ma 50, .inl (y 0, 3200, .inl g50)), (ma 52, .inl (y 0, 1700, .inl u1090.2.2.2.2))]) [7, 8, 0, 1, 2, 4, 5, 3, 6] rfl (by decide) ?_
                  refine j_locs (lv' := [(1, .int (nI mz)), (0, .ref mo)]) [3, 4] rfl ?_
                  have hz1 := bz_e c778
                  have hz0 := bz_le u1099.2.1
                  have hz2 : bz1 u1099.2.1 = 0 ∨ az + 1 ≤ u1099.1 := by
                    by_cases e : u1099.2.1 = 0
                    · right; have f0 := xh1103 e; have g0 := f0.2; have f1 := xh1094 f0.1; have f2 := xh1068 f1; have g2 := f2.2; omega
                    · exact Or.inl (bz_0 e)
                  have xh1104 : RS s0 f0 xx u1099.2.1 g50 u1090.2.2.2.2 cd u1090.2.2.1 (az + 1) := rs_mono xh1095 (fun e => by have e0 := (xh1103 e).1; exact e0)
                  exact ih751 (mz, u1099.1, u1099.2.1, u1090.2.2.2.2, u1090.2.2.1, u1064.2.1, u1099.2.2, u1090.2.2.2.1) ⟨xh1102, (show t2 ≤ u1099.1 by omega), (show RS s0 f0 xx u1099.2.1 g50 u1090.2.2.2.2 cd u1090.2.2.1 u1099.1 from (rs_at xh1104 (by omega))), xh1097, xh1098, (show bs ≤ u1090.2.2.1 by omega)⟩ (show 2 * (t3 - u1099.1) + bz1 u1099.2.1 + mz < 2 * (t3 - az) + bz1 bz + mz by omega)
            · refine j_istore_n (pc := 77) C (lv' := [(3, .int 1), (2, .int r780), (1, .int (nI mz)), (0, .ref mo)]) d_Model_onePart_77 rfl (by decide) rfl ?_
              refine j_iload_n (pc := 78) C d_Model_onePart_78 rfl 0 rfl ?_
              refine j_if_neT (pc := 79) C (tgt := 90) d_Model_onePart_79 (by decide) (by decide) ?_
              refine j_aload_n (pc := 90) C d_Model_onePart_90 rfl 3 rfl ?_
              refine j_callVi (pc := 91) C (c_M_look l D y mo ma t1 u1059.1 t3 u1059.2 0 z375 i7 i8 i42 i49 (nI cd) (nI zn) z376 (nI bs) i61 i64 i66 t67 i76 i78 g0 xh1061 he) kw_Model_213 kv_Model_look 0 10 rfl rfl ⟨by decide, by decide⟩ ⟨by decide, by decide⟩ (wr := [(ma 37, .inl (y 3, 3, .inl g37)), (ma 38, .inl (y 3, 5, .inl g38)), (ma 39, .inl (y 3, 5, .inl g39)), (ma 41, .inl (y 3, 3, .inl g41)), (ma 50, .inl (y 0, 3200, .inl g50)), (ma 52, .inl (y 0, 1700, .inl zw)), (ma 40, .inl (y 3, 3, .inl g40))]) [6, 7] [0, 1, 2, 3, 4, 5, 8] rfl rfl (by decide) (by decide) (by decide) (As := []) (rest := []) rfl (nb rfl) rfl d_Model_onePart_91 (fun r1105 u1106 hr1105 => ?_)
              refine j_ws (ws' := [(ma 37, .inl (y 3, 3, .inl g37)), (ma 38, .inl (y 3, 5, .inl g38)), (ma 39, .inl (y 3, 5, .inl g39)), (ma 41, .inl (y 3, 3, .inl g41)), (ma 50, .inl (y 0, 3200, .inl g50)), (ma 52, .inl (y 0, 1700, .inl zw)), (ma 40, .inl (y 3, 3, .inl g40)), MB mo ma (nI t1) (nI u1106) (nI t3) u1059.2 0 z375 i7 i8 i42 i49 (nI cd) (nI zn) z376 (nI bs) i61 i64 i66 (nI t67) i76 i78, (ma 0, .inl (y 0, 1600, .inl g0))]) rfl ?_
              obtain ⟨xh1107, xh1108, xh1109⟩ := hr1105
              rcases xh1109 with rfl | ⟨xh1110, e1111⟩
              · refine j_bipush (pc := 94) C (v := 40) d_Model_onePart_94 (by decide) ?_
                refine j_icmp_neT (pc := 96) C (tgt := 106) d_Model_onePart_96 (by decide) (by decide) ?_
                refine j_iconst (pc := 106) C (v := (-1)) d_Model_onePart_106 (by decide) ?_
                refine j_istore (pc := 107) C (lv' := [(4, .int (-1)), (3, .int 1), (2, .int r780), (1, .int (nI mz)), (0, .ref mo)]) d_Model_onePart_107 (by decide) rfl ?_
                refine j_iload (pc := 109) C d_Model_onePart_109 0 rfl ?_
                refine j_iconst (pc := 111) C (v := (-1)) d_Model_onePart_111 (by decide) ?_
                refine j_icmp_eqT (pc := 112) C (tgt := 132) d_Model_onePart_112 (by decide) (by decide) ?_
                refine j_aload_n (pc := 132) C d_Model_onePart_132 rfl 4 rfl ?_
                refine j_bipush (pc := 133) C (v := 40) d_Model_onePart_133 (by decide) ?_
                refine j_callVv (pc := 135) C (c_M_asksSign l D y mo ma t1 u1106 t3 u1059.2 0 z375 i7 i8 i42 i49 (nI cd) (nI zn) z376 (nI bs) i61 i64 i66 t67 i76 i78 g0 40 xh1108 he (by decide)) kw_Model_271 kv_Model_asksSign 0 10 rfl rfl ⟨by decide, by decide⟩ ⟨by decide, by decide⟩ (wr := [(ma 37, .inl (y 3, 3, .inl g37)), (ma 38, .inl (y 3, 5, .inl g38)), (ma 39, .inl (y 3, 5, .inl g39)), (ma 41, .inl (y 3, 3, .inl g41)), (ma 50, .inl (y 0, 3200, .inl g50)), (ma 52, .inl (y 0, 1700, .inl zw)), (ma 40, .inl (y 3, 3, .inl g40))]) [7, 8] [0, 1, 2, 3, 4, 5, 6] rfl rfl (by decide) (by decide) (by decide) (As := [.int 40]) (rest := []) rfl (nb rfl) rfl d_Model_onePart_135 (fun u1112 hu1113 => ?_)
                obtain ⟨xh1114, xh1115, xh1116⟩ := hu1113
                refine j_ws (ws' := [(ma 37, .inl (y 3, 3, .inl g37)), (ma 38, .inl (y 3, 5, .inl g38)), (ma 39, .inl (y 3, 5, .inl g39)), (ma 41, .inl (y 3, 3, .inl g41)), (ma 50, .inl (y 0, 3200, .inl g50)), (ma 52, .inl (y 0, 1700, .inl zw)), (ma 40, .inl (y 3, 3, .inl g40)), MB mo ma (nI t1) (nI u1112.1) (nI t3) u1059.2 u1112.2.1 u1112.2.2 i7 i8 i42 i49 (nI cd) (nI zn) z376 (nI bs) i61 i64 i66 (nI t67) i76 i78, (ma 0, .inl (y 0, 1600, .inl g0))]) rfl ?_
                refine j_goto (pc := 138) C (tgt := 143) d_Model_onePart_138 (by decide) ?_
                refine j_goto (pc := 143) C (tgt := 2) d_Model_onePart_143 (by decide) ?_
                refine j_sub (ws' := [MB mo ma (nI t1) (nI u1112.1) (nI t3) u1059.2 u1112.2.1 u1112.2.2 i7 i8 i42 i49 (nI cd) (nI zn) z376 (nI bs) i61 i64 i66 (nI t67) i76 i78, (ma 0, .inl (y 0, 1600, .inl g0)), (ma 37, .inl (y 3, 3, .inl g37)), (ma 38, .inl (y 3, 5, .inl g38)), (ma 39, .inl (y 3, 5, .inl g39)), (ma 40, .inl (y 3, 3, .inl g40)), (ma 41, .inl (y 3, 3, .inl g41)), (ma 50, .inl (y 0, 3200, .inl g50)), (ma 52, .inl (y 0, 1700, .inl zw))]) [7, 8, 0, 1, 2, 6, 3, 4, 5] rfl (by decide) ?_
                refine j_locs (lv' := [(1, .int (nI mz)), (0, .ref mo)]) [3, 4] rfl ?_
                have hz1 := bz_e c778
                have hz0 := bz_le u1112.2.1
                have hz2 : bz1 u1112.2.1 = 0 ∨ az + 1 ≤ u1112.1 := by
                  by_cases e : u1112.2.1 = 0
                  · right; have f0 := xh1116 e; have g0 := f0.2; omega
                  · exact Or.inl (bz_0 e)
                have xh1117 : RS s0 f0 xx u1112.2.1 g50 zw cd zn az := rs_mono xh779 (fun _ => rfl)
                exact ih751 (mz, u1112.1, u1112.2.1, zw, zn, u1059.2, u1112.2.2, z376) ⟨xh1115, (show t2 ≤ u1112.1 by omega), (show RS s0 f0 xx u1112.2.1 g50 zw cd zn u1112.1 from (rs_at xh1117 (by omega))), hT_, hS_, hb_⟩ (show 2 * (t3 - u1112.1) + bz1 u1112.2.1 + mz < 2 * (t3 - az) + bz1 bz + mz by omega)
              · refine j_bipush (pc := 94) C (v := 40) d_Model_onePart_94 (by decide) ?_
                refine j_icmp_ne (pc := 96) C (tgt := 106) d_Model_onePart_96 (by decide) (fun c1118 => ?_) (fun c1118 => ?_)
                · refine j_iconst (pc := 106) C (v := (-1)) d_Model_onePart_106 (by decide) ?_
                  refine j_istore (pc := 107) C (lv' := [(4, .int (-1)), (3, .int 1), (2, .int r780), (1, .int (nI mz)), (0, .ref mo)]) d_Model_onePart_107 (by decide) rfl ?_
                  refine j_iload (pc := 109) C d_Model_onePart_109 0 rfl ?_
                  refine j_iconst (pc := 111) C (v := (-1)) d_Model_onePart_111 (by decide) ?_
                  refine j_icmp_eqT (pc := 112) C (tgt := 132) d_Model_onePart_112 (by decide) (by decide) ?_
                  refine j_aload_n (pc := 132) C d_Model_onePart_132 rfl 4 rfl ?_
                  refine j_bipush (pc := 133) C (v := 40) d_Model_onePart_133 (by decide) ?_
                  refine j_callVv (pc := 135) C (c_M_asksSign l D y mo ma t1 u1106 t3 u1059.2 0 z375 i7 i8 i42 i49 (nI cd) (nI zn) z376 (nI bs) i61 i64 i66 t67 i76 i78 g0 40 xh1108 he (by decide)) kw_Model_271 kv_Model_asksSign 0 10 rfl rfl ⟨by decide, by decide⟩ ⟨by decide, by decide⟩ (wr := [(ma 37, .inl (y 3, 3, .inl g37)), (ma 38, .inl (y 3, 5, .inl g38)), (ma 39, .inl (y 3, 5, .inl g39)), (ma 41, .inl (y 3, 3, .inl g41)), (ma 50, .inl (y 0, 3200, .inl g50)), (ma 52, .inl (y 0, 1700, .inl zw)), (ma 40, .inl (y 3, 3, .inl g40))]) [7, 8] [0, 1, 2, 3, 4, 5, 6] rfl rfl (by decide) (by decide) (by decide) (As := [.int 40]) (rest := []) rfl (nb rfl) rfl d_Model_onePart_135 (fun u1119 hu1120 => ?_)
                  obtain ⟨xh1121, xh1122, xh1123⟩ := hu1120
                  refine j_ws (ws' := [(ma 37, .inl (y 3, 3, .inl g37)), (ma 38, .inl (y 3, 5, .inl g38)), (ma 39, .inl (y 3, 5, .inl g39)), (ma 41, .inl (y 3, 3, .inl g41)), (ma 50, .inl (y 0, 3200, .inl g50)), (ma 52, .inl (y 0, 1700, .inl zw)), (ma 40, .inl (y 3, 3, .inl g40)), MB mo ma (nI t1) (nI u1119.1) (nI t3) u1059.2 u1119.2.1 u1119.2.2 i7 i8 i42 i49 (nI cd) (nI zn) z376 (nI bs) i61 i64 i66 (nI t67) i76 i78, (ma 0, .inl (y 0, 1600, .inl g0))]) rfl ?_
                  refine j_goto (pc := 138) C (tgt := 143) d_Model_onePart_138 (by decide) ?_
                  refine j_goto (pc := 143) C (tgt := 2) d_Model_onePart_143 (by decide) ?_
                  refine j_sub (ws' := [MB mo ma (nI t1) (nI u1119.1) (nI t3) u1059.2 u1119.2.1 u1119.2.2 i7 i8 i42 i49 (nI cd) (nI zn) z376 (nI bs) i61 i64 i66 (nI t67) i76 i78, (ma 0, .inl (y 0, 1600, .inl g0)), (ma 37, .inl (y 3, 3, .inl g37)), (ma 38, .inl (y 3, 5, .inl g38)), (ma 39, .inl (y 3, 5, .inl g39)), (ma 40, .inl (y 3, 3, .inl g40)), (ma 41, .inl (y 3, 3, .inl g41)), (ma 50, .inl (y 0, 3200, .inl g50)), (ma 52, .inl (y 0, 1700, .inl zw))]) [7, 8, 0, 1, 2, 6, 3, 4, 5] rfl (by decide) ?_
                  refine j_locs (lv' := [(1, .int (nI mz)), (0, .ref mo)]) [3, 4] rfl ?_
                  have hz1 := bz_e c778
                  have hz0 := bz_le u1119.2.1
                  have hz2 : bz1 u1119.2.1 = 0 ∨ az + 1 ≤ u1119.1 := by
                    by_cases e : u1119.2.1 = 0
                    · right; have f0 := xh1123 e; have g0 := f0.2; omega
                    · exact Or.inl (bz_0 e)
                  have xh1124 : RS s0 f0 xx u1119.2.1 g50 zw cd zn az := rs_mono xh779 (fun _ => rfl)
                  exact ih751 (mz, u1119.1, u1119.2.1, zw, zn, u1059.2, u1119.2.2, z376) ⟨xh1122, (show t2 ≤ u1119.1 by omega), (show RS s0 f0 xx u1119.2.1 g50 zw cd zn u1119.1 from (rs_at xh1124 (by omega))), hT_, hS_, hb_⟩ (show 2 * (t3 - u1119.1) + bz1 u1119.2.1 + mz < 2 * (t3 - az) + bz1 bz + mz by omega)
                · refine j_aload_n (pc := 99) C d_Model_onePart_99 rfl 3 rfl ?_
                  refine j_get (pc := 100) C gf_Model_207 7 rfl rfl d_Model_onePart_100 ?_
                  refine j_goto (pc := 103) C (tgt := 107) d_Model_onePart_103 (by decide) ?_
                  refine j_istore (pc := 107) C (lv' := [(4, .int (nI u1106)), (3, .int 1), (2, .int r780), (1, .int (nI mz)), (0, .ref mo)]) d_Model_onePart_107 (by decide) rfl ?_
                  refine j_iload (pc := 109) C d_Model_onePart_109 0 rfl ?_
                  refine j_iconst (pc := 111) C (v := (-1)) d_Model_onePart_111 (by decide) ?_
                  refine j_icmp_eqF (pc := 112) C (tgt := 132) d_Model_onePart_112 (by decide) (nI_nm1 (by omega)) ?_
                  refine j_aload_n (pc := 115) C d_Model_onePart_115 rfl 4 rfl ?_
                  refine j_iload_n (pc := 116) C d_Model_onePart_116 rfl 1 rfl ?_
                  refine j_if_eqF (pc := 117) C (tgt := 125) d_Model_onePart_117 (by decide) (by decide) ?_
                  refine j_bipush (pc := 120) C (v := 21) d_Model_onePart_120 (by decide) ?_
                  refine j_goto (pc := 122) C (tgt := 127) d_Model_onePart_122 (by decide) ?_
                  refine j_iload (pc := 127) C d_Model_onePart_127 0 rfl ?_
                  refine j_callVv (pc := 129) C (c_M_opens l D y mo ma t1 u1106 t3 u1059.2 0 z375 i7 i8 i42 i49 cd zn z376 bs i61 i64 i66 t67 i76 i78 zw 21 (nI u1106) s0 xx f0 az g50 (by decide) (by omega) xh779 (by decide) hT_ hS_ hb_) kw_Model_353 kv_Model_opens 0 10 rfl rfl ⟨by decide, by decide⟩ ⟨by decide, by decide⟩ (wr := [(ma 37, .inl (y 3, 3, .inl g37)), (ma 38, .inl (y 3, 5, .inl g38)), (ma 39, .inl (y 3, 5, .inl g39)), (ma 41, .inl (y 3, 3, .inl g41)), (ma 50, .inl (y 0, 3200, .inl g50)), (ma 40, .inl (y 3, 3, .inl g40)), (ma 0, .inl (y 0, 1600, .inl g0))]) [7, 5] [0, 1, 2, 3, 4, 6, 8] rfl rfl (by decide) (by decide) (by decide) (As := [.int 21, .int (nI u1106)]) (rest := []) rfl (nb rfl) rfl d_Model_onePart_129 (fun u1125 hu1126 => ?_)
                  obtain ⟨xh1127, xh1128, xh1129, xh1130, xh1131, xh1132, xh1133⟩ := hu1126
                  refine j_ws (ws' := [(ma 37, .inl (y 3, 3, .inl g37)), (ma 38, .inl (y 3, 5, .inl g38)), (ma 39, .inl (y 3, 5, .inl g39)), (ma 41, .inl (y 3, 3, .inl g41)), (ma 50, .inl (y 0, 3200, .inl g50)), (ma 40, .inl (y 3, 3, .inl g40)), (ma 0, .inl (y 0, 1600, .inl g0)), MB mo ma (nI t1) (nI u1106) (nI t3) u1059.2 u1125.1 u1125.2.1 i7 i8 i42 i49 (nI cd) (nI u1125.2.2.1) u1125.2.2.2.1 (nI bs) i61 i64 i66 (nI t67) i76 i78, (ma 52, .inl (y 0, 1700, .inl u1125.2.2.2.2))]) rfl ?_
                  refine j_aload_n (pc := 132) C d_Model_onePart_132 rfl 4 rfl ?_
                  refine j_bipush (pc := 133) C (v := 40) d_Model_onePart_133 (by decide) ?_
                  refine j_callVv (pc := 135) C (c_M_asksSign l D y mo ma t1 u1106 t3 u1059.2 u1125.1 u1125.2.1 i7 i8 i42 i49 (nI cd) (nI u1125.2.2.1) u1125.2.2.2.1 (nI bs) i61 i64 i66 t67 i76 i78 g0 40 xh1108 he (by decide)) kw_Model_271 kv_Model_asksSign 0 10 rfl rfl ⟨by decide, by decide⟩ ⟨by decide, by decide⟩ (wr := [(ma 37, .inl (y 3, 3, .inl g37)), (ma 38, .inl (y 3, 5, .inl g38)), (ma 39, .inl (y 3, 5, .inl g39)), (ma 41, .inl (y 3, 3, .inl g41)), (ma 50, .inl (y 0, 3200, .inl g50)), (ma 40, .inl (y 3, 3, .inl g40)), (ma 52, .inl (y 0, 1700, .inl u1125.2.2.2.2))]) [7, 6] [0, 1, 2, 3, 4, 5, 8] rfl rfl (by decide) (by decide) (by decide) (As := [.int 40]) (rest := []) rfl (nb rfl) rfl d_Model_onePart_135 (fun u1134 hu1135 => ?_)
                  obtain ⟨xh1136, xh1137, xh1138⟩ := hu1135
                  refine j_ws (ws' := [(ma 37, .inl (y 3, 3, .inl g37)), (ma 38, .inl (y 3, 5, .inl g38)), (ma 39, .inl (y 3, 5, .inl g39)), (ma 41, .inl (y 3, 3, .inl g41)), (ma 50, .inl (y 0, 3200, .inl g50)), (ma 40, .inl (y 3, 3, .inl g40)), (ma 52, .inl (y 0, 1700, .inl u1125.2.2.2.2)), MB mo ma (nI t1) (nI u1134.1) (nI t3) u1059.2 u1134.2.1 u1134.2.2 i7 i8 i42 i49 (nI cd) (nI u1125.2.2.1) u1125.2.2.2.1 (nI bs) i61 i64 i66 (nI t67) i76 i78, (ma 0, .inl (y 0, 1600, .inl g0))]) rfl ?_
                  refine j_goto (pc := 138) C (tgt := 143) d_Model_onePart_138 (by decide) ?_
                  refine j_goto (pc := 143) C (tgt := 2) d_Model_onePart_143 (by decide) ?_
                  refine j_sub (ws' := [MB mo ma (nI t1) (nI u1134.1) (nI t3) u1059.2 u1134.2.1 u1134.2.2 i7 i8 i42 i49 (nI cd) (nI u1125.2.2.1) u1125.2.2.2.1 (nI bs) i61 i64 i66 (nI t67) i76 i78, (ma 0, .inl (y 0, 1600, .inl g0)), (ma 37, .inl (y 3, 3, .inl g37)), (ma 38, .inl (y 3, 5, .inl g38)), (ma 39, .inl (y 3, 5, .inl g39)), (ma 40, .inl (y 3, 3, .inl g40)), (ma 41, .inl (y 3, 3, .inl g41)), (ma 50, .inl (y 0, 3200, .inl g50)), (ma 52, .inl (y 0, 1700, .inl u1125.2.2.2.2))]) [7, 8, 0, 1, 2, 5, 3, 4, 6] rfl (by decide) ?_
                  refine j_locs (lv' := [(1, .int (nI mz)), (0, .ref mo)]) [3, 4] rfl ?_
                  have hz1 := bz_e c778
                  have hz0 := bz_le u1134.2.1
                  have hz2 : bz1 u1134.2.1 = 0 ∨ az + 1 ≤ u1134.1 := by
                    by_cases e : u1134.2.1 = 0
                    · right; have f0 := xh1138 e; have g0 := f0.2; have f1 := xh1129 f0.1; omega
                    · exact Or.inl (bz_0 e)
                  have xh1139 : RS s0 f0 xx u1134.2.1 g50 u1125.2.2.2.2 cd u1125.2.2.1 (az + 1) := rs_mono xh1130 (fun e => by have e0 := (xh1138 e).1; exact e0)
                  exact ih751 (mz, u1134.1, u1134.2.1, u1125.2.2.2.2, u1125.2.2.1, u1059.2, u1134.2.2, u1125.2.2.2.1) ⟨xh1137, (show t2 ≤ u1134.1 by omega), (show RS s0 f0 xx u1134.2.1 g50 u1125.2.2.2.2 cd u1125.2.2.1 u1134.1 from (rs_at xh1139 (by omega))), xh1132, xh1133, (show bs ≤ u1125.2.2.1 by omega)⟩ (show 2 * (t3 - u1134.1) + bz1 u1134.2.1 + mz < 2 * (t3 - az) + bz1 bz + mz by omega)
        · refine j_aload_n (pc := 24) C d_Model_onePart_24 rfl 2 rfl ?_
          refine j_bipush (pc := 25) C (v := 20) d_Model_onePart_25 (by decide) ?_
          refine j_aload_n (pc := 27) C d_Model_onePart_27 rfl 2 rfl ?_
          refine j_get (pc := 28) C gf_Model_207 7 rfl rfl d_Model_onePart_28 ?_
          refine j_callVv (pc := 31) C (c_M_opens l D y mo ma t1 u781 t3 z374 0 z375 i7 i8 i42 i49 cd zn z376 bs i61 i64 i66 t67 i76 i78 zw 20 (nI u781) s0 xx f0 az g50 (by decide) (by omega) xh779 (by decide) hT_ hS_ hb_) kw_Model_353 kv_Model_opens 0 10 rfl rfl ⟨by decide, by decide⟩ ⟨by decide, by decide⟩ (wr := [(ma 37, .inl (y 3, 3, .inl g37)), (ma 38, .inl (y 3, 5, .inl g38)), (ma 39, .inl (y 3, 5, .inl g39)), (ma 40, .inl (y 3, 3, .inl g40)), (ma 41, .inl (y 3, 3, .inl g41)), (ma 50, .inl (y 0, 3200, .inl g50)), (ma 0, .inl (y 0, 1600, .inl g0))]) [7, 6] [0, 1, 2, 3, 4, 5, 8] rfl rfl (by decide) (by decide) (by decide) (As := [.int 20, .int (nI u781)]) (rest := []) rfl (nb rfl) rfl d_Model_onePart_31 (fun u1140 hu1141 => ?_)
          obtain ⟨xh1142, xh1143, xh1144, xh1145, xh1146, xh1147, xh1148⟩ := hu1141
          refine j_ws (ws' := [(ma 37, .inl (y 3, 3, .inl g37)), (ma 38, .inl (y 3, 5, .inl g38)), (ma 39, .inl (y 3, 5, .inl g39)), (ma 40, .inl (y 3, 3, .inl g40)), (ma 41, .inl (y 3, 3, .inl g41)), (ma 50, .inl (y 0, 3200, .inl g50)), (ma 0, .inl (y 0, 1600, .inl g0)), MB mo ma (nI t1) (nI u781) (nI t3) z374 u1140.1 u1140.2.1 i7 i8 i42 i49 (nI cd) (nI u1140.2.2.1) u1140.2.2.2.1 (nI bs) i61 i64 i66 (nI t67) i76 i78, (ma 52, .inl (y 0, 1700, .inl u1140.2.2.2.2))]) rfl ?_
          refine j_aload_n (pc := 34) C d_Model_onePart_34 rfl 2 rfl ?_
          refine j_dup (pc := 35) C d_Model_onePart_35 rfl ?_
          refine j_get (pc := 36) C gf_Model_207 7 rfl rfl d_Model_onePart_36 ?_
          refine j_iconst (pc := 39) C (v := 1) d_Model_onePart_39 (by decide) ?_
          refine j_iadd (pc := 40) C (v := nI (u781 + 1)) d_Model_onePart_40 (nI_add _ _) ?_
          refine j_put (pc := 41) C pf_Model_207 7 (ws' := [(ma 37, .inl (y 3, 3, .inl g37)), (ma 38, .inl (y 3, 5, .inl g38)), (ma 39, .inl (y 3, 5, .inl g39)), (ma 40, .inl (y 3, 3, .inl g40)), (ma 41, .inl (y 3, 3, .inl g41)), (ma 50, .inl (y 0, 3200, .inl g50)), (ma 0, .inl (y 0, 1600, .inl g0)), MB mo ma (nI t1) (nI (u781 + 1)) (nI t3) z374 u1140.1 u1140.2.1 i7 i8 i42 i49 (nI cd) (nI u1140.2.2.1) u1140.2.2.2.1 (nI bs) i61 i64 i66 (nI t67) i76 i78, (ma 52, .inl (y 0, 1700, .inl u1140.2.2.2.2))]) rfl rfl rfl (nl rfl) rfl d_Model_onePart_41 ?_
          refine j_goto (pc := 44) C (tgt := 143) d_Model_onePart_44 (by decide) ?_
          refine j_goto (pc := 143) C (tgt := 2) d_Model_onePart_143 (by decide) ?_
          refine j_sub (ws' := [MB mo ma (nI t1) (nI (u781 + 1)) (nI t3) z374 u1140.1 u1140.2.1 i7 i8 i42 i49 (nI cd) (nI u1140.2.2.1) u1140.2.2.2.1 (nI bs) i61 i64 i66 (nI t67) i76 i78, (ma 0, .inl (y 0, 1600, .inl g0)), (ma 37, .inl (y 3, 3, .inl g37)), (ma 38, .inl (y 3, 5, .inl g38)), (ma 39, .inl (y 3, 5, .inl g39)), (ma 40, .inl (y 3, 3, .inl g40)), (ma 41, .inl (y 3, 3, .inl g41)), (ma 50, .inl (y 0, 3200, .inl g50)), (ma 52, .inl (y 0, 1700, .inl u1140.2.2.2.2))]) [7, 6, 0, 1, 2, 3, 4, 5, 8] rfl (by decide) ?_
          refine j_locs (lv' := [(1, .int (nI mz)), (0, .ref mo)]) [1, 2] rfl ?_
          have hz1 := bz_e c778
          have hz0 := bz_le u1140.1
          have hz2 : bz1 u1140.1 = 0 ∨ az + 1 ≤ (u781 + 1) := by
            by_cases e : u1140.1 = 0
            · right; have f0 := xh1144 e; omega
            · exact Or.inl (bz_0 e)
          exact ih751 (mz, (u781 + 1), u1140.1, u1140.2.2.2.2, u1140.2.2.1, z374, u1140.2.1, u1140.2.2.2.1) ⟨(show (u781 + 1) ≤ t3 by omega), (show t2 ≤ (u781 + 1) by omega), (show RS s0 f0 xx u1140.1 g50 u1140.2.2.2.2 cd u1140.2.2.1 (u781 + 1) from (rs_at xh1145 (by omega))), xh1147, xh1148, (show bs ≤ u1140.2.2.1 by omega)⟩ (show 2 * (t3 - (u781 + 1)) + bz1 u1140.1 + mz < 2 * (t3 - az) + bz1 bz + mz by omega)
