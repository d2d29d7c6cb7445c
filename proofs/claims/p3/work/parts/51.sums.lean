theorem top_s {w : Nat → Int32} {b n : Nat} {v : Int32} (hT : ITm w b) (e : w (n - 1) = v) (h1 : 1 ≤ n) (hb : b ≤ n) (hv : ¬ TIt v) : b < n := by
  rcases Nat.lt_or_ge b n with q | q
  · exact q
  · exact absurd (e ▸ hT (n - 1) (by omega)) hv
theorem num_ge {r : Int32} {q : Nat} (hq : q ≤ 9999) (e : r = nI q) : 1000 ≤ 1000 + r := by
  rw [e, show (1000 : Int32) + nI q = nI (1000 + q) from nI_add 1000 q]
  exact nI_le (a := 1000) (by omega) (by omega)
theorem d_Model_dropsToMark_0 : decode prog_13_method_37_code 0 = .ok (.aload_n 0, 1) := by decide +kernel
theorem d_Model_dropsToMark_1 : decode prog_13_method_37_code 1 = .ok (.getfield 292, 3) := by decide +kernel
theorem d_Model_dropsToMark_4 : decode prog_13_method_37_code 4 = .ok (.aload_n 0, 1) := by decide +kernel
theorem d_Model_dropsToMark_5 : decode prog_13_method_37_code 5 = .ok (.getfield 298, 3) := by decide +kernel
theorem d_Model_dropsToMark_8 : decode prog_13_method_37_code 8 = .ok (.if_icmp .le 28, 3) := by decide +kernel
theorem d_Model_dropsToMark_36 : decode prog_13_method_37_code 36 = .ok (.return_, 1) := by decide +kernel
theorem d_Model_dropsToMark_11 : decode prog_13_method_37_code 11 = .ok (.aload_n 0, 1) := by decide +kernel
theorem d_Model_dropsToMark_12 : decode prog_13_method_37_code 12 = .ok (.aload_n 0, 1) := by decide +kernel
theorem d_Model_dropsToMark_13 : decode prog_13_method_37_code 13 = .ok (.getfield 139, 3) := by decide +kernel
theorem d_Model_dropsToMark_16 : decode prog_13_method_37_code 16 = .ok (.aload_n 0, 1) := by decide +kernel
theorem d_Model_dropsToMark_17 : decode prog_13_method_37_code 17 = .ok (.getfield 292, 3) := by decide +kernel
theorem d_Model_dropsToMark_20 : decode prog_13_method_37_code 20 = .ok (.iconst 1, 1) := by decide +kernel
theorem d_Model_dropsToMark_21 : decode prog_13_method_37_code 21 = .ok (.isub, 1) := by decide +kernel
theorem d_Model_dropsToMark_22 : decode prog_13_method_37_code 22 = .ok (.iaload, 1) := by decide +kernel
theorem d_Model_dropsToMark_23 : decode prog_13_method_37_code 23 = .ok (.invokevirtual 347, 3) := by decide +kernel
theorem d_Model_dropsToMark_26 : decode prog_13_method_37_code 26 = .ok (.ifCond .ne 10, 3) := by decide +kernel
theorem d_Model_dropsToMark_29 : decode prog_13_method_37_code 29 = .ok (.aload_n 0, 1) := by decide +kernel
theorem d_Model_dropsToMark_30 : decode prog_13_method_37_code 30 = .ok (.invokevirtual 350, 3) := by decide +kernel
theorem kw_Model_350 : KW "NineBoardsModel" 350 ⟨"NineBoardsModel", "drops", "()V"⟩ prog_13_method_34_code 1 none 0 := ⟨(mt_6 (List.mem_of_getElem? (i := 231) rfl) rfl), (mt_1 (List.mem_of_getElem? (i := 16) rfl) rfl), (mt_6 (List.mem_of_getElem? (i := 234) rfl) rfl), by decide +kernel⟩
theorem kv_Model_drops : Cond.instanceMethod ⟨"NineBoardsModel", "drops", "()V"⟩ ∈ TB ∧ Cond.selects "NineBoardsModel" ⟨"NineBoardsModel", "drops", "()V"⟩ ⟨"NineBoardsModel", "drops", "()V"⟩ ∈ TB := ⟨(mt_6 (List.mem_of_getElem? (i := 233) rfl) rfl), (ms_0 (List.mem_map.mpr ⟨(⟨"NineBoardsModel", "drops", "()V"⟩, 79), List.mem_of_getElem? (i := 79) (by decide +kernel), rfl⟩) rfl)⟩
theorem d_Model_dropsToMark_33 : decode prog_13_method_37_code 33 = .ok (.goto (-33), 3) := by decide +kernel
set_option maxHeartbeats 4000000 in
set_option maxRecDepth 100000 in
theorem c_M_dropsToMark (l : Launch) (D : va_G) (y : Nat → ClassId) (mo : Nat) (ma : Nat → Nat) (t1 : Nat) (t2 : Nat) (t3 : Nat) (i4 : Int32) (i6 : Int32) (i7 : Int32) (i8 : Int32) (i42 : Int32) (i49 : Int32) (cd : Nat) (wn : Nat) (i54 : Int32) (bs : Nat) (i61 : Int32) (i64 : Int32) (i66 : Int32) (t67 : Nat) (i76 : Int64) (i78 : Int32) (g50 : Nat → Int32) (g52 : Nat → Int32) (s0 : Nat) (xx : Nat) (kq : Nat) (f0 : Nat → Int32) (ha : t2 ≤ t3) (he : t3 ≤ 1600) (hR : RS kq s0 f0 (xx + 1) 0 g50 g52 cd wn t2) (hT : ITm g52 bs) (hS : ISm g52 bs wn) (hbw : bs ≤ wn) (hK : 1 ≤ kq) : CT l D y ⟨"NineBoardsModel", "dropsToMark", "()V"⟩ prog_13_method_37_code 1 none ({ frames := 2, cells := 0, slots := 0, locals := 41 } : Room) [.ref mo] [MB mo ma (nI t1) (nI t2) (nI t3) i4 0 i6 i7 i8 i42 i49 (nI cd) (nI wn) i54 (nI bs) i61 i64 i66 (nI t67) i76 i78, (ma 50, .inl (y 0, 3200, .inl g50)), (ma 52, .inl (y 0, 1700, .inl g52))] (QV D [MB mo ma (nI t1) (nI t2) (nI t3) i4 0 i6 i7 i8 i42 i49 (nI cd) (nI wn) i54 (nI bs) i61 i64 i66 (nI t67) i76 i78, (ma 50, .inl (y 0, 3200, .inl g50)), (ma 52, .inl (y 0, 1700, .inl g52))] (fun (u : Nat × Nat × (Nat → Int32)) => bs ≤ u.2.1 ∧ u.2.1 ≤ wn ∧ u.1 + u.2.1 = cd + wn ∧ RS kq s0 f0 (xx + 1) 0 u.2.2 g52 u.1 u.2.1 t2 ∧ (u.2.1 = bs ∨ MK (g52 (u.2.1 - 1))) ∧ NMk g52 u.2.1 wn) (fun u => [MB mo ma (nI t1) (nI t2) (nI t3) i4 0 i6 i7 i8 i42 i49 (nI u.1) (nI u.2.1) i54 (nI bs) i61 i64 i66 (nI t67) i76 i78, (ma 50, .inl (y 0, 3200, .inl u.2.2)), (ma 52, .inl (y 0, 1700, .inl g52))])) := by
  refine CT.of (by decide) (nb rfl) ?_
  intro p e s m args below meth c C hr
  refine j_lv (lv' := [(0, .ref mo)]) rfl ?_
  refine j_loop (α := Nat × Nat × (Nat → Int32)) (fun a => a.1) (fun a => (bs ≤ a.1) ∧ (a.1 ≤ wn) ∧ (a.2.1 + a.1 = cd + wn) ∧ (RS kq s0 f0 (xx + 1) 0 a.2.2 g52 a.2.1 a.1 t2) ∧ (NMk g52 a.1 wn)) (fun a => [MB mo ma (nI t1) (nI t2) (nI t3) i4 0 i6 i7 i8 i42 i49 (nI a.2.1) (nI a.1) i54 (nI bs) i61 i64 i66 (nI t67) i76 i78, (ma 50, .inl (y 0, 3200, .inl a.2.2)), (ma 52, .inl (y 0, 1700, .inl g52))]) (fun a => [(0, .ref mo)]) (wn, cd, g50) rfl rfl ⟨hbw, (show wn ≤ wn by omega), (show cd + wn = cd + wn by omega), hR, nm_nil⟩ ?_
  rintro ⟨zn, zc, zf⟩ hP6 ih7
  obtain ⟨hb__, hn__, hsum__, hR__, hm__⟩ := hP6
  have hb_ : bs ≤ zn := hb__
  have hn_ : zn ≤ wn := hn__
  have hsum_ : zc + zn = cd + wn := hsum__
  have hR_ : RS kq s0 f0 (xx + 1) 0 zf g52 zc zn t2 := hR__
  have hm_ : NMk g52 zn wn := hm__
  refine j_ws (ws' := [MB mo ma (nI t1) (nI t2) (nI t3) i4 0 i6 i7 i8 i42 i49 (nI zc) (nI zn) i54 (nI bs) i61 i64 i66 (nI t67) i76 i78, (ma 50, .inl (y 0, 3200, .inl zf)), (ma 52, .inl (y 0, 1700, .inl g52))]) rfl ?_
  refine j_lv (lv' := [(0, .ref mo)]) rfl ?_
  have hac := rs_ac3 hR_
  refine j_aload_n (pc := 0) C d_Model_dropsToMark_0 rfl 0 rfl ?_
  refine j_get (pc := 1) C gf_Model_292 0 rfl rfl d_Model_dropsToMark_1 ?_
  refine j_aload_n (pc := 4) C d_Model_dropsToMark_4 rfl 0 rfl ?_
  refine j_get (pc := 5) C gf_Model_298 0 rfl rfl d_Model_dropsToMark_5 ?_
  by_cases c8 : zn ≤ bs
  · refine j_icmp_leT (pc := 8) C (tgt := 36) d_Model_dropsToMark_8 (by decide) (show nI zn ≤ nI bs from nI_le (by omega) (by omega)) ?_
    exact j_vret (pc := 36) C hr (zc, zn, zf) ⟨(show bs ≤ zn by omega), (show zn ≤ wn by omega), (show zc + zn = cd + wn by omega), hR_, (Or.inl (show zn = bs by omega)), hm_⟩ [0, 1, 2] rfl (by decide) (by decide) (by decide) d_Model_dropsToMark_36
  · refine j_icmp_leF (pc := 8) C (tgt := 36) d_Model_dropsToMark_8 (by decide) (show ¬ nI zn ≤ nI bs from nI_ge (by omega) (by omega)) ?_
    refine j_aload_n (pc := 11) C d_Model_dropsToMark_11 rfl 0 rfl ?_
    refine j_aload_n (pc := 12) C d_Model_dropsToMark_12 rfl 0 rfl ?_
    refine j_get (pc := 13) C gf_Model_139 0 rfl rfl d_Model_dropsToMark_13 ?_
    refine j_aload_n (pc := 16) C d_Model_dropsToMark_16 rfl 0 rfl ?_
    refine j_get (pc := 17) C gf_Model_292 0 rfl rfl d_Model_dropsToMark_17 ?_
    refine j_iconst (pc := 20) C (v := 1) d_Model_dropsToMark_20 (by decide) ?_
    refine j_isub (pc := 21) C (v := nI (zn - 1)) d_Model_dropsToMark_21 (pk_sub (a := zn) (b := 1) (by omega)) ?_
    refine j_iald (pc := 22) C 2 rfl (v := g52 (zn - 1)) (vp_in_nI (by omega) (by decide)) (by rw [nI_clamp (by omega)]) d_Model_dropsToMark_22 ?_
    refine j_callVi (pc := 23) C (c_M_isMark l D y mo ma t1 t2 t3 i4 0 i6 i7 i8 i42 i49 (nI zc) (nI zn) i54 (nI bs) i61 i64 i66 t67 i76 i78 (g52 (zn - 1))) kw_Model_347 kv_Model_isMark 0 10 rfl rfl ⟨by decide, by decide⟩ ⟨by decide, by decide⟩ (wr := [(ma 50, .inl (y 0, 3200, .inl zf)), (ma 52, .inl (y 0, 1700, .inl g52))]) [0] [1, 2] rfl rfl (by decide) (by decide) (by decide) (As := [.int (g52 (zn - 1))]) (rest := []) rfl (nb rfl) rfl d_Model_dropsToMark_23 (fun r9 _ hr9 => ?_)
    refine j_ws (ws' := [(ma 50, .inl (y 0, 3200, .inl zf)), (ma 52, .inl (y 0, 1700, .inl g52)), MB mo ma (nI t1) (nI t2) (nI t3) i4 0 i6 i7 i8 i42 i49 (nI zc) (nI zn) i54 (nI bs) i61 i64 i66 (nI t67) i76 i78]) rfl ?_
    rcases hr9 with ⟨rfl, xh11⟩ | ⟨rfl, xh12⟩
    · refine j_if_neF (pc := 26) C (tgt := 36) d_Model_dropsToMark_26 (by decide) (by decide) ?_
      refine j_aload_n (pc := 29) C d_Model_dropsToMark_29 rfl 0 rfl ?_
      refine j_callVv (pc := 30) C (c_M_drops l D y mo ma t1 t2 t3 i4 0 i6 i7 i8 i42 i49 zc zn i54 (nI bs) i61 i64 i66 t67 i76 i78 zf g52 (by omega) (by omega) (by omega)) kw_Model_350 kv_Model_drops 0 10 rfl rfl ⟨by decide, by decide⟩ ⟨by decide, by decide⟩ (wr := []) [2, 0, 1] [] rfl rfl (by decide) (by decide) (by decide) (As := []) (rest := []) rfl (nb rfl) rfl d_Model_dropsToMark_30 (fun _ _ => ?_)
      refine j_ws (ws' := [MB mo ma (nI t1) (nI t2) (nI t3) i4 0 i6 i7 i8 i42 i49 (nI (zc + 1)) (nI (zn - 1)) i54 (nI bs) i61 i64 i66 (nI t67) i76 i78, (ma 50, .inl (y 0, 3200, .inl (upd zf zc (g52 (zn - 1))))), (ma 52, .inl (y 0, 1700, .inl g52))]) rfl ?_
      refine j_goto (pc := 33) C (tgt := 0) d_Model_dropsToMark_33 (by decide) ?_
      exact ih7 ((zn - 1), (zc + 1), (upd zf zc (g52 (zn - 1)))) ⟨(show bs ≤ (zn - 1) by omega), (show (zn - 1) ≤ wn by omega), (show (zc + 1) + (zn - 1) = cd + wn by omega), (show RS kq s0 f0 (xx + 1) 0 (upd zf zc (g52 (zn - 1))) g52 (zc + 1) (zn - 1) t2 from rs_drop hR_ (by omega) (show zn = zn - 1 + 1 by omega) (Or.inl (si_nm (hS (zn - 1) (by omega) (by omega)) xh11))), (nm_dn hm_ (by omega) xh11)⟩ (show (zn - 1) < zn by omega)
    · refine j_if_neT (pc := 26) C (tgt := 36) d_Model_dropsToMark_26 (by decide) (by decide) ?_
      exact j_vret (pc := 36) C hr (zc, zn, zf) ⟨(show bs ≤ zn by omega), (show zn ≤ wn by omega), (show zc + zn = cd + wn by omega), hR_, (Or.inr xh12), hm_⟩ [2, 0, 1] rfl (by decide) (by decide) (by decide) d_Model_dropsToMark_36
theorem d_Model_onePart_0 : decode prog_13_method_38_code 0 = .ok (.iconst 1, 1) := by decide +kernel
theorem d_Model_onePart_1 : decode prog_13_method_38_code 1 = .ok (.istore_n 1, 1) := by decide +kernel
theorem d_Model_onePart_2 : decode prog_13_method_38_code 2 = .ok (.iload_n 1, 1) := by decide +kernel
theorem d_Model_onePart_3 : decode prog_13_method_38_code 3 = .ok (.ifCond .eq 143, 3) := by decide +kernel
theorem d_Model_onePart_146 : decode prog_13_method_38_code 146 = .ok (.aload_n 0, 1) := by decide +kernel
theorem d_Model_onePart_147 : decode prog_13_method_38_code 147 = .ok (.getfield 201, 3) := by decide +kernel
theorem d_Model_onePart_150 : decode prog_13_method_38_code 150 = .ok (.ifCond .eq 4, 3) := by decide +kernel
theorem d_Model_onePart_154 : decode prog_13_method_38_code 154 = .ok (.aload_n 0, 1) := by decide +kernel
theorem d_Model_onePart_155 : decode prog_13_method_38_code 155 = .ok (.aload_n 0, 1) := by decide +kernel
theorem d_Model_onePart_156 : decode prog_13_method_38_code 156 = .ok (.getfield 102, 3) := by decide +kernel
theorem d_Model_onePart_159 : decode prog_13_method_38_code 159 = .ok (.invokevirtual 228, 3) := by decide +kernel
theorem d_Model_onePart_162 : decode prog_13_method_38_code 162 = .ok (.ifCond .eq 8, 3) := by decide +kernel
theorem d_Model_onePart_170 : decode prog_13_method_38_code 170 = .ok (.aload_n 0, 1) := by decide +kernel
theorem d_Model_onePart_171 : decode prog_13_method_38_code 171 = .ok (.aload_n 0, 1) := by decide +kernel
theorem d_Model_onePart_172 : decode prog_13_method_38_code 172 = .ok (.getfield 105, 3) := by decide +kernel
theorem d_Model_onePart_175 : decode prog_13_method_38_code 175 = .ok (.invokevirtual 228, 3) := by decide +kernel
theorem d_Model_onePart_178 : decode prog_13_method_38_code 178 = .ok (.ifCond .eq 8, 3) := by decide +kernel
theorem d_Model_onePart_186 : decode prog_13_method_38_code 186 = .ok (.aload_n 0, 1) := by decide +kernel
theorem d_Model_onePart_187 : decode prog_13_method_38_code 187 = .ok (.aload_n 0, 1) := by decide +kernel
theorem d_Model_onePart_188 : decode prog_13_method_38_code 188 = .ok (.getfield 108, 3) := by decide +kernel
theorem d_Model_onePart_191 : decode prog_13_method_38_code 191 = .ok (.invokevirtual 228, 3) := by decide +kernel
theorem d_Model_onePart_194 : decode prog_13_method_38_code 194 = .ok (.ifCond .eq 8, 3) := by decide +kernel
theorem d_Model_onePart_202 : decode prog_13_method_38_code 202 = .ok (.iconst (-1), 1) := by decide +kernel
theorem d_Model_onePart_203 : decode prog_13_method_38_code 203 = .ok (.istore_n 2, 1) := by decide +kernel
theorem d_Model_onePart_204 : decode prog_13_method_38_code 204 = .ok (.aload_n 0, 1) := by decide +kernel
theorem d_Model_onePart_205 : decode prog_13_method_38_code 205 = .ok (.iload_n 2, 1) := by decide +kernel
theorem d_Model_onePart_206 : decode prog_13_method_38_code 206 = .ok (.iconst (-1), 1) := by decide +kernel
theorem d_Model_onePart_207 : decode prog_13_method_38_code 207 = .ok (.if_icmp .eq 7, 3) := by decide +kernel
theorem d_Model_onePart_214 : decode prog_13_method_38_code 214 = .ok (.sipush 1000, 3) := by decide +kernel
theorem d_Model_onePart_217 : decode prog_13_method_38_code 217 = .ok (.aload_n 0, 1) := by decide +kernel
theorem d_Model_onePart_218 : decode prog_13_method_38_code 218 = .ok (.iconst 0, 1) := by decide +kernel
theorem d_Model_onePart_219 : decode prog_13_method_38_code 219 = .ok (.sipush 9999, 3) := by decide +kernel
theorem d_Model_onePart_222 : decode prog_13_method_38_code 222 = .ok (.invokevirtual 267, 3) := by decide +kernel
theorem kw_Model_267 : KW "NineBoardsModel" 267 ⟨"NineBoardsModel", "number", "(II)I"⟩ prog_13_method_14_code 5 (some .int) 2 := ⟨(mt_6 (List.mem_of_getElem? (i := 127) rfl) rfl), (mt_1 (List.mem_of_getElem? (i := 16) rfl) rfl), (mt_6 (List.mem_of_getElem? (i := 130) rfl) rfl), by decide +kernel⟩
theorem kv_Model_number : Cond.instanceMethod ⟨"NineBoardsModel", "number", "(II)I"⟩ ∈ TB ∧ Cond.selects "NineBoardsModel" ⟨"NineBoardsModel", "number", "(II)I"⟩ ⟨"NineBoardsModel", "number", "(II)I"⟩ ∈ TB := ⟨(mt_6 (List.mem_of_getElem? (i := 129) rfl) rfl), (ms_0 (List.mem_map.mpr ⟨(⟨"NineBoardsModel", "number", "(II)I"⟩, 79), List.mem_of_getElem? (i := 55) (by decide +kernel), rfl⟩) rfl)⟩
theorem d_Model_onePart_225 : decode prog_13_method_38_code 225 = .ok (.iadd, 1) := by decide +kernel
theorem d_Model_onePart_226 : decode prog_13_method_38_code 226 = .ok (.invokevirtual 344, 3) := by decide +kernel
theorem d_Model_onePart_229 : decode prog_13_method_38_code 229 = .ok (.return_, 1) := by decide +kernel
theorem d_Model_onePart_197 : decode prog_13_method_38_code 197 = .ok (.bipush 9, 2) := by decide +kernel
theorem d_Model_onePart_199 : decode prog_13_method_38_code 199 = .ok (.goto 4, 3) := by decide +kernel
theorem d_Model_onePart_210 : decode prog_13_method_38_code 210 = .ok (.iload_n 2, 1) := by decide +kernel
theorem d_Model_onePart_211 : decode prog_13_method_38_code 211 = .ok (.goto 15, 3) := by decide +kernel
theorem d_Model_onePart_181 : decode prog_13_method_38_code 181 = .ok (.bipush 8, 2) := by decide +kernel
theorem d_Model_onePart_183 : decode prog_13_method_38_code 183 = .ok (.goto 20, 3) := by decide +kernel
theorem d_Model_onePart_165 : decode prog_13_method_38_code 165 = .ok (.bipush 7, 2) := by decide +kernel
theorem d_Model_onePart_167 : decode prog_13_method_38_code 167 = .ok (.goto 36, 3) := by decide +kernel
theorem d_Model_onePart_153 : decode prog_13_method_38_code 153 = .ok (.return_, 1) := by decide +kernel
theorem d_Model_onePart_6 : decode prog_13_method_38_code 6 = .ok (.aload_n 0, 1) := by decide +kernel
theorem d_Model_onePart_7 : decode prog_13_method_38_code 7 = .ok (.getfield 201, 3) := by decide +kernel
theorem d_Model_onePart_10 : decode prog_13_method_38_code 10 = .ok (.ifCond .ne 136, 3) := by decide +kernel
theorem d_Model_onePart_13 : decode prog_13_method_38_code 13 = .ok (.aload_n 0, 1) := by decide +kernel
theorem d_Model_onePart_14 : decode prog_13_method_38_code 14 = .ok (.invokevirtual 213, 3) := by decide +kernel
theorem d_Model_onePart_17 : decode prog_13_method_38_code 17 = .ok (.istore_n 2, 1) := by decide +kernel
theorem d_Model_onePart_18 : decode prog_13_method_38_code 18 = .ok (.iload_n 2, 1) := by decide +kernel
theorem d_Model_onePart_19 : decode prog_13_method_38_code 19 = .ok (.bipush 40, 2) := by decide +kernel
theorem d_Model_onePart_21 : decode prog_13_method_38_code 21 = .ok (.if_icmp .ne 26, 3) := by decide +kernel
theorem d_Model_onePart_47 : decode prog_13_method_38_code 47 = .ok (.aload_n 0, 1) := by decide +kernel
theorem d_Model_onePart_48 : decode prog_13_method_38_code 48 = .ok (.aload_n 0, 1) := by decide +kernel
theorem d_Model_onePart_49 : decode prog_13_method_38_code 49 = .ok (.getfield 111, 3) := by decide +kernel
theorem d_Model_onePart_52 : decode prog_13_method_38_code 52 = .ok (.invokevirtual 224, 3) := by decide +kernel
theorem d_Model_onePart_55 : decode prog_13_method_38_code 55 = .ok (.ifCond .ne 14, 3) := by decide +kernel
theorem d_Model_onePart_58 : decode prog_13_method_38_code 58 = .ok (.aload_n 0, 1) := by decide +kernel
theorem d_Model_onePart_59 : decode prog_13_method_38_code 59 = .ok (.aload_n 0, 1) := by decide +kernel
theorem d_Model_onePart_60 : decode prog_13_method_38_code 60 = .ok (.getfield 114, 3) := by decide +kernel
theorem d_Model_onePart_63 : decode prog_13_method_38_code 63 = .ok (.invokevirtual 224, 3) := by decide +kernel
theorem d_Model_onePart_66 : decode prog_13_method_38_code 66 = .ok (.ifCond .eq 75, 3) := by decide +kernel
theorem d_Model_onePart_141 : decode prog_13_method_38_code 141 = .ok (.iconst 0, 1) := by decide +kernel
theorem d_Model_onePart_142 : decode prog_13_method_38_code 142 = .ok (.istore_n 1, 1) := by decide +kernel
theorem d_Model_onePart_143 : decode prog_13_method_38_code 143 = .ok (.goto (-141), 3) := by decide +kernel
theorem d_Model_onePart_69 : decode prog_13_method_38_code 69 = .ok (.aload_n 0, 1) := by decide +kernel
theorem d_Model_onePart_70 : decode prog_13_method_38_code 70 = .ok (.aload_n 0, 1) := by decide +kernel
theorem d_Model_onePart_71 : decode prog_13_method_38_code 71 = .ok (.getfield 111, 3) := by decide +kernel
theorem d_Model_onePart_74 : decode prog_13_method_38_code 74 = .ok (.invokevirtual 228, 3) := by decide +kernel
theorem d_Model_onePart_77 : decode prog_13_method_38_code 77 = .ok (.istore_n 3, 1) := by decide +kernel
theorem d_Model_onePart_78 : decode prog_13_method_38_code 78 = .ok (.iload_n 3, 1) := by decide +kernel
theorem d_Model_onePart_79 : decode prog_13_method_38_code 79 = .ok (.ifCond .ne 11, 3) := by decide +kernel
theorem d_Model_onePart_82 : decode prog_13_method_38_code 82 = .ok (.aload_n 0, 1) := by decide +kernel
theorem d_Model_onePart_83 : decode prog_13_method_38_code 83 = .ok (.aload_n 0, 1) := by decide +kernel
theorem d_Model_onePart_84 : decode prog_13_method_38_code 84 = .ok (.getfield 114, 3) := by decide +kernel
theorem d_Model_onePart_87 : decode prog_13_method_38_code 87 = .ok (.invokevirtual 263, 3) := by decide +kernel
theorem kw_Model_263 : KW "NineBoardsModel" 263 ⟨"NineBoardsModel", "asks", "([C)V"⟩ prog_13_method_11_code 2 none 1 := ⟨(mt_6 (List.mem_of_getElem? (i := 104) rfl) rfl), (mt_1 (List.mem_of_getElem? (i := 16) rfl) rfl), (mt_6 (List.mem_of_getElem? (i := 107) rfl) rfl), by decide +kernel⟩
theorem kv_Model_asks : Cond.instanceMethod ⟨"NineBoardsModel", "asks", "([C)V"⟩ ∈ TB ∧ Cond.selects "NineBoardsModel" ⟨"NineBoardsModel", "asks", "([C)V"⟩ ⟨"NineBoardsModel", "asks", "([C)V"⟩ ∈ TB := ⟨(mt_6 (List.mem_of_getElem? (i := 106) rfl) rfl), (ms_0 (List.mem_map.mpr ⟨(⟨"NineBoardsModel", "asks", "([C)V"⟩, 79), List.mem_of_getElem? (i := 50) (by decide +kernel), rfl⟩) rfl)⟩
theorem d_Model_onePart_90 : decode prog_13_method_38_code 90 = .ok (.aload_n 0, 1) := by decide +kernel
theorem d_Model_onePart_91 : decode prog_13_method_38_code 91 = .ok (.invokevirtual 213, 3) := by decide +kernel
theorem d_Model_onePart_94 : decode prog_13_method_38_code 94 = .ok (.bipush 40, 2) := by decide +kernel
theorem d_Model_onePart_96 : decode prog_13_method_38_code 96 = .ok (.if_icmp .ne 10, 3) := by decide +kernel
theorem d_Model_onePart_106 : decode prog_13_method_38_code 106 = .ok (.iconst (-1), 1) := by decide +kernel
theorem d_Model_onePart_107 : decode prog_13_method_38_code 107 = .ok (.istore 4, 2) := by decide +kernel
theorem d_Model_onePart_109 : decode prog_13_method_38_code 109 = .ok (.iload 4, 2) := by decide +kernel
theorem d_Model_onePart_111 : decode prog_13_method_38_code 111 = .ok (.iconst (-1), 1) := by decide +kernel
theorem d_Model_onePart_112 : decode prog_13_method_38_code 112 = .ok (.if_icmp .eq 20, 3) := by decide +kernel
theorem d_Model_onePart_132 : decode prog_13_method_38_code 132 = .ok (.aload_n 0, 1) := by decide +kernel
theorem d_Model_onePart_133 : decode prog_13_method_38_code 133 = .ok (.bipush 40, 2) := by decide +kernel
theorem d_Model_onePart_135 : decode prog_13_method_38_code 135 = .ok (.invokevirtual 271, 3) := by decide +kernel
theorem kw_Model_271 : KW "NineBoardsModel" 271 ⟨"NineBoardsModel", "asksSign", "(I)V"⟩ prog_13_method_13_code 2 none 1 := ⟨(mt_6 (List.mem_of_getElem? (i := 137) rfl) rfl), (mt_1 (List.mem_of_getElem? (i := 16) rfl) rfl), (mt_6 (List.mem_of_getElem? (i := 140) rfl) rfl), by decide +kernel⟩
theorem kv_Model_asksSign : Cond.instanceMethod ⟨"NineBoardsModel", "asksSign", "(I)V"⟩ ∈ TB ∧ Cond.selects "NineBoardsModel" ⟨"NineBoardsModel", "asksSign", "(I)V"⟩ ⟨"NineBoardsModel", "asksSign", "(I)V"⟩ ∈ TB := ⟨(mt_6 (List.mem_of_getElem? (i := 139) rfl) rfl), (ms_0 (List.mem_map.mpr ⟨(⟨"NineBoardsModel", "asksSign", "(I)V"⟩, 79), List.mem_of_getElem? (i := 56) (by decide +kernel), rfl⟩) rfl)⟩
theorem d_Model_onePart_138 : decode prog_13_method_38_code 138 = .ok (.goto 5, 3) := by decide +kernel
theorem d_Model_onePart_99 : decode prog_13_method_38_code 99 = .ok (.aload_n 0, 1) := by decide +kernel
theorem d_Model_onePart_100 : decode prog_13_method_38_code 100 = .ok (.getfield 207, 3) := by decide +kernel
theorem d_Model_onePart_103 : decode prog_13_method_38_code 103 = .ok (.goto 4, 3) := by decide +kernel
theorem d_Model_onePart_115 : decode prog_13_method_38_code 115 = .ok (.aload_n 0, 1) := by decide +kernel
theorem d_Model_onePart_116 : decode prog_13_method_38_code 116 = .ok (.iload_n 3, 1) := by decide +kernel
theorem d_Model_onePart_117 : decode prog_13_method_38_code 117 = .ok (.ifCond .eq 8, 3) := by decide +kernel
theorem d_Model_onePart_125 : decode prog_13_method_38_code 125 = .ok (.bipush 22, 2) := by decide +kernel
theorem d_Model_onePart_127 : decode prog_13_method_38_code 127 = .ok (.iload 4, 2) := by decide +kernel
theorem d_Model_onePart_129 : decode prog_13_method_38_code 129 = .ok (.invokevirtual 353, 3) := by decide +kernel
theorem kw_Model_353 : KW "NineBoardsModel" 353 ⟨"NineBoardsModel", "opens", "(II)V"⟩ prog_13_method_32_code 3 none 2 := ⟨(mt_6 (List.mem_of_getElem? (i := 207) rfl) rfl), (mt_1 (List.mem_of_getElem? (i := 16) rfl) rfl), (mt_6 (List.mem_of_getElem? (i := 210) rfl) rfl), by decide +kernel⟩
theorem kv_Model_opens : Cond.instanceMethod ⟨"NineBoardsModel", "opens", "(II)V"⟩ ∈ TB ∧ Cond.selects "NineBoardsModel" ⟨"NineBoardsModel", "opens", "(II)V"⟩ ⟨"NineBoardsModel", "opens", "(II)V"⟩ ∈ TB := ⟨(mt_6 (List.mem_of_getElem? (i := 209) rfl) rfl), (ms_0 (List.mem_map.mpr ⟨(⟨"NineBoardsModel", "opens", "(II)V"⟩, 79), List.mem_of_getElem? (i := 73) (by decide +kernel), rfl⟩) rfl)⟩
theorem d_Model_onePart_120 : decode prog_13_method_38_code 120 = .ok (.bipush 21, 2) := by decide +kernel
theorem d_Model_onePart_122 : decode prog_13_method_38_code 122 = .ok (.goto 5, 3) := by decide +kernel
theorem d_Model_onePart_24 : decode prog_13_method_38_code 24 = .ok (.aload_n 0, 1) := by decide +kernel
theorem d_Model_onePart_25 : decode prog_13_method_38_code 25 = .ok (.bipush 20, 2) := by decide +kernel
theorem d_Model_onePart_27 : decode prog_13_method_38_code 27 = .ok (.aload_n 0, 1) := by decide +kernel
theorem d_Model_onePart_28 : decode prog_13_method_38_code 28 = .ok (.getfield 207, 3) := by decide +kernel
theorem d_Model_onePart_31 : decode prog_13_method_38_code 31 = .ok (.invokevirtual 353, 3) := by decide +kernel
theorem d_Model_onePart_34 : decode prog_13_method_38_code 34 = .ok (.aload_n 0, 1) := by decide +kernel
theorem d_Model_onePart_35 : decode prog_13_method_38_code 35 = .ok (.dup, 1) := by decide +kernel
theorem d_Model_onePart_36 : decode prog_13_method_38_code 36 = .ok (.getfield 207, 3) := by decide +kernel
theorem d_Model_onePart_39 : decode prog_13_method_38_code 39 = .ok (.iconst 1, 1) := by decide +kernel
theorem d_Model_onePart_40 : decode prog_13_method_38_code 40 = .ok (.iadd, 1) := by decide +kernel
theorem d_Model_onePart_41 : decode prog_13_method_38_code 41 = .ok (.putfield 207, 3) := by decide +kernel
theorem d_Model_onePart_44 : decode prog_13_method_38_code 44 = .ok (.goto 99, 3) := by decide +kernel
set_option maxHeartbeats 4000000 in
set_option maxRecDepth 100000 in
theorem c_M_onePart (l : Launch) (D : va_G) (y : Nat → ClassId) (mo : Nat) (ma : Nat → Nat) (t1 : Nat) (t2 : Nat) (t3 : Nat) (i4 : Int32) (i6 : Int32) (i7 : Int32) (i8 : Int32) (i42 : Int32) (i49 : Int32) (cd : Nat) (wn : Nat) (i54 : Int32) (bs : Nat) (i61 : Int32) (i64 : Int32) (i66 : Int32) (t67 : Nat) (i76 : Int64) (i78 : Int32) (g0 : Nat → Int32) (g37 : Nat → Int32) (g38 : Nat → Int32) (g39 : Nat → Int32) (g40 : Nat → Int32) (g41 : Nat → Int32) (g50 : Nat → Int32) (g52 : Nat → Int32) (s0 : Nat) (xx : Nat) (kq : Nat) (f0 : Nat → Int32) (ha : t2 ≤ t3) (he : t3 ≤ 1600) (hR : RS kq s0 f0 xx 0 g50 g52 cd wn t2) (hT : ITm g52 bs) (hS : ISm g52 bs wn) (hbw : bs ≤ wn) (hK : 1 ≤ kq) : CT l D y ⟨"NineBoardsModel", "onePart", "()V"⟩ prog_13_method_38_code 5 none ({ frames := 4, cells := 0, slots := 0, locals := 85 } : Room) [.ref mo] [MB mo ma (nI t1) (nI t2) (nI t3) i4 0 i6 i7 i8 i42 i49 (nI cd) (nI wn) i54 (nI bs) i61 i64 i66 (nI t67) i76 i78, (ma 0, .inl (y 0, 1600, .inl g0)), (ma 37, .inl (y 3, 3, .inl g37)), (ma 38, .inl (y 3, 5, .inl g38)), (ma 39, .inl (y 3, 5, .inl g39)), (ma 40, .inl (y 3, 3, .inl g40)), (ma 41, .inl (y 3, 3, .inl g41)), (ma 50, .inl (y 0, 3200, .inl g50)), (ma 52, .inl (y 0, 1700, .inl g52))] (QV D [MB mo ma (nI t1) (nI t2) (nI t3) i4 0 i6 i7 i8 i42 i49 (nI cd) (nI wn) i54 (nI bs) i61 i64 i66 (nI t67) i76 i78, (ma 0, .inl (y 0, 1600, .inl g0)), (ma 37, .inl (y 3, 3, .inl g37)), (ma 38, .inl (y 3, 5, .inl g38)), (ma 39, .inl (y 3, 5, .inl g39)), (ma 40, .inl (y 3, 3, .inl g40)), (ma 41, .inl (y 3, 3, .inl g41)), (ma 50, .inl (y 0, 3200, .inl g50)), (ma 52, .inl (y 0, 1700, .inl g52))] (fun (u : Nat × Int32 × Int32 × Int32 × Nat × Nat × Int32 × (Nat → Int32) × (Nat → Int32)) => t2 ≤ u.1 ∧ u.1 ≤ t3 ∧ (u.2.2.1 = 0 → 0 = 0 ∧ t2 < u.1) ∧ RS kq s0 f0 (xx + 1) u.2.2.1 u.2.2.2.2.2.2.2.1 u.2.2.2.2.2.2.2.2 u.2.2.2.2.1 u.2.2.2.2.2.1 u.1 ∧ ITm u.2.2.2.2.2.2.2.2 bs ∧ ISm u.2.2.2.2.2.2.2.2 bs u.2.2.2.2.2.1 ∧ bs ≤ u.2.2.2.2.2.1) (fun u => [MB mo ma (nI t1) (nI u.1) (nI t3) u.2.1 u.2.2.1 u.2.2.2.1 i7 i8 i42 i49 (nI u.2.2.2.2.1) (nI u.2.2.2.2.2.1) u.2.2.2.2.2.2.1 (nI bs) i61 i64 i66 (nI t67) i76 i78, (ma 0, .inl (y 0, 1600, .inl g0)), (ma 37, .inl (y 3, 3, .inl g37)), (ma 38, .inl (y 3, 5, .inl g38)), (ma 39, .inl (y 3, 5, .inl g39)), (ma 40, .inl (y 3, 3, .inl g40)), (ma 41, .inl (y 3, 3, .inl g41)), (ma 50, .inl (y 0, 3200, .inl u.2.2.2.2.2.2.2.1)), (ma 52, .inl (y 0, 1700, .inl u.2.2.2.2.2.2.2.2))])) := by
  refine CT.of (by decide) (nb rfl) ?_
  intro p e s m args below meth c C hr
  refine j_lv (lv' := [(0, .ref mo)]) rfl ?_
  refine j_iconst (pc := 0) C (v := 1) d_Model_onePart_0 (by decide) ?_
  refine j_istore_n (pc := 1) C (lv' := [(1, .int 1), (0, .ref mo)]) d_Model_onePart_1 rfl (by decide) rfl ?_
  refine j_loop (α := Nat × Nat × Int32 × (Nat → Int32) × Nat × Int32 × Int32 × Int32) (fun a => 2 * (t3 - a.2.1) + bz1 a.2.2.1 + a.1) (fun a => (a.1 ≤ 1) ∧ (a.2.1 ≤ t3) ∧ (t2 ≤ a.2.1) ∧ (RS kq s0 f0 xx a.2.2.1 g50 a.2.2.2.1 cd a.2.2.2.2.1 a.2.1) ∧ (ITm a.2.2.2.1 bs) ∧ (ISm a.2.2.2.1 bs a.2.2.2.2.1) ∧ (bs ≤ a.2.2.2.2.1)) (fun a => [MB mo ma (nI t1) (nI a.2.1) (nI t3) a.2.2.2.2.2.1 a.2.2.1 a.2.2.2.2.2.2.1 i7 i8 i42 i49 (nI cd) (nI a.2.2.2.2.1) a.2.2.2.2.2.2.2 (nI bs) i61 i64 i66 (nI t67) i76 i78, (ma 0, .inl (y 0, 1600, .inl g0)), (ma 37, .inl (y 3, 3, .inl g37)), (ma 38, .inl (y 3, 5, .inl g38)), (ma 39, .inl (y 3, 5, .inl g39)), (ma 40, .inl (y 3, 3, .inl g40)), (ma 41, .inl (y 3, 3, .inl g41)), (ma 50, .inl (y 0, 3200, .inl g50)), (ma 52, .inl (y 0, 1700, .inl a.2.2.2.1))]) (fun a => [(1, .int (nI a.1)), (0, .ref mo)]) (1, t2, 0, g52, wn, i4, i6, i54) rfl rfl ⟨(show 1 ≤ 1 by omega), ha, (show t2 ≤ t2 by omega), (show RS kq s0 f0 xx 0 g50 g52 cd wn t2 from (rs_at hR (by omega))), hT, hS, hbw⟩ ?_
  rintro ⟨mz, az, bz, zw, zn, z510, z511, z512⟩ hP1022 ih1023
  obtain ⟨hmz__, hz__, hy__, hR__, hT__, hS__, hb__⟩ := hP1022
  have hmz_ : mz ≤ 1 := hmz__
  have hz_ : az ≤ t3 := hz__
  have hy_ : t2 ≤ az := hy__
  have hR_ : RS kq s0 f0 xx bz g50 zw cd zn az := hR__
  have hT_ : ITm zw bs := hT__
  have hS_ : ISm zw bs zn := hS__
  have hb_ : bs ≤ zn := hb__
  refine j_ws (ws' := [MB mo ma (nI t1) (nI az) (nI t3) z510 bz z511 i7 i8 i42 i49 (nI cd) (nI zn) z512 (nI bs) i61 i64 i66 (nI t67) i76 i78, (ma 0, .inl (y 0, 1600, .inl g0)), (ma 37, .inl (y 3, 3, .inl g37)), (ma 38, .inl (y 3, 5, .inl g38)), (ma 39, .inl (y 3, 5, .inl g39)), (ma 40, .inl (y 3, 3, .inl g40)), (ma 41, .inl (y 3, 3, .inl g41)), (ma 50, .inl (y 0, 3200, .inl g50)), (ma 52, .inl (y 0, 1700, .inl zw))]) rfl ?_
  refine j_lv (lv' := [(1, .int (nI mz)), (0, .ref mo)]) rfl ?_
  have hac := rs_acc hR_
  refine j_iload_n (pc := 2) C d_Model_onePart_2 rfl 0 rfl ?_
  by_cases c1024 : mz = 0
  · refine j_if_eqT (pc := 3) C (tgt := 146) d_Model_onePart_3 (by decide) (show nI mz = nI 0 from (nI_eq (by omega) (by omega)).mpr (by omega)) ?_
    refine j_aload_n (pc := 146) C d_Model_onePart_146 rfl 1 rfl ?_
    refine j_get (pc := 147) C gf_Model_201 0 rfl rfl d_Model_onePart_147 ?_
    refine j_if_eq (pc := 150) C (tgt := 154) d_Model_onePart_150 (by decide) (fun c1025 => ?_) (fun c1025 => ?_)
    · refine j_ws (ws' := [MB mo ma (nI t1) (nI az) (nI t3) z510 0 z511 i7 i8 i42 i49 (nI cd) (nI zn) z512 (nI bs) i61 i64 i66 (nI t67) i76 i78, (ma 0, .inl (y 0, 1600, .inl g0)), (ma 37, .inl (y 3, 3, .inl g37)), (ma 38, .inl (y 3, 5, .inl g38)), (ma 39, .inl (y 3, 5, .inl g39)), (ma 40, .inl (y 3, 3, .inl g40)), (ma 41, .inl (y 3, 3, .inl g41)), (ma 50, .inl (y 0, 3200, .inl g50)), (ma 52, .inl (y 0, 1700, .inl zw))]) (by rw [c1025]) ?_
      have xh1026 : RS kq s0 f0 xx 0 g50 zw cd zn az := rs_z hR_ c1025
      have hac4 := rs_ac3 xh1026
      refine j_aload_n (pc := 154) C d_Model_onePart_154 rfl 1 rfl ?_
      refine j_aload_n (pc := 155) C d_Model_onePart_155 rfl 1 rfl ?_
      refine j_get (pc := 156) C gf_Model_102 0 rfl rfl d_Model_onePart_156 ?_
      refine j_callVi (pc := 159) C (c_M_takes_3 l D y mo (ma 37) ma t1 az t3 z510 0 z511 i7 i8 i42 i49 (nI cd) (nI zn) z512 (nI bs) i61 i64 i66 t67 i76 i78 g0 g37 hz_ he) kw_Model_228 kv_Model_takes 0 10 rfl rfl ⟨by decide, by decide⟩ ⟨by decide, by decide⟩ (wr := [(ma 38, .inl (y 3, 5, .inl g38)), (ma 39, .inl (y 3, 5, .inl g39)), (ma 40, .inl (y 3, 3, .inl g40)), (ma 41, .inl (y 3, 3, .inl g41)), (ma 50, .inl (y 0, 3200, .inl g50)), (ma 52, .inl (y 0, 1700, .inl zw))]) [0, 1, 2] [3, 4, 5, 6, 7, 8] rfl rfl (by decide) (by decide) (by decide) (As := [.ref (ma 37)]) (rest := []) rfl (nb rfl) rfl d_Model_onePart_159 (fun r1027 u1028 hr1027 => ?_)
      refine j_ws (ws' := [(ma 38, .inl (y 3, 5, .inl g38)), (ma 39, .inl (y 3, 5, .inl g39)), (ma 40, .inl (y 3, 3, .inl g40)), (ma 41, .inl (y 3, 3, .inl g41)), (ma 50, .inl (y 0, 3200, .inl g50)), (ma 52, .inl (y 0, 1700, .inl zw)), MB mo ma (nI t1) (nI u1028.1) (nI t3) u1028.2 0 z511 i7 i8 i42 i49 (nI cd) (nI zn) z512 (nI bs) i61 i64 i66 (nI t67) i76 i78, (ma 0, .inl (y 0, 1600, .inl g0)), (ma 37, .inl (y 3, 3, .inl g37))]) rfl ?_
      obtain ⟨xh1029, xh1030, xh1031⟩ := hr1027
      rcases xh1031 with rfl | ⟨rfl, xh1032⟩
      · refine j_if_eqT (pc := 162) C (tgt := 170) d_Model_onePart_162 (by decide) (by decide) ?_
        refine j_aload_n (pc := 170) C d_Model_onePart_170 rfl 1 rfl ?_
        refine j_aload_n (pc := 171) C d_Model_onePart_171 rfl 1 rfl ?_
        refine j_get (pc := 172) C gf_Model_105 6 rfl rfl d_Model_onePart_172 ?_
        refine j_callVi (pc := 175) C (c_M_takes_5 l D y mo (ma 38) ma t1 u1028.1 t3 u1028.2 0 z511 i7 i8 i42 i49 (nI cd) (nI zn) z512 (nI bs) i61 i64 i66 t67 i76 i78 g0 g38 xh1030 he) kw_Model_228 kv_Model_takes 0 10 rfl rfl ⟨by decide, by decide⟩ ⟨by decide, by decide⟩ (wr := [(ma 39, .inl (y 3, 5, .inl g39)), (ma 40, .inl (y 3, 3, .inl g40)), (ma 41, .inl (y 3, 3, .inl g41)), (ma 50, .inl (y 0, 3200, .inl g50)), (ma 52, .inl (y 0, 1700, .inl zw)), (ma 37, .inl (y 3, 3, .inl g37))]) [6, 7, 0] [1, 2, 3, 4, 5, 8] rfl rfl (by decide) (by decide) (by decide) (As := [.ref (ma 38)]) (rest := []) rfl (nb rfl) rfl d_Model_onePart_175 (fun r1033 u1034 hr1033 => ?_)
        refine j_ws (ws' := [(ma 39, .inl (y 3, 5, .inl g39)), (ma 40, .inl (y 3, 3, .inl g40)), (ma 41, .inl (y 3, 3, .inl g41)), (ma 50, .inl (y 0, 3200, .inl g50)), (ma 52, .inl (y 0, 1700, .inl zw)), (ma 37, .inl (y 3, 3, .inl g37)), MB mo ma (nI t1) (nI u1034.1) (nI t3) u1034.2 0 z511 i7 i8 i42 i49 (nI cd) (nI zn) z512 (nI bs) i61 i64 i66 (nI t67) i76 i78, (ma 0, .inl (y 0, 1600, .inl g0)), (ma 38, .inl (y 3, 5, .inl g38))]) rfl ?_
        obtain ⟨xh1035, xh1036, xh1037⟩ := hr1033
        rcases xh1037 with rfl | ⟨rfl, xh1038⟩
        · refine j_if_eqT (pc := 178) C (tgt := 186) d_Model_onePart_178 (by decide) (by decide) ?_
          refine j_aload_n (pc := 186) C d_Model_onePart_186 rfl 1 rfl ?_
          refine j_aload_n (pc := 187) C d_Model_onePart_187 rfl 1 rfl ?_
          refine j_get (pc := 188) C gf_Model_108 6 rfl rfl d_Model_onePart_188 ?_
          refine j_callVi (pc := 191) C (c_M_takes_5 l D y mo (ma 39) ma t1 u1034.1 t3 u1034.2 0 z511 i7 i8 i42 i49 (nI cd) (nI zn) z512 (nI bs) i61 i64 i66 t67 i76 i78 g0 g39 xh1036 he) kw_Model_228 kv_Model_takes 0 10 rfl rfl ⟨by decide, by decide⟩ ⟨by decide, by decide⟩ (wr := [(ma 40, .inl (y 3, 3, .inl g40)), (ma 41, .inl (y 3, 3, .inl g41)), (ma 50, .inl (y 0, 3200, .inl g50)), (ma 52, .inl (y 0, 1700, .inl zw)), (ma 37, .inl (y 3, 3, .inl g37)), (ma 38, .inl (y 3, 5, .inl g38))]) [6, 7, 0] [1, 2, 3, 4, 5, 8] rfl rfl (by decide) (by decide) (by decide) (As := [.ref (ma 39)]) (rest := []) rfl (nb rfl) rfl d_Model_onePart_191 (fun r1039 u1040 hr1039 => ?_)
          refine j_ws (ws' := [(ma 40, .inl (y 3, 3, .inl g40)), (ma 41, .inl (y 3, 3, .inl g41)), (ma 50, .inl (y 0, 3200, .inl g50)), (ma 52, .inl (y 0, 1700, .inl zw)), (ma 37, .inl (y 3, 3, .inl g37)), (ma 38, .inl (y 3, 5, .inl g38)), MB mo ma (nI t1) (nI u1040.1) (nI t3) u1040.2 0 z511 i7 i8 i42 i49 (nI cd) (nI zn) z512 (nI bs) i61 i64 i66 (nI t67) i76 i78, (ma 0, .inl (y 0, 1600, .inl g0)), (ma 39, .inl (y 3, 5, .inl g39))]) rfl ?_
          obtain ⟨xh1041, xh1042, xh1043⟩ := hr1039
          rcases xh1043 with rfl | ⟨rfl, xh1044⟩
          · refine j_if_eqT (pc := 194) C (tgt := 202) d_Model_onePart_194 (by decide) (by decide) ?_
            refine j_iconst (pc := 202) C (v := (-1)) d_Model_onePart_202 (by decide) ?_
            refine j_istore_n (pc := 203) C (lv' := [(2, .int (-1)), (1, .int (nI mz)), (0, .ref mo)]) d_Model_onePart_203 rfl (by decide) rfl ?_
            refine j_aload_n (pc := 204) C d_Model_onePart_204 rfl 2 rfl ?_
            refine j_iload_n (pc := 205) C d_Model_onePart_205 rfl 0 rfl ?_
            refine j_iconst (pc := 206) C (v := (-1)) d_Model_onePart_206 (by decide) ?_
            refine j_icmp_eqT (pc := 207) C (tgt := 214) d_Model_onePart_207 (by decide) (by decide) ?_
            refine j_sipush (pc := 214) C (v := 1000) d_Model_onePart_214 (by decide) ?_
            refine j_aload_n (pc := 217) C d_Model_onePart_217 rfl 2 rfl ?_
            refine j_iconst (pc := 218) C (v := 0) d_Model_onePart_218 (by decide) ?_
            refine j_sipush (pc := 219) C (v := 9999) d_Model_onePart_219 (by decide) ?_
            refine j_callVi (pc := 222) C (c_M_number_09 l D y mo ma t1 u1040.1 t3 u1040.2 0 z511 i7 i8 i42 i49 (nI cd) (nI zn) z512 (nI bs) i61 i64 i66 t67 i76 i78 g0 xh1042 he) kw_Model_267 kv_Model_number 0 10 rfl rfl ⟨by decide, by decide⟩ ⟨by decide, by decide⟩ (wr := [(ma 40, .inl (y 3, 3, .inl g40)), (ma 41, .inl (y 3, 3, .inl g41)), (ma 50, .inl (y 0, 3200, .inl g50)), (ma 52, .inl (y 0, 1700, .inl zw)), (ma 37, .inl (y 3, 3, .inl g37)), (ma 38, .inl (y 3, 5, .inl g38)), (ma 39, .inl (y 3, 5, .inl g39))]) [6, 7] [0, 1, 2, 3, 4, 5, 8] rfl rfl (by decide) (by decide) (by decide) (As := [.int 0, .int 9999]) (rest := [.int 1000, .ref mo]) rfl (nb rfl) rfl d_Model_onePart_222 (fun r1045 u1046 hr1045 => ?_)
            obtain ⟨xh1047, xh1048, xh1049⟩ := hr1045
            refine j_ws (ws' := [(ma 40, .inl (y 3, 3, .inl g40)), (ma 41, .inl (y 3, 3, .inl g41)), (ma 50, .inl (y 0, 3200, .inl g50)), (ma 52, .inl (y 0, 1700, .inl zw)), (ma 37, .inl (y 3, 3, .inl g37)), (ma 38, .inl (y 3, 5, .inl g38)), (ma 39, .inl (y 3, 5, .inl g39)), MB mo ma (nI t1) (nI u1046.1) (nI t3) u1046.2.1 u1046.2.2.1 u1046.2.2.2 i7 i8 i42 i49 (nI cd) (nI zn) z512 (nI bs) i61 i64 i66 (nI t67) i76 i78, (ma 0, .inl (y 0, 1600, .inl g0))]) rfl ?_
            refine j_iadd (pc := 225) C (v := 1000 + r1045) d_Model_onePart_225 rfl ?_
            refine j_callVv (pc := 226) C (c_M_code l D y mo ma t1 u1046.1 t3 u1046.2.1 u1046.2.2.1 u1046.2.2.2 i7 i8 i42 i49 cd zn z512 (nI bs) i61 i64 i66 t67 i76 i78 g50 (1000 + r1045) (by omega)) kw_Model_344 kv_Model_code 0 10 rfl rfl ⟨by decide, by decide⟩ ⟨by decide, by decide⟩ (wr := [(ma 40, .inl (y 3, 3, .inl g40)), (ma 41, .inl (y 3, 3, .inl g41)), (ma 52, .inl (y 0, 1700, .inl zw)), (ma 37, .inl (y 3, 3, .inl g37)), (ma 38, .inl (y 3, 5, .inl g38)), (ma 39, .inl (y 3, 5, .inl g39)), (ma 0, .inl (y 0, 1600, .inl g0))]) [7, 2] [0, 1, 3, 4, 5, 6, 8] rfl rfl (by decide) (by decide) (by decide) (As := [.int (1000 + r1045)]) (rest := []) rfl (nb rfl) rfl d_Model_onePart_226 (fun _ _ => ?_)
            refine j_ws (ws' := [(ma 40, .inl (y 3, 3, .inl g40)), (ma 41, .inl (y 3, 3, .inl g41)), (ma 52, .inl (y 0, 1700, .inl zw)), (ma 37, .inl (y 3, 3, .inl g37)), (ma 38, .inl (y 3, 5, .inl g38)), (ma 39, .inl (y 3, 5, .inl g39)), (ma 0, .inl (y 0, 1600, .inl g0)), MB mo ma (nI t1) (nI u1046.1) (nI t3) u1046.2.1 u1046.2.2.1 u1046.2.2.2 i7 i8 i42 i49 (nI (cd + 1)) (nI zn) z512 (nI bs) i61 i64 i66 (nI t67) i76 i78, (ma 50, .inl (y 0, 3200, .inl (upd g50 cd (1000 + r1045))))]) rfl ?_
            exact j_vret (pc := 229) C hr (u1046.1, u1046.2.1, u1046.2.2.1, u1046.2.2.2, (cd + 1), zn, z512, (upd g50 cd (1000 + r1045)), zw) ⟨(show t2 ≤ u1046.1 by omega), (show u1046.1 ≤ t3 by omega), (fun e => by obtain ⟨_, f1, _⟩ := xh1049 e; exact ⟨rfl, by omega⟩), (rs_leaf xh1026 (by omega) (by omega) (fun e => by obtain ⟨_, f1, q, hq, eq⟩ := xh1049 e; exact ⟨by omega, Or.inl (num_ge hq eq)⟩)), hT_, hS_, (show bs ≤ zn by omega)⟩ [7, 6, 3, 4, 5, 0, 1, 8, 2] rfl (by decide) (by decide) (by decide) d_Model_onePart_229
          · refine j_if_eqF (pc := 194) C (tgt := 202) d_Model_onePart_194 (by decide) (by decide) ?_
            refine j_bipush (pc := 197) C (v := 9) d_Model_onePart_197 (by decide) ?_
            refine j_goto (pc := 199) C (tgt := 203) d_Model_onePart_199 (by decide) ?_
            refine j_istore_n (pc := 203) C (lv' := [(2, .int 9), (1, .int (nI mz)), (0, .ref mo)]) d_Model_onePart_203 rfl (by decide) rfl ?_
            refine j_aload_n (pc := 204) C d_Model_onePart_204 rfl 2 rfl ?_
            refine j_iload_n (pc := 205) C d_Model_onePart_205 rfl 0 rfl ?_
            refine j_iconst (pc := 206) C (v := (-1)) d_Model_onePart_206 (by decide) ?_
            refine j_icmp_eqF (pc := 207) C (tgt := 214) d_Model_onePart_207 (by decide) (by decide) ?_
            refine j_iload_n (pc := 210) C d_Model_onePart_210 rfl 0 rfl ?_
            refine j_goto (pc := 211) C (tgt := 226) d_Model_onePart_211 (by decide) ?_
            refine j_callVv (pc := 226) C (c_M_code l D y mo ma t1 u1040.1 t3 u1040.2 0 z511 i7 i8 i42 i49 cd zn z512 (nI bs) i61 i64 i66 t67 i76 i78 g50 9 (by omega)) kw_Model_344 kv_Model_code 0 10 rfl rfl ⟨by decide, by decide⟩ ⟨by decide, by decide⟩ (wr := [(ma 40, .inl (y 3, 3, .inl g40)), (ma 41, .inl (y 3, 3, .inl g41)), (ma 52, .inl (y 0, 1700, .inl zw)), (ma 37, .inl (y 3, 3, .inl g37)), (ma 38, .inl (y 3, 5, .inl g38)), (ma 0, .inl (y 0, 1600, .inl g0)), (ma 39, .inl (y 3, 5, .inl g39))]) [6, 2] [0, 1, 3, 4, 5, 7, 8] rfl rfl (by decide) (by decide) (by decide) (As := [.int 9]) (rest := []) rfl (nb rfl) rfl d_Model_onePart_226 (fun _ _ => ?_)
            refine j_ws (ws' := [(ma 40, .inl (y 3, 3, .inl g40)), (ma 41, .inl (y 3, 3, .inl g41)), (ma 52, .inl (y 0, 1700, .inl zw)), (ma 37, .inl (y 3, 3, .inl g37)), (ma 38, .inl (y 3, 5, .inl g38)), (ma 0, .inl (y 0, 1600, .inl g0)), (ma 39, .inl (y 3, 5, .inl g39)), MB mo ma (nI t1) (nI u1040.1) (nI t3) u1040.2 0 z511 i7 i8 i42 i49 (nI (cd + 1)) (nI zn) z512 (nI bs) i61 i64 i66 (nI t67) i76 i78, (ma 50, .inl (y 0, 3200, .inl (upd g50 cd 9)))]) rfl ?_
            exact j_vret (pc := 229) C hr (u1040.1, u1040.2, 0, z511, (cd + 1), zn, z512, (upd g50 cd 9), zw) ⟨(show t2 ≤ u1040.1 by omega), (show u1040.1 ≤ t3 by omega), (fun _ => ⟨rfl, by omega⟩), (rs_leaf xh1026 (by omega) (by omega) (fun _ => ⟨by omega, by decide⟩)), hT_, hS_, (show bs ≤ zn by omega)⟩ [7, 5, 3, 4, 6, 0, 1, 8, 2] rfl (by decide) (by decide) (by decide) d_Model_onePart_229
        · refine j_if_eqF (pc := 178) C (tgt := 186) d_Model_onePart_178 (by decide) (by decide) ?_
          refine j_bipush (pc := 181) C (v := 8) d_Model_onePart_181 (by decide) ?_
          refine j_goto (pc := 183) C (tgt := 203) d_Model_onePart_183 (by decide) ?_
          refine j_istore_n (pc := 203) C (lv' := [(2, .int 8), (1, .int (nI mz)), (0, .ref mo)]) d_Model_onePart_203 rfl (by decide) rfl ?_
          refine j_aload_n (pc := 204) C d_Model_onePart_204 rfl 2 rfl ?_
          refine j_iload_n (pc := 205) C d_Model_onePart_205 rfl 0 rfl ?_
          refine j_iconst (pc := 206) C (v := (-1)) d_Model_onePart_206 (by decide) ?_
          refine j_icmp_eqF (pc := 207) C (tgt := 214) d_Model_onePart_207 (by decide) (by decide) ?_
          refine j_iload_n (pc := 210) C d_Model_onePart_210 rfl 0 rfl ?_
          refine j_goto (pc := 211) C (tgt := 226) d_Model_onePart_211 (by decide) ?_
          refine j_callVv (pc := 226) C (c_M_code l D y mo ma t1 u1034.1 t3 u1034.2 0 z511 i7 i8 i42 i49 cd zn z512 (nI bs) i61 i64 i66 t67 i76 i78 g50 8 (by omega)) kw_Model_344 kv_Model_code 0 10 rfl rfl ⟨by decide, by decide⟩ ⟨by decide, by decide⟩ (wr := [(ma 39, .inl (y 3, 5, .inl g39)), (ma 40, .inl (y 3, 3, .inl g40)), (ma 41, .inl (y 3, 3, .inl g41)), (ma 52, .inl (y 0, 1700, .inl zw)), (ma 37, .inl (y 3, 3, .inl g37)), (ma 0, .inl (y 0, 1600, .inl g0)), (ma 38, .inl (y 3, 5, .inl g38))]) [6, 3] [0, 1, 2, 4, 5, 7, 8] rfl rfl (by decide) (by decide) (by decide) (As := [.int 8]) (rest := []) rfl (nb rfl) rfl d_Model_onePart_226 (fun _ _ => ?_)
          refine j_ws (ws' := [(ma 39, .inl (y 3, 5, .inl g39)), (ma 40, .inl (y 3, 3, .inl g40)), (ma 41, .inl (y 3, 3, .inl g41)), (ma 52, .inl (y 0, 1700, .inl zw)), (ma 37, .inl (y 3, 3, .inl g37)), (ma 0, .inl (y 0, 1600, .inl g0)), (ma 38, .inl (y 3, 5, .inl g38)), MB mo ma (nI t1) (nI u1034.1) (nI t3) u1034.2 0 z511 i7 i8 i42 i49 (nI (cd + 1)) (nI zn) z512 (nI bs) i61 i64 i66 (nI t67) i76 i78, (ma 50, .inl (y 0, 3200, .inl (upd g50 cd 8)))]) rfl ?_
          exact j_vret (pc := 229) C hr (u1034.1, u1034.2, 0, z511, (cd + 1), zn, z512, (upd g50 cd 8), zw) ⟨(show t2 ≤ u1034.1 by omega), (show u1034.1 ≤ t3 by omega), (fun _ => ⟨rfl, by omega⟩), (rs_leaf xh1026 (by omega) (by omega) (fun _ => ⟨by omega, by decide⟩)), hT_, hS_, (show bs ≤ zn by omega)⟩ [7, 5, 4, 6, 0, 1, 2, 8, 3] rfl (by decide) (by decide) (by decide) d_Model_onePart_229
      · refine j_if_eqF (pc := 162) C (tgt := 170) d_Model_onePart_162 (by decide) (by decide) ?_
        refine j_bipush (pc := 165) C (v := 7) d_Model_onePart_165 (by decide) ?_
        refine j_goto (pc := 167) C (tgt := 203) d_Model_onePart_167 (by decide) ?_
        refine j_istore_n (pc := 203) C (lv' := [(2, .int 7), (1, .int (nI mz)), (0, .ref mo)]) d_Model_onePart_203 rfl (by decide) rfl ?_
        refine j_aload_n (pc := 204) C d_Model_onePart_204 rfl 2 rfl ?_
        refine j_iload_n (pc := 205) C d_Model_onePart_205 rfl 0 rfl ?_
        refine j_iconst (pc := 206) C (v := (-1)) d_Model_onePart_206 (by decide) ?_
        refine j_icmp_eqF (pc := 207) C (tgt := 214) d_Model_onePart_207 (by decide) (by decide) ?_
        refine j_iload_n (pc := 210) C d_Model_onePart_210 rfl 0 rfl ?_
        refine j_goto (pc := 211) C (tgt := 226) d_Model_onePart_211 (by decide) ?_
        refine j_callVv (pc := 226) C (c_M_code l D y mo ma t1 u1028.1 t3 u1028.2 0 z511 i7 i8 i42 i49 cd zn z512 (nI bs) i61 i64 i66 t67 i76 i78 g50 7 (by omega)) kw_Model_344 kv_Model_code 0 10 rfl rfl ⟨by decide, by decide⟩ ⟨by decide, by decide⟩ (wr := [(ma 38, .inl (y 3, 5, .inl g38)), (ma 39, .inl (y 3, 5, .inl g39)), (ma 40, .inl (y 3, 3, .inl g40)), (ma 41, .inl (y 3, 3, .inl g41)), (ma 52, .inl (y 0, 1700, .inl zw)), (ma 0, .inl (y 0, 1600, .inl g0)), (ma 37, .inl (y 3, 3, .inl g37))]) [6, 4] [0, 1, 2, 3, 5, 7, 8] rfl rfl (by decide) (by decide) (by decide) (As := [.int 7]) (rest := []) rfl (nb rfl) rfl d_Model_onePart_226 (fun _ _ => ?_)
        refine j_ws (ws' := [(ma 38, .inl (y 3, 5, .inl g38)), (ma 39, .inl (y 3, 5, .inl g39)), (ma 40, .inl (y 3, 3, .inl g40)), (ma 41, .inl (y 3, 3, .inl g41)), (ma 52, .inl (y 0, 1700, .inl zw)), (ma 0, .inl (y 0, 1600, .inl g0)), (ma 37, .inl (y 3, 3, .inl g37)), MB mo ma (nI t1) (nI u1028.1) (nI t3) u1028.2 0 z511 i7 i8 i42 i49 (nI (cd + 1)) (nI zn) z512 (nI bs) i61 i64 i66 (nI t67) i76 i78, (ma 50, .inl (y 0, 3200, .inl (upd g50 cd 7)))]) rfl ?_
        exact j_vret (pc := 229) C hr (u1028.1, u1028.2, 0, z511, (cd + 1), zn, z512, (upd g50 cd 7), zw) ⟨(show t2 ≤ u1028.1 by omega), (show u1028.1 ≤ t3 by omega), (fun _ => ⟨rfl, by omega⟩), (rs_leaf xh1026 (by omega) (by omega) (fun _ => ⟨by omega, by decide⟩)), hT_, hS_, (show bs ≤ zn by omega)⟩ [7, 5, 6, 0, 1, 2, 3, 8, 4] rfl (by decide) (by decide) (by decide) d_Model_onePart_229
    · exact j_vret (pc := 153) C hr (az, z510, bz, z511, cd, zn, z512, g50, zw) ⟨(show t2 ≤ az by omega), (show az ≤ t3 by omega), (fun e => absurd e c1025), (rs_at (rs_bad hR_ c1025) (by omega)), hT_, hS_, (show bs ≤ zn by omega)⟩ [0, 1, 2, 3, 4, 5, 6, 7, 8] rfl (by decide) (by decide) (by decide) d_Model_onePart_153
  · refine j_if_eqF (pc := 3) C (tgt := 146) d_Model_onePart_3 (by decide) (show ¬ nI mz = nI 0 from fun e => absurd ((nI_eq (by omega) (by omega)).mp e) (by omega)) ?_
    refine j_aload_n (pc := 6) C d_Model_onePart_6 rfl 1 rfl ?_
    refine j_get (pc := 7) C gf_Model_201 0 rfl rfl d_Model_onePart_7 ?_
    refine j_if_ne (pc := 10) C (tgt := 146) d_Model_onePart_10 (by decide) (fun c1050 => ?_) (fun c1050 => ?_)
    · refine j_aload_n (pc := 146) C d_Model_onePart_146 rfl 1 rfl ?_
      refine j_get (pc := 147) C gf_Model_201 0 rfl rfl d_Model_onePart_147 ?_
      refine j_if_eqF (pc := 150) C (tgt := 154) d_Model_onePart_150 (by decide) c1050 ?_
      exact j_vret (pc := 153) C hr (az, z510, bz, z511, cd, zn, z512, g50, zw) ⟨(show t2 ≤ az by omega), (show az ≤ t3 by omega), (fun e => absurd e c1050), (rs_at (rs_bad hR_ c1050) (by omega)), hT_, hS_, (show bs ≤ zn by omega)⟩ [0, 1, 2, 3, 4, 5, 6, 7, 8] rfl (by decide) (by decide) (by decide) d_Model_onePart_153
    · refine j_ws (ws' := [MB mo ma (nI t1) (nI az) (nI t3) z510 0 z511 i7 i8 i42 i49 (nI cd) (nI zn) z512 (nI bs) i61 i64 i66 (nI t67) i76 i78, (ma 0, .inl (y 0, 1600, .inl g0)), (ma 37, .inl (y 3, 3, .inl g37)), (ma 38, .inl (y 3, 5, .inl g38)), (ma 39, .inl (y 3, 5, .inl g39)), (ma 40, .inl (y 3, 3, .inl g40)), (ma 41, .inl (y 3, 3, .inl g41)), (ma 50, .inl (y 0, 3200, .inl g50)), (ma 52, .inl (y 0, 1700, .inl zw))]) (by rw [c1050]) ?_
      have xh1051 : RS kq s0 f0 xx 0 g50 zw cd zn az := rs_z hR_ c1050
      refine j_aload_n (pc := 13) C d_Model_onePart_13 rfl 1 rfl ?_
      refine j_callVi (pc := 14) C (c_M_look l D y mo ma t1 az t3 z510 0 z511 i7 i8 i42 i49 (nI cd) (nI zn) z512 (nI bs) i61 i64 i66 t67 i76 i78 g0 hz_ he) kw_Model_213 kv_Model_look 0 10 rfl rfl ⟨by decide, by decide⟩ ⟨by decide, by decide⟩ (wr := [(ma 37, .inl (y 3, 3, .inl g37)), (ma 38, .inl (y 3, 5, .inl g38)), (ma 39, .inl (y 3, 5, .inl g39)), (ma 40, .inl (y 3, 3, .inl g40)), (ma 41, .inl (y 3, 3, .inl g41)), (ma 50, .inl (y 0, 3200, .inl g50)), (ma 52, .inl (y 0, 1700, .inl zw))]) [0, 1] [2, 3, 4, 5, 6, 7, 8] rfl rfl (by decide) (by decide) (by decide) (As := []) (rest := []) rfl (nb rfl) rfl d_Model_onePart_14 (fun r1052 u1053 hr1052 => ?_)
      refine j_ws (ws' := [(ma 37, .inl (y 3, 3, .inl g37)), (ma 38, .inl (y 3, 5, .inl g38)), (ma 39, .inl (y 3, 5, .inl g39)), (ma 40, .inl (y 3, 3, .inl g40)), (ma 41, .inl (y 3, 3, .inl g41)), (ma 50, .inl (y 0, 3200, .inl g50)), (ma 52, .inl (y 0, 1700, .inl zw)), MB mo ma (nI t1) (nI u1053) (nI t3) z510 0 z511 i7 i8 i42 i49 (nI cd) (nI zn) z512 (nI bs) i61 i64 i66 (nI t67) i76 i78, (ma 0, .inl (y 0, 1600, .inl g0))]) rfl ?_
      obtain ⟨xh1054, xh1055, xh1056⟩ := hr1052
      rcases xh1056 with rfl | ⟨xh1057, e1058⟩
      · refine j_istore_n (pc := 17) C (lv' := [(2, .int (-1)), (1, .int (nI mz)), (0, .ref mo)]) d_Model_onePart_17 rfl (by decide) rfl ?_
        refine j_iload_n (pc := 18) C d_Model_onePart_18 rfl 0 rfl ?_
        refine j_bipush (pc := 19) C (v := 40) d_Model_onePart_19 (by decide) ?_
        refine j_icmp_neT (pc := 21) C (tgt := 47) d_Model_onePart_21 (by decide) (by decide) ?_
        refine j_aload_n (pc := 47) C d_Model_onePart_47 rfl 2 rfl ?_
        refine j_aload_n (pc := 48) C d_Model_onePart_48 rfl 2 rfl ?_
        refine j_get (pc := 49) C gf_Model_111 7 rfl rfl d_Model_onePart_49 ?_
        refine j_callVi (pc := 52) C (c_M_isHere_3 l D y mo (ma 40) ma t1 u1053 t3 z510 0 z511 i7 i8 i42 i49 (nI cd) (nI zn) z512 (nI bs) i61 i64 i66 t67 i76 i78 g0 g40 xh1055 he) kw_Model_224 kv_Model_isHere 0 10 rfl rfl ⟨by decide, by decide⟩ ⟨by decide, by decide⟩ (wr := [(ma 37, .inl (y 3, 3, .inl g37)), (ma 38, .inl (y 3, 5, .inl g38)), (ma 39, .inl (y 3, 5, .inl g39)), (ma 41, .inl (y 3, 3, .inl g41)), (ma 50, .inl (y 0, 3200, .inl g50)), (ma 52, .inl (y 0, 1700, .inl zw))]) [7, 8, 3] [0, 1, 2, 4, 5, 6] rfl rfl (by decide) (by decide) (by decide) (As := [.ref (ma 40)]) (rest := []) rfl (nb rfl) rfl d_Model_onePart_52 (fun r1059 u1060 hr1059 => ?_)
        refine j_ws (ws' := [(ma 37, .inl (y 3, 3, .inl g37)), (ma 38, .inl (y 3, 5, .inl g38)), (ma 39, .inl (y 3, 5, .inl g39)), (ma 41, .inl (y 3, 3, .inl g41)), (ma 50, .inl (y 0, 3200, .inl g50)), (ma 52, .inl (y 0, 1700, .inl zw)), MB mo ma (nI t1) (nI u1060) (nI t3) z510 0 z511 i7 i8 i42 i49 (nI cd) (nI zn) z512 (nI bs) i61 i64 i66 (nI t67) i76 i78, (ma 0, .inl (y 0, 1600, .inl g0)), (ma 40, .inl (y 3, 3, .inl g40))]) rfl ?_
        obtain ⟨xh1061, xh1062, xh1063⟩ := hr1059
        rcases xh1063 with rfl | ⟨rfl, xh1064⟩
        · refine j_if_neF (pc := 55) C (tgt := 69) d_Model_onePart_55 (by decide) (by decide) ?_
          refine j_aload_n (pc := 58) C d_Model_onePart_58 rfl 2 rfl ?_
          refine j_aload_n (pc := 59) C d_Model_onePart_59 rfl 2 rfl ?_
          refine j_get (pc := 60) C gf_Model_114 6 rfl rfl d_Model_onePart_60 ?_
          refine j_callVi (pc := 63) C (c_M_isHere_3 l D y mo (ma 41) ma t1 u1060 t3 z510 0 z511 i7 i8 i42 i49 (nI cd) (nI zn) z512 (nI bs) i61 i64 i66 t67 i76 i78 g0 g41 xh1062 he) kw_Model_224 kv_Model_isHere 0 10 rfl rfl ⟨by decide, by decide⟩ ⟨by decide, by decide⟩ (wr := [(ma 37, .inl (y 3, 3, .inl g37)), (ma 38, .inl (y 3, 5, .inl g38)), (ma 39, .inl (y 3, 5, .inl g39)), (ma 50, .inl (y 0, 3200, .inl g50)), (ma 52, .inl (y 0, 1700, .inl zw)), (ma 40, .inl (y 3, 3, .inl g40))]) [6, 7, 3] [0, 1, 2, 4, 5, 8] rfl rfl (by decide) (by decide) (by decide) (As := [.ref (ma 41)]) (rest := []) rfl (nb rfl) rfl d_Model_onePart_63 (fun r1065 u1066 hr1065 => ?_)
          refine j_ws (ws' := [(ma 37, .inl (y 3, 3, .inl g37)), (ma 38, .inl (y 3, 5, .inl g38)), (ma 39, .inl (y 3, 5, .inl g39)), (ma 50, .inl (y 0, 3200, .inl g50)), (ma 52, .inl (y 0, 1700, .inl zw)), (ma 40, .inl (y 3, 3, .inl g40)), MB mo ma (nI t1) (nI u1066) (nI t3) z510 0 z511 i7 i8 i42 i49 (nI cd) (nI zn) z512 (nI bs) i61 i64 i66 (nI t67) i76 i78, (ma 0, .inl (y 0, 1600, .inl g0)), (ma 41, .inl (y 3, 3, .inl g41))]) rfl ?_
          obtain ⟨xh1067, xh1068, xh1069⟩ := hr1065
          rcases xh1069 with rfl | ⟨rfl, xh1070⟩
          · refine j_if_eqT (pc := 66) C (tgt := 141) d_Model_onePart_66 (by decide) (by decide) ?_
            refine j_iconst (pc := 141) C (v := 0) d_Model_onePart_141 (by decide) ?_
            refine j_istore_n (pc := 142) C (lv' := [(1, .int 0), (2, .int (-1)), (0, .ref mo)]) d_Model_onePart_142 rfl (by decide) rfl ?_
            refine j_goto (pc := 143) C (tgt := 2) d_Model_onePart_143 (by decide) ?_
            refine j_sub (ws' := [MB mo ma (nI t1) (nI u1066) (nI t3) z510 0 z511 i7 i8 i42 i49 (nI cd) (nI zn) z512 (nI bs) i61 i64 i66 (nI t67) i76 i78, (ma 0, .inl (y 0, 1600, .inl g0)), (ma 37, .inl (y 3, 3, .inl g37)), (ma 38, .inl (y 3, 5, .inl g38)), (ma 39, .inl (y 3, 5, .inl g39)), (ma 40, .inl (y 3, 3, .inl g40)), (ma 41, .inl (y 3, 3, .inl g41)), (ma 50, .inl (y 0, 3200, .inl g50)), (ma 52, .inl (y 0, 1700, .inl zw))]) [6, 7, 0, 1, 2, 5, 8, 3, 4] rfl (by decide) ?_
            refine j_locs (lv' := [(1, .int 0), (0, .ref mo)]) [0, 2] rfl ?_
            have hz1 := bz_e c1050
            have hz0 := bz_1
            exact ih1023 (0, u1066, 0, zw, zn, z510, z511, z512) ⟨(show 0 ≤ 1 by omega), xh1068, (show t2 ≤ u1066 by omega), (show RS kq s0 f0 xx 0 g50 zw cd zn u1066 from (rs_at xh1051 (by omega))), hT_, hS_, hb_⟩ (show 2 * (t3 - u1066) + bz1 0 + 0 < 2 * (t3 - az) + bz1 bz + mz by omega)
          · refine j_if_eqF (pc := 66) C (tgt := 141) d_Model_onePart_66 (by decide) (by decide) ?_
            refine j_aload_n (pc := 69) C d_Model_onePart_69 rfl 2 rfl ?_
            refine j_aload_n (pc := 70) C d_Model_onePart_70 rfl 2 rfl ?_
            refine j_get (pc := 71) C gf_Model_111 6 rfl rfl d_Model_onePart_71 ?_
            refine j_callVi (pc := 74) C (c_M_takes_3 l D y mo (ma 40) ma t1 u1066 t3 z510 0 z511 i7 i8 i42 i49 (nI cd) (nI zn) z512 (nI bs) i61 i64 i66 t67 i76 i78 g0 g40 xh1068 he) kw_Model_228 kv_Model_takes 0 10 rfl rfl ⟨by decide, by decide⟩ ⟨by decide, by decide⟩ (wr := [(ma 37, .inl (y 3, 3, .inl g37)), (ma 38, .inl (y 3, 5, .inl g38)), (ma 39, .inl (y 3, 5, .inl g39)), (ma 50, .inl (y 0, 3200, .inl g50)), (ma 52, .inl (y 0, 1700, .inl zw)), (ma 41, .inl (y 3, 3, .inl g41))]) [6, 7, 5] [0, 1, 2, 3, 4, 8] rfl rfl (by decide) (by decide) (by decide) (As := [.ref (ma 40)]) (rest := []) rfl (nb rfl) rfl d_Model_onePart_74 (fun r1071 u1072 hr1071 => ?_)
            refine j_ws (ws' := [(ma 37, .inl (y 3, 3, .inl g37)), (ma 38, .inl (y 3, 5, .inl g38)), (ma 39, .inl (y 3, 5, .inl g39)), (ma 50, .inl (y 0, 3200, .inl g50)), (ma 52, .inl (y 0, 1700, .inl zw)), (ma 41, .inl (y 3, 3, .inl g41)), MB mo ma (nI t1) (nI u1072.1) (nI t3) u1072.2 0 z511 i7 i8 i42 i49 (nI cd) (nI zn) z512 (nI bs) i61 i64 i66 (nI t67) i76 i78, (ma 0, .inl (y 0, 1600, .inl g0)), (ma 40, .inl (y 3, 3, .inl g40))]) rfl ?_
            obtain ⟨xh1073, xh1074, xh1075⟩ := hr1071
            rcases xh1075 with rfl | ⟨rfl, xh1076⟩
            · refine j_istore_n (pc := 77) C (lv' := [(3, .int 0), (2, .int (-1)), (1, .int (nI mz)), (0, .ref mo)]) d_Model_onePart_77 rfl (by decide) rfl ?_
              refine j_iload_n (pc := 78) C d_Model_onePart_78 rfl 0 rfl ?_
              refine j_if_neF (pc := 79) C (tgt := 90) d_Model_onePart_79 (by decide) (by decide) ?_
              refine j_aload_n (pc := 82) C d_Model_onePart_82 rfl 3 rfl ?_
              refine j_aload_n (pc := 83) C d_Model_onePart_83 rfl 3 rfl ?_
              refine j_get (pc := 84) C gf_Model_114 6 rfl rfl d_Model_onePart_84 ?_
              refine j_callVv (pc := 87) C (c_M_asks_3 l D y mo (ma 41) ma t1 u1072.1 t3 u1072.2 0 z511 i7 i8 i42 i49 (nI cd) (nI zn) z512 (nI bs) i61 i64 i66 t67 i76 i78 g0 g41 xh1074 he) kw_Model_263 kv_Model_asks 0 10 rfl rfl ⟨by decide, by decide⟩ ⟨by decide, by decide⟩ (wr := [(ma 37, .inl (y 3, 3, .inl g37)), (ma 38, .inl (y 3, 5, .inl g38)), (ma 39, .inl (y 3, 5, .inl g39)), (ma 50, .inl (y 0, 3200, .inl g50)), (ma 52, .inl (y 0, 1700, .inl zw)), (ma 40, .inl (y 3, 3, .inl g40))]) [6, 7, 5] [0, 1, 2, 3, 4, 8] rfl rfl (by decide) (by decide) (by decide) (As := [.ref (ma 41)]) (rest := []) rfl (nb rfl) rfl d_Model_onePart_87 (fun u1077 hu1078 => ?_)
              obtain ⟨xh1079, xh1080, xh1081⟩ := hu1078
              refine j_ws (ws' := [(ma 37, .inl (y 3, 3, .inl g37)), (ma 38, .inl (y 3, 5, .inl g38)), (ma 39, .inl (y 3, 5, .inl g39)), (ma 50, .inl (y 0, 3200, .inl g50)), (ma 52, .inl (y 0, 1700, .inl zw)), (ma 40, .inl (y 3, 3, .inl g40)), MB mo ma (nI t1) (nI u1077.1) (nI t3) u1077.2.1 u1077.2.2.1 u1077.2.2.2 i7 i8 i42 i49 (nI cd) (nI zn) z512 (nI bs) i61 i64 i66 (nI t67) i76 i78, (ma 0, .inl (y 0, 1600, .inl g0)), (ma 41, .inl (y 3, 3, .inl g41))]) rfl ?_
              by_cases c1082 : u1077.2.2.1 = 0
              · have hpg := (xh1081 c1082).2
                have xh1083 : RS kq s0 f0 xx u1077.2.2.1 g50 zw cd zn az := rs_mono xh1051 (fun _ => rfl)
                refine j_ws (ws' := [(ma 37, .inl (y 3, 3, .inl g37)), (ma 38, .inl (y 3, 5, .inl g38)), (ma 39, .inl (y 3, 5, .inl g39)), (ma 50, .inl (y 0, 3200, .inl g50)), (ma 52, .inl (y 0, 1700, .inl zw)), (ma 40, .inl (y 3, 3, .inl g40)), MB mo ma (nI t1) (nI u1077.1) (nI t3) u1077.2.1 0 u1077.2.2.2 i7 i8 i42 i49 (nI cd) (nI zn) z512 (nI bs) i61 i64 i66 (nI t67) i76 i78, (ma 0, .inl (y 0, 1600, .inl g0)), (ma 41, .inl (y 3, 3, .inl g41))]) (by rw [c1082]) ?_
                refine j_aload_n (pc := 90) C d_Model_onePart_90 rfl 3 rfl ?_
                refine j_callVi (pc := 91) C (c_M_look l D y mo ma t1 u1077.1 t3 u1077.2.1 0 u1077.2.2.2 i7 i8 i42 i49 (nI cd) (nI zn) z512 (nI bs) i61 i64 i66 t67 i76 i78 g0 xh1080 he) kw_Model_213 kv_Model_look 0 10 rfl rfl ⟨by decide, by decide⟩ ⟨by decide, by decide⟩ (wr := [(ma 37, .inl (y 3, 3, .inl g37)), (ma 38, .inl (y 3, 5, .inl g38)), (ma 39, .inl (y 3, 5, .inl g39)), (ma 50, .inl (y 0, 3200, .inl g50)), (ma 52, .inl (y 0, 1700, .inl zw)), (ma 40, .inl (y 3, 3, .inl g40)), (ma 41, .inl (y 3, 3, .inl g41))]) [6, 7] [0, 1, 2, 3, 4, 5, 8] rfl rfl (by decide) (by decide) (by decide) (As := []) (rest := []) rfl (nb rfl) rfl d_Model_onePart_91 (fun r1084 u1085 hr1084 => ?_)
                refine j_ws (ws' := [(ma 37, .inl (y 3, 3, .inl g37)), (ma 38, .inl (y 3, 5, .inl g38)), (ma 39, .inl (y 3, 5, .inl g39)), (ma 50, .inl (y 0, 3200, .inl g50)), (ma 52, .inl (y 0, 1700, .inl zw)), (ma 40, .inl (y 3, 3, .inl g40)), (ma 41, .inl (y 3, 3, .inl g41)), MB mo ma (nI t1) (nI u1085) (nI t3) u1077.2.1 0 u1077.2.2.2 i7 i8 i42 i49 (nI cd) (nI zn) z512 (nI bs) i61 i64 i66 (nI t67) i76 i78, (ma 0, .inl (y 0, 1600, .inl g0))]) rfl ?_
                obtain ⟨xh1086, xh1087, xh1088⟩ := hr1084
                rcases xh1088 with rfl | ⟨xh1089, e1090⟩
                · refine j_bipush (pc := 94) C (v := 40) d_Model_onePart_94 (by decide) ?_
                  refine j_icmp_neT (pc := 96) C (tgt := 106) d_Model_onePart_96 (by decide) (by decide) ?_
                  refine j_iconst (pc := 106) C (v := (-1)) d_Model_onePart_106 (by decide) ?_
                  refine j_istore (pc := 107) C (lv' := [(4, .int (-1)), (3, .int 0), (2, .int (-1)), (1, .int (nI mz)), (0, .ref mo)]) d_Model_onePart_107 (by decide) rfl ?_
                  refine j_iload (pc := 109) C d_Model_onePart_109 0 rfl ?_
                  refine j_iconst (pc := 111) C (v := (-1)) d_Model_onePart_111 (by decide) ?_
                  refine j_icmp_eqT (pc := 112) C (tgt := 132) d_Model_onePart_112 (by decide) (by decide) ?_
                  refine j_aload_n (pc := 132) C d_Model_onePart_132 rfl 4 rfl ?_
                  refine j_bipush (pc := 133) C (v := 40) d_Model_onePart_133 (by decide) ?_
                  refine j_callVv (pc := 135) C (c_M_asksSign l D y mo ma t1 u1085 t3 u1077.2.1 0 u1077.2.2.2 i7 i8 i42 i49 (nI cd) (nI zn) z512 (nI bs) i61 i64 i66 t67 i76 i78 g0 40 xh1087 he (by decide)) kw_Model_271 kv_Model_asksSign 0 10 rfl rfl ⟨by decide, by decide⟩ ⟨by decide, by decide⟩ (wr := [(ma 37, .inl (y 3, 3, .inl g37)), (ma 38, .inl (y 3, 5, .inl g38)), (ma 39, .inl (y 3, 5, .inl g39)), (ma 50, .inl (y 0, 3200, .inl g50)), (ma 52, .inl (y 0, 1700, .inl zw)), (ma 40, .inl (y 3, 3, .inl g40)), (ma 41, .inl (y 3, 3, .inl g41))]) [7, 8] [0, 1, 2, 3, 4, 5, 6] rfl rfl (by decide) (by decide) (by decide) (As := [.int 40]) (rest := []) rfl (nb rfl) rfl d_Model_onePart_135 (fun u1091 hu1092 => ?_)
                  obtain ⟨xh1093, xh1094, xh1095⟩ := hu1092
                  refine j_ws (ws' := [(ma 37, .inl (y 3, 3, .inl g37)), (ma 38, .inl (y 3, 5, .inl g38)), (ma 39, .inl (y 3, 5, .inl g39)), (ma 50, .inl (y 0, 3200, .inl g50)), (ma 52, .inl (y 0, 1700, .inl zw)), (ma 40, .inl (y 3, 3, .inl g40)), (ma 41, .inl (y 3, 3, .inl g41)), MB mo ma (nI t1) (nI u1091.1) (nI t3) u1077.2.1 u1091.2.1 u1091.2.2 i7 i8 i42 i49 (nI cd) (nI zn) z512 (nI bs) i61 i64 i66 (nI t67) i76 i78, (ma 0, .inl (y 0, 1600, .inl g0))]) rfl ?_
                  refine j_goto (pc := 138) C (tgt := 143) d_Model_onePart_138 (by decide) ?_
                  refine j_goto (pc := 143) C (tgt := 2) d_Model_onePart_143 (by decide) ?_
                  refine j_sub (ws' := [MB mo ma (nI t1) (nI u1091.1) (nI t3) u1077.2.1 u1091.2.1 u1091.2.2 i7 i8 i42 i49 (nI cd) (nI zn) z512 (nI bs) i61 i64 i66 (nI t67) i76 i78, (ma 0, .inl (y 0, 1600, .inl g0)), (ma 37, .inl (y 3, 3, .inl g37)), (ma 38, .inl (y 3, 5, .inl g38)), (ma 39, .inl (y 3, 5, .inl g39)), (ma 40, .inl (y 3, 3, .inl g40)), (ma 41, .inl (y 3, 3, .inl g41)), (ma 50, .inl (y 0, 3200, .inl g50)), (ma 52, .inl (y 0, 1700, .inl zw))]) [7, 8, 0, 1, 2, 5, 6, 3, 4] rfl (by decide) ?_
                  refine j_locs (lv' := [(1, .int (nI mz)), (0, .ref mo)]) [3, 4] rfl ?_
                  have hz1 := bz_e c1050
                  have hz0 := bz_le u1091.2.1
                  have hz2 : bz1 u1091.2.1 = 0 ∨ az + 1 ≤ u1091.1 := by
                    by_cases e : u1091.2.1 = 0
                    · right; have f0 := xh1095 e; have g0 := f0.2; omega
                    · exact Or.inl (bz_0 e)
                  have xh1096 : RS kq s0 f0 xx u1091.2.1 g50 zw cd zn az := rs_mono xh1051 (fun _ => rfl)
                  exact ih1023 (mz, u1091.1, u1091.2.1, zw, zn, u1077.2.1, u1091.2.2, z512) ⟨hmz_, xh1094, (show t2 ≤ u1091.1 by omega), (show RS kq s0 f0 xx u1091.2.1 g50 zw cd zn u1091.1 from (rs_at xh1096 (by omega))), hT_, hS_, hb_⟩ (show 2 * (t3 - u1091.1) + bz1 u1091.2.1 + mz < 2 * (t3 - az) + bz1 bz + mz by omega)
                · refine j_bipush (pc := 94) C (v := 40) d_Model_onePart_94 (by decide) ?_
                  refine j_icmp_ne (pc := 96) C (tgt := 106) d_Model_onePart_96 (by decide) (fun c1097 => ?_) (fun c1097 => ?_)
                  · refine j_iconst (pc := 106) C (v := (-1)) d_Model_onePart_106 (by decide) ?_
                    refine j_istore (pc := 107) C (lv' := [(4, .int (-1)), (3, .int 0), (2, .int (-1)), (1, .int (nI mz)), (0, .ref mo)]) d_Model_onePart_107 (by decide) rfl ?_
                    refine j_iload (pc := 109) C d_Model_onePart_109 0 rfl ?_
                    refine j_iconst (pc := 111) C (v := (-1)) d_Model_onePart_111 (by decide) ?_
                    refine j_icmp_eqT (pc := 112) C (tgt := 132) d_Model_onePart_112 (by decide) (by decide) ?_
                    refine j_aload_n (pc := 132) C d_Model_onePart_132 rfl 4 rfl ?_
                    refine j_bipush (pc := 133) C (v := 40) d_Model_onePart_133 (by decide) ?_
                    refine j_callVv (pc := 135) C (c_M_asksSign l D y mo ma t1 u1085 t3 u1077.2.1 0 u1077.2.2.2 i7 i8 i42 i49 (nI cd) (nI zn) z512 (nI bs) i61 i64 i66 t67 i76 i78 g0 40 xh1087 he (by decide)) kw_Model_271 kv_Model_asksSign 0 10 rfl rfl ⟨by decide, by decide⟩ ⟨by decide, by decide⟩ (wr := [(ma 37, .inl (y 3, 3, .inl g37)), (ma 38, .inl (y 3, 5, .inl g38)), (ma 39, .inl (y 3, 5, .inl g39)), (ma 50, .inl (y 0, 3200, .inl g50)), (ma 52, .inl (y 0, 1700, .inl zw)), (ma 40, .inl (y 3, 3, .inl g40)), (ma 41, .inl (y 3, 3, .inl g41))]) [7, 8] [0, 1, 2, 3, 4, 5, 6] rfl rfl (by decide) (by decide) (by decide) (As := [.int 40]) (rest := []) rfl (nb rfl) rfl d_Model_onePart_135 (fun u1098 hu1099 => ?_)
                    obtain ⟨xh1100, xh1101, xh1102⟩ := hu1099
                    refine j_ws (ws' := [(ma 37, .inl (y 3, 3, .inl g37)), (ma 38, .inl (y 3, 5, .inl g38)), (ma 39, .inl (y 3, 5, .inl g39)), (ma 50, .inl (y 0, 3200, .inl g50)), (ma 52, .inl (y 0, 1700, .inl zw)), (ma 40, .inl (y 3, 3, .inl g40)), (ma 41, .inl (y 3, 3, .inl g41)), MB mo ma (nI t1) (nI u1098.1) (nI t3) u1077.2.1 u1098.2.1 u1098.2.2 i7 i8 i42 i49 (nI cd) (nI zn) z512 (nI bs) i61 i64 i66 (nI t67) i76 i78, (ma 0, .inl (y 0, 1600, .inl g0))]) rfl ?_
                    refine j_goto (pc := 138) C (tgt := 143) d_Model_onePart_138 (by decide) ?_
                    refine j_goto (pc := 143) C (tgt := 2) d_Model_onePart_143 (by decide) ?_
                    refine j_sub (ws' := [MB mo ma (nI t1) (nI u1098.1) (nI t3) u1077.2.1 u1098.2.1 u1098.2.2 i7 i8 i42 i49 (nI cd) (nI zn) z512 (nI bs) i61 i64 i66 (nI t67) i76 i78, (ma 0, .inl (y 0, 1600, .inl g0)), (ma 37, .inl (y 3, 3, .inl g37)), (ma 38, .inl (y 3, 5, .inl g38)), (ma 39, .inl (y 3, 5, .inl g39)), (ma 40, .inl (y 3, 3, .inl g40)), (ma 41, .inl (y 3, 3, .inl g41)), (ma 50, .inl (y 0, 3200, .inl g50)), (ma 52, .inl (y 0, 1700, .inl zw))]) [7, 8, 0, 1, 2, 5, 6, 3, 4] rfl (by decide) ?_
                    refine j_locs (lv' := [(1, .int (nI mz)), (0, .ref mo)]) [3, 4] rfl ?_
                    have hz1 := bz_e c1050
                    have hz0 := bz_le u1098.2.1
                    have hz2 : bz1 u1098.2.1 = 0 ∨ az + 1 ≤ u1098.1 := by
                      by_cases e : u1098.2.1 = 0
                      · right; have f0 := xh1102 e; have g0 := f0.2; omega
                      · exact Or.inl (bz_0 e)
                    have xh1103 : RS kq s0 f0 xx u1098.2.1 g50 zw cd zn az := rs_mono xh1051 (fun _ => rfl)
                    exact ih1023 (mz, u1098.1, u1098.2.1, zw, zn, u1077.2.1, u1098.2.2, z512) ⟨hmz_, xh1101, (show t2 ≤ u1098.1 by omega), (show RS kq s0 f0 xx u1098.2.1 g50 zw cd zn u1098.1 from (rs_at xh1103 (by omega))), hT_, hS_, hb_⟩ (show 2 * (t3 - u1098.1) + bz1 u1098.2.1 + mz < 2 * (t3 - az) + bz1 bz + mz by omega)
                  · refine j_aload_n (pc := 99) C d_Model_onePart_99 rfl 3 rfl ?_
                    refine j_get (pc := 100) C gf_Model_207 7 rfl rfl d_Model_onePart_100 ?_
                    refine j_goto (pc := 103) C (tgt := 107) d_Model_onePart_103 (by decide) ?_
                    refine j_istore (pc := 107) C (lv' := [(4, .int (nI u1085)), (3, .int 0), (2, .int (-1)), (1, .int (nI mz)), (0, .ref mo)]) d_Model_onePart_107 (by decide) rfl ?_
                    refine j_iload (pc := 109) C d_Model_onePart_109 0 rfl ?_
                    refine j_iconst (pc := 111) C (v := (-1)) d_Model_onePart_111 (by decide) ?_
                    refine j_icmp_eqF (pc := 112) C (tgt := 132) d_Model_onePart_112 (by decide) (nI_nm1 (by omega)) ?_
                    refine j_aload_n (pc := 115) C d_Model_onePart_115 rfl 4 rfl ?_
                    refine j_iload_n (pc := 116) C d_Model_onePart_116 rfl 1 rfl ?_
                    refine j_if_eqT (pc := 117) C (tgt := 125) d_Model_onePart_117 (by decide) (by decide) ?_
                    refine j_bipush (pc := 125) C (v := 22) d_Model_onePart_125 (by decide) ?_
                    refine j_iload (pc := 127) C d_Model_onePart_127 0 rfl ?_
                    refine j_callVv (pc := 129) C (c_M_opens l D y mo ma t1 u1085 t3 u1077.2.1 0 u1077.2.2.2 i7 i8 i42 i49 cd zn z512 bs i61 i64 i66 t67 i76 i78 zw 22 (nI u1085) s0 xx kq f0 az g50 (by decide) (by omega) xh1051 (by decide) hT_ hS_ hb_ hK) kw_Model_353 kv_Model_opens 0 10 rfl rfl ⟨by decide, by decide⟩ ⟨by decide, by decide⟩ (wr := [(ma 37, .inl (y 3, 3, .inl g37)), (ma 38, .inl (y 3, 5, .inl g38)), (ma 39, .inl (y 3, 5, .inl g39)), (ma 50, .inl (y 0, 3200, .inl g50)), (ma 40, .inl (y 3, 3, .inl g40)), (ma 41, .inl (y 3, 3, .inl g41)), (ma 0, .inl (y 0, 1600, .inl g0))]) [7, 4] [0, 1, 2, 3, 5, 6, 8] rfl rfl (by decide) (by decide) (by decide) (As := [.int 22, .int (nI u1085)]) (rest := []) rfl (nb rfl) rfl d_Model_onePart_129 (fun u1104 hu1105 => ?_)
                    obtain ⟨xh1106, xh1107, xh1108, xh1109, xh1110, xh1111, xh1112⟩ := hu1105
                    refine j_ws (ws' := [(ma 37, .inl (y 3, 3, .inl g37)), (ma 38, .inl (y 3, 5, .inl g38)), (ma 39, .inl (y 3, 5, .inl g39)), (ma 50, .inl (y 0, 3200, .inl g50)), (ma 40, .inl (y 3, 3, .inl g40)), (ma 41, .inl (y 3, 3, .inl g41)), (ma 0, .inl (y 0, 1600, .inl g0)), MB mo ma (nI t1) (nI u1085) (nI t3) u1077.2.1 u1104.1 u1104.2.1 i7 i8 i42 i49 (nI cd) (nI u1104.2.2.1) u1104.2.2.2.1 (nI bs) i61 i64 i66 (nI t67) i76 i78, (ma 52, .inl (y 0, 1700, .inl u1104.2.2.2.2))]) rfl ?_
                    refine j_aload_n (pc := 132) C d_Model_onePart_132 rfl 4 rfl ?_
                    refine j_bipush (pc := 133) C (v := 40) d_Model_onePart_133 (by decide) ?_
                    refine j_callVv (pc := 135) C (c_M_asksSign l D y mo ma t1 u1085 t3 u1077.2.1 u1104.1 u1104.2.1 i7 i8 i42 i49 (nI cd) (nI u1104.2.2.1) u1104.2.2.2.1 (nI bs) i61 i64 i66 t67 i76 i78 g0 40 xh1087 he (by decide)) kw_Model_271 kv_Model_asksSign 0 10 rfl rfl ⟨by decide, by decide⟩ ⟨by decide, by decide⟩ (wr := [(ma 37, .inl (y 3, 3, .inl g37)), (ma 38, .inl (y 3, 5, .inl g38)), (ma 39, .inl (y 3, 5, .inl g39)), (ma 50, .inl (y 0, 3200, .inl g50)), (ma 40, .inl (y 3, 3, .inl g40)), (ma 41, .inl (y 3, 3, .inl g41)), (ma 52, .inl (y 0, 1700, .inl u1104.2.2.2.2))]) [7, 6] [0, 1, 2, 3, 4, 5, 8] rfl rfl (by decide) (by decide) (by decide) (As := [.int 40]) (rest := []) rfl (nb rfl) rfl d_Model_onePart_135 (fun u1113 hu1114 => ?_)
                    obtain ⟨xh1115, xh1116, xh1117⟩ := hu1114
                    refine j_ws (ws' := [(ma 37, .inl (y 3, 3, .inl g37)), (ma 38, .inl (y 3, 5, .inl g38)), (ma 39, .inl (y 3, 5, .inl g39)), (ma 50, .inl (y 0, 3200, .inl g50)), (ma 40, .inl (y 3, 3, .inl g40)), (ma 41, .inl (y 3, 3, .inl g41)), (ma 52, .inl (y 0, 1700, .inl u1104.2.2.2.2)), MB mo ma (nI t1) (nI u1113.1) (nI t3) u1077.2.1 u1113.2.1 u1113.2.2 i7 i8 i42 i49 (nI cd) (nI u1104.2.2.1) u1104.2.2.2.1 (nI bs) i61 i64 i66 (nI t67) i76 i78, (ma 0, .inl (y 0, 1600, .inl g0))]) rfl ?_
                    refine j_goto (pc := 138) C (tgt := 143) d_Model_onePart_138 (by decide) ?_
                    refine j_goto (pc := 143) C (tgt := 2) d_Model_onePart_143 (by decide) ?_
                    refine j_sub (ws' := [MB mo ma (nI t1) (nI u1113.1) (nI t3) u1077.2.1 u1113.2.1 u1113.2.2 i7 i8 i42 i49 (nI cd) (nI u1104.2.2.1) u1104.2.2.2.1 (nI bs) i61 i64 i66 (nI t67) i76 i78, (ma 0, .inl (y 0, 1600, .inl g0)), (ma 37, .inl (y 3, 3, .inl g37)), (ma 38, .inl (y 3, 5, .inl g38)), (ma 39, .inl (y 3, 5, .inl g39)), (ma 40, .inl (y 3, 3, .inl g40)), (ma 41, .inl (y 3, 3, .inl g41)), (ma 50, .inl (y 0, 3200, .inl g50)), (ma 52, .inl (y 0, 1700, .inl u1104.2.2.2.2))]) [7, 8, 0, 1, 2, 4, 5, 3, 6] rfl (by decide) ?_
                    refine j_locs (lv' := [(1, .int (nI mz)), (0, .ref mo)]) [3, 4] rfl ?_
                    have hz1 := bz_e c1050
                    have hz0 := bz_le u1113.2.1
                    have hz2 : bz1 u1113.2.1 = 0 ∨ az + 1 ≤ u1113.1 := by
                      by_cases e : u1113.2.1 = 0
                      · right; have f0 := xh1117 e; have g0 := f0.2; have f1 := xh1108 f0.1; omega
                      · exact Or.inl (bz_0 e)
                    have xh1118 : RS kq s0 f0 xx u1113.2.1 g50 u1104.2.2.2.2 cd u1104.2.2.1 (az + 1) := rs_mono xh1109 (fun e => by have e0 := (xh1117 e).1; exact e0)
                    exact ih1023 (mz, u1113.1, u1113.2.1, u1104.2.2.2.2, u1104.2.2.1, u1077.2.1, u1113.2.2, u1104.2.2.2.1) ⟨hmz_, xh1116, (show t2 ≤ u1113.1 by omega), (show RS kq s0 f0 xx u1113.2.1 g50 u1104.2.2.2.2 cd u1104.2.2.1 u1113.1 from (rs_at xh1118 (by omega))), xh1111, xh1112, (show bs ≤ u1104.2.2.1 by omega)⟩ (show 2 * (t3 - u1113.1) + bz1 u1113.2.1 + mz < 2 * (t3 - az) + bz1 bz + mz by omega)
              · have xh1119 : RS kq s0 f0 xx u1077.2.2.1 g50 zw cd zn (az - 1) := rs_bad1 (rs_at xh1051 (by omega)) c1082
                refine j_aload_n (pc := 90) C d_Model_onePart_90 rfl 3 rfl ?_
                refine j_callVi (pc := 91) C (c_M_look l D y mo ma t1 u1077.1 t3 u1077.2.1 u1077.2.2.1 u1077.2.2.2 i7 i8 i42 i49 (nI cd) (nI zn) z512 (nI bs) i61 i64 i66 t67 i76 i78 g0 xh1080 he) kw_Model_213 kv_Model_look 0 10 rfl rfl ⟨by decide, by decide⟩ ⟨by decide, by decide⟩ (wr := [(ma 37, .inl (y 3, 3, .inl g37)), (ma 38, .inl (y 3, 5, .inl g38)), (ma 39, .inl (y 3, 5, .inl g39)), (ma 50, .inl (y 0, 3200, .inl g50)), (ma 52, .inl (y 0, 1700, .inl zw)), (ma 40, .inl (y 3, 3, .inl g40)), (ma 41, .inl (y 3, 3, .inl g41))]) [6, 7] [0, 1, 2, 3, 4, 5, 8] rfl rfl (by decide) (by decide) (by decide) (As := []) (rest := []) rfl (nb rfl) rfl d_Model_onePart_91 (fun r1120 u1121 hr1120 => ?_)
                refine j_ws (ws' := [(ma 37, .inl (y 3, 3, .inl g37)), (ma 38, .inl (y 3, 5, .inl g38)), (ma 39, .inl (y 3, 5, .inl g39)), (ma 50, .inl (y 0, 3200, .inl g50)), (ma 52, .inl (y 0, 1700, .inl zw)), (ma 40, .inl (y 3, 3, .inl g40)), (ma 41, .inl (y 3, 3, .inl g41)), MB mo ma (nI t1) (nI u1121) (nI t3) u1077.2.1 u1077.2.2.1 u1077.2.2.2 i7 i8 i42 i49 (nI cd) (nI zn) z512 (nI bs) i61 i64 i66 (nI t67) i76 i78, (ma 0, .inl (y 0, 1600, .inl g0))]) rfl ?_
                obtain ⟨xh1122, xh1123, xh1124⟩ := hr1120
                rcases xh1124 with rfl | ⟨xh1125, e1126⟩
                · refine j_bipush (pc := 94) C (v := 40) d_Model_onePart_94 (by decide) ?_
                  refine j_icmp_neT (pc := 96) C (tgt := 106) d_Model_onePart_96 (by decide) (by decide) ?_
                  refine j_iconst (pc := 106) C (v := (-1)) d_Model_onePart_106 (by decide) ?_
                  refine j_istore (pc := 107) C (lv' := [(4, .int (-1)), (3, .int 0), (2, .int (-1)), (1, .int (nI mz)), (0, .ref mo)]) d_Model_onePart_107 (by decide) rfl ?_
                  refine j_iload (pc := 109) C d_Model_onePart_109 0 rfl ?_
                  refine j_iconst (pc := 111) C (v := (-1)) d_Model_onePart_111 (by decide) ?_
                  refine j_icmp_eqT (pc := 112) C (tgt := 132) d_Model_onePart_112 (by decide) (by decide) ?_
                  refine j_aload_n (pc := 132) C d_Model_onePart_132 rfl 4 rfl ?_
                  refine j_bipush (pc := 133) C (v := 40) d_Model_onePart_133 (by decide) ?_
                  refine j_callVv (pc := 135) C (c_M_asksSign l D y mo ma t1 u1121 t3 u1077.2.1 u1077.2.2.1 u1077.2.2.2 i7 i8 i42 i49 (nI cd) (nI zn) z512 (nI bs) i61 i64 i66 t67 i76 i78 g0 40 xh1123 he (by decide)) kw_Model_271 kv_Model_asksSign 0 10 rfl rfl ⟨by decide, by decide⟩ ⟨by decide, by decide⟩ (wr := [(ma 37, .inl (y 3, 3, .inl g37)), (ma 38, .inl (y 3, 5, .inl g38)), (ma 39, .inl (y 3, 5, .inl g39)), (ma 50, .inl (y 0, 3200, .inl g50)), (ma 52, .inl (y 0, 1700, .inl zw)), (ma 40, .inl (y 3, 3, .inl g40)), (ma 41, .inl (y 3, 3, .inl g41))]) [7, 8] [0, 1, 2, 3, 4, 5, 6] rfl rfl (by decide) (by decide) (by decide) (As := [.int 40]) (rest := []) rfl (nb rfl) rfl d_Model_onePart_135 (fun u1127 hu1128 => ?_)
                  obtain ⟨xh1129, xh1130, xh1131⟩ := hu1128
                  refine j_ws (ws' := [(ma 37, .inl (y 3, 3, .inl g37)), (ma 38, .inl (y 3, 5, .inl g38)), (ma 39, .inl (y 3, 5, .inl g39)), (ma 50, .inl (y 0, 3200, .inl g50)), (ma 52, .inl (y 0, 1700, .inl zw)), (ma 40, .inl (y 3, 3, .inl g40)), (ma 41, .inl (y 3, 3, .inl g41)), MB mo ma (nI t1) (nI u1127.1) (nI t3) u1077.2.1 u1127.2.1 u1127.2.2 i7 i8 i42 i49 (nI cd) (nI zn) z512 (nI bs) i61 i64 i66 (nI t67) i76 i78, (ma 0, .inl (y 0, 1600, .inl g0))]) rfl ?_
                  refine j_goto (pc := 138) C (tgt := 143) d_Model_onePart_138 (by decide) ?_
                  refine j_goto (pc := 143) C (tgt := 2) d_Model_onePart_143 (by decide) ?_
                  refine j_sub (ws' := [MB mo ma (nI t1) (nI u1127.1) (nI t3) u1077.2.1 u1127.2.1 u1127.2.2 i7 i8 i42 i49 (nI cd) (nI zn) z512 (nI bs) i61 i64 i66 (nI t67) i76 i78, (ma 0, .inl (y 0, 1600, .inl g0)), (ma 37, .inl (y 3, 3, .inl g37)), (ma 38, .inl (y 3, 5, .inl g38)), (ma 39, .inl (y 3, 5, .inl g39)), (ma 40, .inl (y 3, 3, .inl g40)), (ma 41, .inl (y 3, 3, .inl g41)), (ma 50, .inl (y 0, 3200, .inl g50)), (ma 52, .inl (y 0, 1700, .inl zw))]) [7, 8, 0, 1, 2, 5, 6, 3, 4] rfl (by decide) ?_
                  refine j_locs (lv' := [(1, .int (nI mz)), (0, .ref mo)]) [3, 4] rfl ?_
                  have hz1 := bz_e c1050
                  have hz0 := bz_le u1127.2.1
                  have hz2 : bz1 u1127.2.1 = 0 ∨ az + 1 ≤ u1127.1 := by
                    by_cases e : u1127.2.1 = 0
                    · right; have f0 := xh1131 e; have g0 := f0.2; exact absurd f0.1 c1082
                    · exact Or.inl (bz_0 e)
                  have xh1132 : RS kq s0 f0 xx u1127.2.1 g50 zw cd zn (az - 1) := rs_mono xh1119 (fun e => by have e0 := (xh1131 e).1; exact e0)
                  exact ih1023 (mz, u1127.1, u1127.2.1, zw, zn, u1077.2.1, u1127.2.2, z512) ⟨hmz_, xh1130, (show t2 ≤ u1127.1 by omega), (show RS kq s0 f0 xx u1127.2.1 g50 zw cd zn u1127.1 from (rs_at xh1132 (by omega))), hT_, hS_, hb_⟩ (show 2 * (t3 - u1127.1) + bz1 u1127.2.1 + mz < 2 * (t3 - az) + bz1 bz + mz by omega)
                · refine j_bipush (pc := 94) C (v := 40) d_Model_onePart_94 (by decide) ?_
                  refine j_icmp_ne (pc := 96) C (tgt := 106) d_Model_onePart_96 (by decide) (fun c1133 => ?_) (fun c1133 => ?_)
                  · refine j_iconst (pc := 106) C (v := (-1)) d_Model_onePart_106 (by decide) ?_
                    refine j_istore (pc := 107) C (lv' := [(4, .int (-1)), (3, .int 0), (2, .int (-1)), (1, .int (nI mz)), (0, .ref mo)]) d_Model_onePart_107 (by decide) rfl ?_
                    refine j_iload (pc := 109) C d_Model_onePart_109 0 rfl ?_
                    refine j_iconst (pc := 111) C (v := (-1)) d_Model_onePart_111 (by decide) ?_
                    refine j_icmp_eqT (pc := 112) C (tgt := 132) d_Model_onePart_112 (by decide) (by decide) ?_
                    refine j_aload_n (pc := 132) C d_Model_onePart_132 rfl 4 rfl ?_
                    refine j_bipush (pc := 133) C (v := 40) d_Model_onePart_133 (by decide) ?_
                    refine j_callVv (pc := 135) C (c_M_asksSign l D y mo ma t1 u1121 t3 u1077.2.1 u1077.2.2.1 u1077.2.2.2 i7 i8 i42 i49 (nI cd) (nI zn) z512 (nI bs) i61 i64 i66 t67 i76 i78 g0 40 xh1123 he (by decide)) kw_Model_271 kv_Model_asksSign 0 10 rfl rfl ⟨by decide, by decide⟩ ⟨by decide, by decide⟩ (wr := [(ma 37, .inl (y 3, 3, .inl g37)), (ma 38, .inl (y 3, 5, .inl g38)), (ma 39, .inl (y 3, 5, .inl g39)), (ma 50, .inl (y 0, 3200, .inl g50)), (ma 52, .inl (y 0, 1700, .inl zw)), (ma 40, .inl (y 3, 3, .inl g40)), (ma 41, .inl (y 3, 3, .inl g41))]) [7, 8] [0, 1, 2, 3, 4, 5, 6] rfl rfl (by decide) (by decide) (by decide) (As := [.int 40]) (rest := []) rfl (nb rfl) rfl d_Model_onePart_135 (fun u1134 hu1135 => ?_)
                    obtain ⟨xh1136, xh1137, xh1138⟩ := hu1135
                    refine j_ws (ws' := [(ma 37, .inl (y 3, 3, .inl g37)), (ma 38, .inl (y 3, 5, .inl g38)), (ma 39, .inl (y 3, 5, .inl g39)), (ma 50, .inl (y 0, 3200, .inl g50)), (ma 52, .inl (y 0, 1700, .inl zw)), (ma 40, .inl (y 3, 3, .inl g40)), (ma 41, .inl (y 3, 3, .inl g41)), MB mo ma (nI t1) (nI u1134.1) (nI t3) u1077.2.1 u1134.2.1 u1134.2.2 i7 i8 i42 i49 (nI cd) (nI zn) z512 (nI bs) i61 i64 i66 (nI t67) i76 i78, (ma 0, .inl (y 0, 1600, .inl g0))]) rfl ?_
                    refine j_goto (pc := 138) C (tgt := 143) d_Model_onePart_138 (by decide) ?_
                    refine j_goto (pc := 143) C (tgt := 2) d_Model_onePart_143 (by decide) ?_
                    refine j_sub (ws' := [MB mo ma (nI t1) (nI u1134.1) (nI t3) u1077.2.1 u1134.2.1 u1134.2.2 i7 i8 i42 i49 (nI cd) (nI zn) z512 (nI bs) i61 i64 i66 (nI t67) i76 i78, (ma 0, .inl (y 0, 1600, .inl g0)), (ma 37, .inl (y 3, 3, .inl g37)), (ma 38, .inl (y 3, 5, .inl g38)), (ma 39, .inl (y 3, 5, .inl g39)), (ma 40, .inl (y 3, 3, .inl g40)), (ma 41, .inl (y 3, 3, .inl g41)), (ma 50, .inl (y 0, 3200, .inl g50)), (ma 52, .inl (y 0, 1700, .inl zw))]) [7, 8, 0, 1, 2, 5, 6, 3, 4] rfl (by decide) ?_
                    refine j_locs (lv' := [(1, .int (nI mz)), (0, .ref mo)]) [3, 4] rfl ?_
                    have hz1 := bz_e c1050
                    have hz0 := bz_le u1134.2.1
                    have hz2 : bz1 u1134.2.1 = 0 ∨ az + 1 ≤ u1134.1 := by
                      by_cases e : u1134.2.1 = 0
                      · right; have f0 := xh1138 e; have g0 := f0.2; exact absurd f0.1 c1082
                      · exact Or.inl (bz_0 e)
                    have xh1139 : RS kq s0 f0 xx u1134.2.1 g50 zw cd zn (az - 1) := rs_mono xh1119 (fun e => by have e0 := (xh1138 e).1; exact e0)
                    exact ih1023 (mz, u1134.1, u1134.2.1, zw, zn, u1077.2.1, u1134.2.2, z512) ⟨hmz_, xh1137, (show t2 ≤ u1134.1 by omega), (show RS kq s0 f0 xx u1134.2.1 g50 zw cd zn u1134.1 from (rs_at xh1139 (by omega))), hT_, hS_, hb_⟩ (show 2 * (t3 - u1134.1) + bz1 u1134.2.1 + mz < 2 * (t3 - az) + bz1 bz + mz by omega)
                  · refine j_aload_n (pc := 99) C d_Model_onePart_99 rfl 3 rfl ?_
                    refine j_get (pc := 100) C gf_Model_207 7 rfl rfl d_Model_onePart_100 ?_
                    refine j_goto (pc := 103) C (tgt := 107) d_Model_onePart_103 (by decide) ?_
                    refine j_istore (pc := 107) C (lv' := [(4, .int (nI u1121)), (3, .int 0), (2, .int (-1)), (1, .int (nI mz)), (0, .ref mo)]) d_Model_onePart_107 (by decide) rfl ?_
                    refine j_iload (pc := 109) C d_Model_onePart_109 0 rfl ?_
                    refine j_iconst (pc := 111) C (v := (-1)) d_Model_onePart_111 (by decide) ?_
                    refine j_icmp_eqF (pc := 112) C (tgt := 132) d_Model_onePart_112 (by decide) (nI_nm1 (by omega)) ?_
                    refine j_aload_n (pc := 115) C d_Model_onePart_115 rfl 4 rfl ?_
                    refine j_iload_n (pc := 116) C d_Model_onePart_116 rfl 1 rfl ?_
                    refine j_if_eqT (pc := 117) C (tgt := 125) d_Model_onePart_117 (by decide) (by decide) ?_
                    refine j_bipush (pc := 125) C (v := 22) d_Model_onePart_125 (by decide) ?_
                    refine j_iload (pc := 127) C d_Model_onePart_127 0 rfl ?_
                    refine j_callVv (pc := 129) C (c_M_opens l D y mo ma t1 u1121 t3 u1077.2.1 u1077.2.2.1 u1077.2.2.2 i7 i8 i42 i49 cd zn z512 bs i61 i64 i66 t67 i76 i78 zw 22 (nI u1121) s0 xx kq f0 (az - 1) g50 (by decide) (by omega) xh1119 (by decide) hT_ hS_ hb_ hK) kw_Model_353 kv_Model_opens 0 10 rfl rfl ⟨by decide, by decide⟩ ⟨by decide, by decide⟩ (wr := [(ma 37, .inl (y 3, 3, .inl g37)), (ma 38, .inl (y 3, 5, .inl g38)), (ma 39, .inl (y 3, 5, .inl g39)), (ma 50, .inl (y 0, 3200, .inl g50)), (ma 40, .inl (y 3, 3, .inl g40)), (ma 41, .inl (y 3, 3, .inl g41)), (ma 0, .inl (y 0, 1600, .inl g0))]) [7, 4] [0, 1, 2, 3, 5, 6, 8] rfl rfl (by decide) (by decide) (by decide) (As := [.int 22, .int (nI u1121)]) (rest := []) rfl (nb rfl) rfl d_Model_onePart_129 (fun u1140 hu1141 => ?_)
                    obtain ⟨xh1142, xh1143, xh1144, xh1145, xh1146, xh1147, xh1148⟩ := hu1141
                    refine j_ws (ws' := [(ma 37, .inl (y 3, 3, .inl g37)), (ma 38, .inl (y 3, 5, .inl g38)), (ma 39, .inl (y 3, 5, .inl g39)), (ma 50, .inl (y 0, 3200, .inl g50)), (ma 40, .inl (y 3, 3, .inl g40)), (ma 41, .inl (y 3, 3, .inl g41)), (ma 0, .inl (y 0, 1600, .inl g0)), MB mo ma (nI t1) (nI u1121) (nI t3) u1077.2.1 u1140.1 u1140.2.1 i7 i8 i42 i49 (nI cd) (nI u1140.2.2.1) u1140.2.2.2.1 (nI bs) i61 i64 i66 (nI t67) i76 i78, (ma 52, .inl (y 0, 1700, .inl u1140.2.2.2.2))]) rfl ?_
                    refine j_aload_n (pc := 132) C d_Model_onePart_132 rfl 4 rfl ?_
                    refine j_bipush (pc := 133) C (v := 40) d_Model_onePart_133 (by decide) ?_
                    refine j_callVv (pc := 135) C (c_M_asksSign l D y mo ma t1 u1121 t3 u1077.2.1 u1140.1 u1140.2.1 i7 i8 i42 i49 (nI cd) (nI u1140.2.2.1) u1140.2.2.2.1 (nI bs) i61 i64 i66 t67 i76 i78 g0 40 xh1123 he (by decide)) kw_Model_271 kv_Model_asksSign 0 10 rfl rfl ⟨by decide, by decide⟩ ⟨by decide, by decide⟩ (wr := [(ma 37, .inl (y 3, 3, .inl g37)), (ma 38, .inl (y 3, 5, .inl g38)), (ma 39, .inl (y 3, 5, .inl g39)), (ma 50, .inl (y 0, 3200, .inl g50)), (ma 40, .inl (y 3, 3, .inl g40)), (ma 41, .inl (y 3, 3, .inl g41)), (ma 52, .inl (y 0, 1700, .inl u1140.2.2.2.2))]) [7, 6] [0, 1, 2, 3, 4, 5, 8] rfl rfl (by decide) (by decide) (by decide) (As := [.int 40]) (rest := []) rfl (nb rfl) rfl d_Model_onePart_135 (fun u1149 hu1150 => ?_)
                    obtain ⟨xh1151, xh1152, xh1153⟩ := hu1150
                    refine j_ws (ws' := [(ma 37, .inl (y 3, 3, .inl g37)), (ma 38, .inl (y 3, 5, .inl g38)), (ma 39, .inl (y 3, 5, .inl g39)), (ma 50, .inl (y 0, 3200, .inl g50)), (ma 40, .inl (y 3, 3, .inl g40)), (ma 41, .inl (y 3, 3, .inl g41)), (ma 52, .inl (y 0, 1700, .inl u1140.2.2.2.2)), MB mo ma (nI t1) (nI u1149.1) (nI t3) u1077.2.1 u1149.2.1 u1149.2.2 i7 i8 i42 i49 (nI cd) (nI u1140.2.2.1) u1140.2.2.2.1 (nI bs) i61 i64 i66 (nI t67) i76 i78, (ma 0, .inl (y 0, 1600, .inl g0))]) rfl ?_
                    refine j_goto (pc := 138) C (tgt := 143) d_Model_onePart_138 (by decide) ?_
                    refine j_goto (pc := 143) C (tgt := 2) d_Model_onePart_143 (by decide) ?_
                    refine j_sub (ws' := [MB mo ma (nI t1) (nI u1149.1) (nI t3) u1077.2.1 u1149.2.1 u1149.2.2 i7 i8 i42 i49 (nI cd) (nI u1140.2.2.1) u1140.2.2.2.1 (nI bs) i61 i64 i66 (nI t67) i76 i78, (ma 0, .inl (y 0, 1600, .inl g0)), (ma 37, .inl (y 3, 3, .inl g37)), (ma 38, .inl (y 3, 5, .inl g38)), (ma 39, .inl (y 3, 5, .inl g39)), (ma 40, .inl (y 3, 3, .inl g40)), (ma 41, .inl (y 3, 3, .inl g41)), (ma 50, .inl (y 0, 3200, .inl g50)), (ma 52, .inl (y 0, 1700, .inl u1140.2.2.2.2))]) [7, 8, 0, 1, 2, 4, 5, 3, 6] rfl (by decide) ?_
                    refine j_locs (lv' := [(1, .int (nI mz)), (0, .ref mo)]) [3, 4] rfl ?_
                    have hz1 := bz_e c1050
                    have hz0 := bz_le u1149.2.1
                    have hz2 : bz1 u1149.2.1 = 0 ∨ az + 1 ≤ u1149.1 := by
                      by_cases e : u1149.2.1 = 0
                      · right; have f0 := xh1153 e; have g0 := f0.2; have f1 := xh1144 f0.1; exact absurd f1 c1082
                      · exact Or.inl (bz_0 e)
                    have xh1154 : RS kq s0 f0 xx u1149.2.1 g50 u1140.2.2.2.2 cd u1140.2.2.1 ((az - 1) + 1) := rs_mono xh1145 (fun e => by have e0 := (xh1153 e).1; exact e0)
                    exact ih1023 (mz, u1149.1, u1149.2.1, u1140.2.2.2.2, u1140.2.2.1, u1077.2.1, u1149.2.2, u1140.2.2.2.1) ⟨hmz_, xh1152, (show t2 ≤ u1149.1 by omega), (show RS kq s0 f0 xx u1149.2.1 g50 u1140.2.2.2.2 cd u1140.2.2.1 u1149.1 from (rs_at xh1154 (by omega))), xh1147, xh1148, (show bs ≤ u1140.2.2.1 by omega)⟩ (show 2 * (t3 - u1149.1) + bz1 u1149.2.1 + mz < 2 * (t3 - az) + bz1 bz + mz by omega)
            · refine j_istore_n (pc := 77) C (lv' := [(3, .int 1), (2, .int (-1)), (1, .int (nI mz)), (0, .ref mo)]) d_Model_onePart_77 rfl (by decide) rfl ?_
              refine j_iload_n (pc := 78) C d_Model_onePart_78 rfl 0 rfl ?_
              refine j_if_neT (pc := 79) C (tgt := 90) d_Model_onePart_79 (by decide) (by decide) ?_
              refine j_aload_n (pc := 90) C d_Model_onePart_90 rfl 3 rfl ?_
              refine j_callVi (pc := 91) C (c_M_look l D y mo ma t1 u1072.1 t3 u1072.2 0 z511 i7 i8 i42 i49 (nI cd) (nI zn) z512 (nI bs) i61 i64 i66 t67 i76 i78 g0 xh1074 he) kw_Model_213 kv_Model_look 0 10 rfl rfl ⟨by decide, by decide⟩ ⟨by decide, by decide⟩ (wr := [(ma 37, .inl (y 3, 3, .inl g37)), (ma 38, .inl (y 3, 5, .inl g38)), (ma 39, .inl (y 3, 5, .inl g39)), (ma 50, .inl (y 0, 3200, .inl g50)), (ma 52, .inl (y 0, 1700, .inl zw)), (ma 41, .inl (y 3, 3, .inl g41)), (ma 40, .inl (y 3, 3, .inl g40))]) [6, 7] [0, 1, 2, 3, 4, 5, 8] rfl rfl (by decide) (by decide) (by decide) (As := []) (rest := []) rfl (nb rfl) rfl d_Model_onePart_91 (fun r1155 u1156 hr1155 => ?_)
              refine j_ws (ws' := [(ma 37, .inl (y 3, 3, .inl g37)), (ma 38, .inl (y 3, 5, .inl g38)), (ma 39, .inl (y 3, 5, .inl g39)), (ma 50, .inl (y 0, 3200, .inl g50)), (ma 52, .inl (y 0, 1700, .inl zw)), (ma 41, .inl (y 3, 3, .inl g41)), (ma 40, .inl (y 3, 3, .inl g40)), MB mo ma (nI t1) (nI u1156) (nI t3) u1072.2 0 z511 i7 i8 i42 i49 (nI cd) (nI zn) z512 (nI bs) i61 i64 i66 (nI t67) i76 i78, (ma 0, .inl (y 0, 1600, .inl g0))]) rfl ?_
              obtain ⟨xh1157, xh1158, xh1159⟩ := hr1155
              rcases xh1159 with rfl | ⟨xh1160, e1161⟩
              · refine j_bipush (pc := 94) C (v := 40) d_Model_onePart_94 (by decide) ?_
                refine j_icmp_neT (pc := 96) C (tgt := 106) d_Model_onePart_96 (by decide) (by decide) ?_
                refine j_iconst (pc := 106) C (v := (-1)) d_Model_onePart_106 (by decide) ?_
                refine j_istore (pc := 107) C (lv' := [(4, .int (-1)), (3, .int 1), (2, .int (-1)), (1, .int (nI mz)), (0, .ref mo)]) d_Model_onePart_107 (by decide) rfl ?_
                refine j_iload (pc := 109) C d_Model_onePart_109 0 rfl ?_
                refine j_iconst (pc := 111) C (v := (-1)) d_Model_onePart_111 (by decide) ?_
                refine j_icmp_eqT (pc := 112) C (tgt := 132) d_Model_onePart_112 (by decide) (by decide) ?_
                refine j_aload_n (pc := 132) C d_Model_onePart_132 rfl 4 rfl ?_
                refine j_bipush (pc := 133) C (v := 40) d_Model_onePart_133 (by decide) ?_
                refine j_callVv (pc := 135) C (c_M_asksSign l D y mo ma t1 u1156 t3 u1072.2 0 z511 i7 i8 i42 i49 (nI cd) (nI zn) z512 (nI bs) i61 i64 i66 t67 i76 i78 g0 40 xh1158 he (by decide)) kw_Model_271 kv_Model_asksSign 0 10 rfl rfl ⟨by decide, by decide⟩ ⟨by decide, by decide⟩ (wr := [(ma 37, .inl (y 3, 3, .inl g37)), (ma 38, .inl (y 3, 5, .inl g38)), (ma 39, .inl (y 3, 5, .inl g39)), (ma 50, .inl (y 0, 3200, .inl g50)), (ma 52, .inl (y 0, 1700, .inl zw)), (ma 41, .inl (y 3, 3, .inl g41)), (ma 40, .inl (y 3, 3, .inl g40))]) [7, 8] [0, 1, 2, 3, 4, 5, 6] rfl rfl (by decide) (by decide) (by decide) (As := [.int 40]) (rest := []) rfl (nb rfl) rfl d_Model_onePart_135 (fun u1162 hu1163 => ?_)
                obtain ⟨xh1164, xh1165, xh1166⟩ := hu1163
                refine j_ws (ws' := [(ma 37, .inl (y 3, 3, .inl g37)), (ma 38, .inl (y 3, 5, .inl g38)), (ma 39, .inl (y 3, 5, .inl g39)), (ma 50, .inl (y 0, 3200, .inl g50)), (ma 52, .inl (y 0, 1700, .inl zw)), (ma 41, .inl (y 3, 3, .inl g41)), (ma 40, .inl (y 3, 3, .inl g40)), MB mo ma (nI t1) (nI u1162.1) (nI t3) u1072.2 u1162.2.1 u1162.2.2 i7 i8 i42 i49 (nI cd) (nI zn) z512 (nI bs) i61 i64 i66 (nI t67) i76 i78, (ma 0, .inl (y 0, 1600, .inl g0))]) rfl ?_
                refine j_goto (pc := 138) C (tgt := 143) d_Model_onePart_138 (by decide) ?_
                refine j_goto (pc := 143) C (tgt := 2) d_Model_onePart_143 (by decide) ?_
                refine j_sub (ws' := [MB mo ma (nI t1) (nI u1162.1) (nI t3) u1072.2 u1162.2.1 u1162.2.2 i7 i8 i42 i49 (nI cd) (nI zn) z512 (nI bs) i61 i64 i66 (nI t67) i76 i78, (ma 0, .inl (y 0, 1600, .inl g0)), (ma 37, .inl (y 3, 3, .inl g37)), (ma 38, .inl (y 3, 5, .inl g38)), (ma 39, .inl (y 3, 5, .inl g39)), (ma 40, .inl (y 3, 3, .inl g40)), (ma 41, .inl (y 3, 3, .inl g41)), (ma 50, .inl (y 0, 3200, .inl g50)), (ma 52, .inl (y 0, 1700, .inl zw))]) [7, 8, 0, 1, 2, 6, 5, 3, 4] rfl (by decide) ?_
                refine j_locs (lv' := [(1, .int (nI mz)), (0, .ref mo)]) [3, 4] rfl ?_
                have hz1 := bz_e c1050
                have hz0 := bz_le u1162.2.1
                have hz2 : bz1 u1162.2.1 = 0 ∨ az + 1 ≤ u1162.1 := by
                  by_cases e : u1162.2.1 = 0
                  · right; have f0 := xh1166 e; have g0 := f0.2; omega
                  · exact Or.inl (bz_0 e)
                have xh1167 : RS kq s0 f0 xx u1162.2.1 g50 zw cd zn az := rs_mono xh1051 (fun _ => rfl)
                exact ih1023 (mz, u1162.1, u1162.2.1, zw, zn, u1072.2, u1162.2.2, z512) ⟨hmz_, xh1165, (show t2 ≤ u1162.1 by omega), (show RS kq s0 f0 xx u1162.2.1 g50 zw cd zn u1162.1 from (rs_at xh1167 (by omega))), hT_, hS_, hb_⟩ (show 2 * (t3 - u1162.1) + bz1 u1162.2.1 + mz < 2 * (t3 - az) + bz1 bz + mz by omega)
              · refine j_bipush (pc := 94) C (v := 40) d_Model_onePart_94 (by decide) ?_
                refine j_icmp_ne (pc := 96) C (tgt := 106) d_Model_onePart_96 (by decide) (fun c1168 => ?_) (fun c1168 => ?_)
                · refine j_iconst (pc := 106) C (v := (-1)) d_Model_onePart_106 (by decide) ?_
                  refine j_istore (pc := 107) C (lv' := [(4, .int (-1)), (3, .int 1), (2, .int (-1)), (1, .int (nI mz)), (0, .ref mo)]) d_Model_onePart_107 (by decide) rfl ?_
                  refine j_iload (pc := 109) C d_Model_onePart_109 0 rfl ?_
                  refine j_iconst (pc := 111) C (v := (-1)) d_Model_onePart_111 (by decide) ?_
                  refine j_icmp_eqT (pc := 112) C (tgt := 132) d_Model_onePart_112 (by decide) (by decide) ?_
                  refine j_aload_n (pc := 132) C d_Model_onePart_132 rfl 4 rfl ?_
                  refine j_bipush (pc := 133) C (v := 40) d_Model_onePart_133 (by decide) ?_
                  refine j_callVv (pc := 135) C (c_M_asksSign l D y mo ma t1 u1156 t3 u1072.2 0 z511 i7 i8 i42 i49 (nI cd) (nI zn) z512 (nI bs) i61 i64 i66 t67 i76 i78 g0 40 xh1158 he (by decide)) kw_Model_271 kv_Model_asksSign 0 10 rfl rfl ⟨by decide, by decide⟩ ⟨by decide, by decide⟩ (wr := [(ma 37, .inl (y 3, 3, .inl g37)), (ma 38, .inl (y 3, 5, .inl g38)), (ma 39, .inl (y 3, 5, .inl g39)), (ma 50, .inl (y 0, 3200, .inl g50)), (ma 52, .inl (y 0, 1700, .inl zw)), (ma 41, .inl (y 3, 3, .inl g41)), (ma 40, .inl (y 3, 3, .inl g40))]) [7, 8] [0, 1, 2, 3, 4, 5, 6] rfl rfl (by decide) (by decide) (by decide) (As := [.int 40]) (rest := []) rfl (nb rfl) rfl d_Model_onePart_135 (fun u1169 hu1170 => ?_)
                  obtain ⟨xh1171, xh1172, xh1173⟩ := hu1170
                  refine j_ws (ws' := [(ma 37, .inl (y 3, 3, .inl g37)), (ma 38, .inl (y 3, 5, .inl g38)), (ma 39, .inl (y 3, 5, .inl g39)), (ma 50, .inl (y 0, 3200, .inl g50)), (ma 52, .inl (y 0, 1700, .inl zw)), (ma 41, .inl (y 3, 3, .inl g41)), (ma 40, .inl (y 3, 3, .inl g40)), MB mo ma (nI t1) (nI u1169.1) (nI t3) u1072.2 u1169.2.1 u1169.2.2 i7 i8 i42 i49 (nI cd) (nI zn) z512 (nI bs) i61 i64 i66 (nI t67) i76 i78, (ma 0, .inl (y 0, 1600, .inl g0))]) rfl ?_
                  refine j_goto (pc := 138) C (tgt := 143) d_Model_onePart_138 (by decide) ?_
                  refine j_goto (pc := 143) C (tgt := 2) d_Model_onePart_143 (by decide) ?_
                  refine j_sub (ws' := [MB mo ma (nI t1) (nI u1169.1) (nI t3) u1072.2 u1169.2.1 u1169.2.2 i7 i8 i42 i49 (nI cd) (nI zn) z512 (nI bs) i61 i64 i66 (nI t67) i76 i78, (ma 0, .inl (y 0, 1600, .inl g0)), (ma 37, .inl (y 3, 3, .inl g37)), (ma 38, .inl (y 3, 5, .inl g38)), (ma 39, .inl (y 3, 5, .inl g39)), (ma 40, .inl (y 3, 3, .inl g40)), (ma 41, .inl (y 3, 3, .inl g41)), (ma 50, .inl (y 0, 3200, .inl g50)), (ma 52, .inl (y 0, 1700, .inl zw))]) [7, 8, 0, 1, 2, 6, 5, 3, 4] rfl (by decide) ?_
                  refine j_locs (lv' := [(1, .int (nI mz)), (0, .ref mo)]) [3, 4] rfl ?_
                  have hz1 := bz_e c1050
                  have hz0 := bz_le u1169.2.1
                  have hz2 : bz1 u1169.2.1 = 0 ∨ az + 1 ≤ u1169.1 := by
                    by_cases e : u1169.2.1 = 0
                    · right; have f0 := xh1173 e; have g0 := f0.2; omega
                    · exact Or.inl (bz_0 e)
                  have xh1174 : RS kq s0 f0 xx u1169.2.1 g50 zw cd zn az := rs_mono xh1051 (fun _ => rfl)
                  exact ih1023 (mz, u1169.1, u1169.2.1, zw, zn, u1072.2, u1169.2.2, z512) ⟨hmz_, xh1172, (show t2 ≤ u1169.1 by omega), (show RS kq s0 f0 xx u1169.2.1 g50 zw cd zn u1169.1 from (rs_at xh1174 (by omega))), hT_, hS_, hb_⟩ (show 2 * (t3 - u1169.1) + bz1 u1169.2.1 + mz < 2 * (t3 - az) + bz1 bz + mz by omega)
                · refine j_aload_n (pc := 99) C d_Model_onePart_99 rfl 3 rfl ?_
                  refine j_get (pc := 100) C gf_Model_207 7 rfl rfl d_Model_onePart_100 ?_
                  refine j_goto (pc := 103) C (tgt := 107) d_Model_onePart_103 (by decide) ?_
                  refine j_istore (pc := 107) C (lv' := [(4, .int (nI u1156)), (3, .int 1), (2, .int (-1)), (1, .int (nI mz)), (0, .ref mo)]) d_Model_onePart_107 (by decide) rfl ?_
                  refine j_iload (pc := 109) C d_Model_onePart_109 0 rfl ?_
                  refine j_iconst (pc := 111) C (v := (-1)) d_Model_onePart_111 (by decide) ?_
                  refine j_icmp_eqF (pc := 112) C (tgt := 132) d_Model_onePart_112 (by decide) (nI_nm1 (by omega)) ?_
                  refine j_aload_n (pc := 115) C d_Model_onePart_115 rfl 4 rfl ?_
                  refine j_iload_n (pc := 116) C d_Model_onePart_116 rfl 1 rfl ?_
                  refine j_if_eqF (pc := 117) C (tgt := 125) d_Model_onePart_117 (by decide) (by decide) ?_
                  refine j_bipush (pc := 120) C (v := 21) d_Model_onePart_120 (by decide) ?_
                  refine j_goto (pc := 122) C (tgt := 127) d_Model_onePart_122 (by decide) ?_
                  refine j_iload (pc := 127) C d_Model_onePart_127 0 rfl ?_
                  refine j_callVv (pc := 129) C (c_M_opens l D y mo ma t1 u1156 t3 u1072.2 0 z511 i7 i8 i42 i49 cd zn z512 bs i61 i64 i66 t67 i76 i78 zw 21 (nI u1156) s0 xx kq f0 az g50 (by decide) (by omega) xh1051 (by decide) hT_ hS_ hb_ hK) kw_Model_353 kv_Model_opens 0 10 rfl rfl ⟨by decide, by decide⟩ ⟨by decide, by decide⟩ (wr := [(ma 37, .inl (y 3, 3, .inl g37)), (ma 38, .inl (y 3, 5, .inl g38)), (ma 39, .inl (y 3, 5, .inl g39)), (ma 50, .inl (y 0, 3200, .inl g50)), (ma 41, .inl (y 3, 3, .inl g41)), (ma 40, .inl (y 3, 3, .inl g40)), (ma 0, .inl (y 0, 1600, .inl g0))]) [7, 4] [0, 1, 2, 3, 5, 6, 8] rfl rfl (by decide) (by decide) (by decide) (As := [.int 21, .int (nI u1156)]) (rest := []) rfl (nb rfl) rfl d_Model_onePart_129 (fun u1175 hu1176 => ?_)
                  obtain ⟨xh1177, xh1178, xh1179, xh1180, xh1181, xh1182, xh1183⟩ := hu1176
                  refine j_ws (ws' := [(ma 37, .inl (y 3, 3, .inl g37)), (ma 38, .inl (y 3, 5, .inl g38)), (ma 39, .inl (y 3, 5, .inl g39)), (ma 50, .inl (y 0, 3200, .inl g50)), (ma 41, .inl (y 3, 3, .inl g41)), (ma 40, .inl (y 3, 3, .inl g40)), (ma 0, .inl (y 0, 1600, .inl g0)), MB mo ma (nI t1) (nI u1156) (nI t3) u1072.2 u1175.1 u1175.2.1 i7 i8 i42 i49 (nI cd) (nI u1175.2.2.1) u1175.2.2.2.1 (nI bs) i61 i64 i66 (nI t67) i76 i78, (ma 52, .inl (y 0, 1700, .inl u1175.2.2.2.2))]) rfl ?_
                  refine j_aload_n (pc := 132) C d_Model_onePart_132 rfl 4 rfl ?_
                  refine j_bipush (pc := 133) C (v := 40) d_Model_onePart_133 (by decide) ?_
                  refine j_callVv (pc := 135) C (c_M_asksSign l D y mo ma t1 u1156 t3 u1072.2 u1175.1 u1175.2.1 i7 i8 i42 i49 (nI cd) (nI u1175.2.2.1) u1175.2.2.2.1 (nI bs) i61 i64 i66 t67 i76 i78 g0 40 xh1158 he (by decide)) kw_Model_271 kv_Model_asksSign 0 10 rfl rfl ⟨by decide, by decide⟩ ⟨by decide, by decide⟩ (wr := [(ma 37, .inl (y 3, 3, .inl g37)), (ma 38, .inl (y 3, 5, .inl g38)), (ma 39, .inl (y 3, 5, .inl g39)), (ma 50, .inl (y 0, 3200, .inl g50)), (ma 41, .inl (y 3, 3, .inl g41)), (ma 40, .inl (y 3, 3, .inl g40)), (ma 52, .inl (y 0, 1700, .inl u1175.2.2.2.2))]) [7, 6] [0, 1, 2, 3, 4, 5, 8] rfl rfl (by decide) (by decide) (by decide) (As := [.int 40]) (rest := []) rfl (nb rfl) rfl d_Model_onePart_135 (fun u1184 hu1185 => ?_)
                  obtain ⟨xh1186, xh1187, xh1188⟩ := hu1185
                  refine j_ws (ws' := [(ma 37, .inl (y 3, 3, .inl g37)), (ma 38, .inl (y 3, 5, .inl g38)), (ma 39, .inl (y 3, 5, .inl g39)), (ma 50, .inl (y 0, 3200, .inl g50)), (ma 41, .inl (y 3, 3, .inl g41)), (ma 40, .inl (y 3, 3, .inl g40)), (ma 52, .inl (y 0, 1700, .inl u1175.2.2.2.2)), MB mo ma (nI t1) (nI u1184.1) (nI t3) u1072.2 u1184.2.1 u1184.2.2 i7 i8 i42 i49 (nI cd) (nI u1175.2.2.1) u1175.2.2.2.1 (nI bs) i61 i64 i66 (nI t67) i76 i78, (ma 0, .inl (y 0, 1600, .inl g0))]) rfl ?_
                  refine j_goto (pc := 138) C (tgt := 143) d_Model_onePart_138 (by decide) ?_
                  refine j_goto (pc := 143) C (tgt := 2) d_Model_onePart_143 (by decide) ?_
                  refine j_sub (ws' := [MB mo ma (nI t1) (nI u1184.1) (nI t3) u1072.2 u1184.2.1 u1184.2.2 i7 i8 i42 i49 (nI cd) (nI u1175.2.2.1) u1175.2.2.2.1 (nI bs) i61 i64 i66 (nI t67) i76 i78, (ma 0, .inl (y 0, 1600, .inl g0)), (ma 37, .inl (y 3, 3, .inl g37)), (ma 38, .inl (y 3, 5, .inl g38)), (ma 39, .inl (y 3, 5, .inl g39)), (ma 40, .inl (y 3, 3, .inl g40)), (ma 41, .inl (y 3, 3, .inl g41)), (ma 50, .inl (y 0, 3200, .inl g50)), (ma 52, .inl (y 0, 1700, .inl u1175.2.2.2.2))]) [7, 8, 0, 1, 2, 5, 4, 3, 6] rfl (by decide) ?_
                  refine j_locs (lv' := [(1, .int (nI mz)), (0, .ref mo)]) [3, 4] rfl ?_
                  have hz1 := bz_e c1050
                  have hz0 := bz_le u1184.2.1
                  have hz2 : bz1 u1184.2.1 = 0 ∨ az + 1 ≤ u1184.1 := by
                    by_cases e : u1184.2.1 = 0
                    · right; have f0 := xh1188 e; have g0 := f0.2; have f1 := xh1179 f0.1; omega
                    · exact Or.inl (bz_0 e)
                  have xh1189 : RS kq s0 f0 xx u1184.2.1 g50 u1175.2.2.2.2 cd u1175.2.2.1 (az + 1) := rs_mono xh1180 (fun e => by have e0 := (xh1188 e).1; exact e0)
                  exact ih1023 (mz, u1184.1, u1184.2.1, u1175.2.2.2.2, u1175.2.2.1, u1072.2, u1184.2.2, u1175.2.2.2.1) ⟨hmz_, xh1187, (show t2 ≤ u1184.1 by omega), (show RS kq s0 f0 xx u1184.2.1 g50 u1175.2.2.2.2 cd u1175.2.2.1 u1184.1 from (rs_at xh1189 (by omega))), xh1182, xh1183, (show bs ≤ u1175.2.2.1 by omega)⟩ (show 2 * (t3 - u1184.1) + bz1 u1184.2.1 + mz < 2 * (t3 - az) + bz1 bz + mz by omega)
        · refine j_if_neT (pc := 55) C (tgt := 69) d_Model_onePart_55 (by decide) (by decide) ?_
          refine j_aload_n (pc := 69) C d_Model_onePart_69 rfl 2 rfl ?_
          refine j_aload_n (pc := 70) C d_Model_onePart_70 rfl 2 rfl ?_
          refine j_get (pc := 71) C gf_Model_111 6 rfl rfl d_Model_onePart_71 ?_
          refine j_callVi (pc := 74) C (c_M_takes_3 l D y mo (ma 40) ma t1 u1060 t3 z510 0 z511 i7 i8 i42 i49 (nI cd) (nI zn) z512 (nI bs) i61 i64 i66 t67 i76 i78 g0 g40 xh1062 he) kw_Model_228 kv_Model_takes 0 10 rfl rfl ⟨by decide, by decide⟩ ⟨by decide, by decide⟩ (wr := [(ma 37, .inl (y 3, 3, .inl g37)), (ma 38, .inl (y 3, 5, .inl g38)), (ma 39, .inl (y 3, 5, .inl g39)), (ma 41, .inl (y 3, 3, .inl g41)), (ma 50, .inl (y 0, 3200, .inl g50)), (ma 52, .inl (y 0, 1700, .inl zw))]) [6, 7, 8] [0, 1, 2, 3, 4, 5] rfl rfl (by decide) (by decide) (by decide) (As := [.ref (ma 40)]) (rest := []) rfl (nb rfl) rfl d_Model_onePart_74 (fun r1190 u1191 hr1190 => ?_)
          refine j_ws (ws' := [(ma 37, .inl (y 3, 3, .inl g37)), (ma 38, .inl (y 3, 5, .inl g38)), (ma 39, .inl (y 3, 5, .inl g39)), (ma 41, .inl (y 3, 3, .inl g41)), (ma 50, .inl (y 0, 3200, .inl g50)), (ma 52, .inl (y 0, 1700, .inl zw)), MB mo ma (nI t1) (nI u1191.1) (nI t3) u1191.2 0 z511 i7 i8 i42 i49 (nI cd) (nI zn) z512 (nI bs) i61 i64 i66 (nI t67) i76 i78, (ma 0, .inl (y 0, 1600, .inl g0)), (ma 40, .inl (y 3, 3, .inl g40))]) rfl ?_
          obtain ⟨xh1192, xh1193, xh1194⟩ := hr1190
          rcases xh1194 with rfl | ⟨rfl, xh1195⟩
          · refine j_istore_n (pc := 77) C (lv' := [(3, .int 0), (2, .int (-1)), (1, .int (nI mz)), (0, .ref mo)]) d_Model_onePart_77 rfl (by decide) rfl ?_
            refine j_iload_n (pc := 78) C d_Model_onePart_78 rfl 0 rfl ?_
            refine j_if_neF (pc := 79) C (tgt := 90) d_Model_onePart_79 (by decide) (by decide) ?_
            refine j_aload_n (pc := 82) C d_Model_onePart_82 rfl 3 rfl ?_
            refine j_aload_n (pc := 83) C d_Model_onePart_83 rfl 3 rfl ?_
            refine j_get (pc := 84) C gf_Model_114 6 rfl rfl d_Model_onePart_84 ?_
            refine j_callVv (pc := 87) C (c_M_asks_3 l D y mo (ma 41) ma t1 u1191.1 t3 u1191.2 0 z511 i7 i8 i42 i49 (nI cd) (nI zn) z512 (nI bs) i61 i64 i66 t67 i76 i78 g0 g41 xh1193 he) kw_Model_263 kv_Model_asks 0 10 rfl rfl ⟨by decide, by decide⟩ ⟨by decide, by decide⟩ (wr := [(ma 37, .inl (y 3, 3, .inl g37)), (ma 38, .inl (y 3, 5, .inl g38)), (ma 39, .inl (y 3, 5, .inl g39)), (ma 50, .inl (y 0, 3200, .inl g50)), (ma 52, .inl (y 0, 1700, .inl zw)), (ma 40, .inl (y 3, 3, .inl g40))]) [6, 7, 3] [0, 1, 2, 4, 5, 8] rfl rfl (by decide) (by decide) (by decide) (As := [.ref (ma 41)]) (rest := []) rfl (nb rfl) rfl d_Model_onePart_87 (fun u1196 hu1197 => ?_)
            obtain ⟨xh1198, xh1199, xh1200⟩ := hu1197
            refine j_ws (ws' := [(ma 37, .inl (y 3, 3, .inl g37)), (ma 38, .inl (y 3, 5, .inl g38)), (ma 39, .inl (y 3, 5, .inl g39)), (ma 50, .inl (y 0, 3200, .inl g50)), (ma 52, .inl (y 0, 1700, .inl zw)), (ma 40, .inl (y 3, 3, .inl g40)), MB mo ma (nI t1) (nI u1196.1) (nI t3) u1196.2.1 u1196.2.2.1 u1196.2.2.2 i7 i8 i42 i49 (nI cd) (nI zn) z512 (nI bs) i61 i64 i66 (nI t67) i76 i78, (ma 0, .inl (y 0, 1600, .inl g0)), (ma 41, .inl (y 3, 3, .inl g41))]) rfl ?_
            by_cases c1201 : u1196.2.2.1 = 0
            · have hpg := (xh1200 c1201).2
              have xh1202 : RS kq s0 f0 xx u1196.2.2.1 g50 zw cd zn az := rs_mono xh1051 (fun _ => rfl)
              refine j_ws (ws' := [(ma 37, .inl (y 3, 3, .inl g37)), (ma 38, .inl (y 3, 5, .inl g38)), (ma 39, .inl (y 3, 5, .inl g39)), (ma 50, .inl (y 0, 3200, .inl g50)), (ma 52, .inl (y 0, 1700, .inl zw)), (ma 40, .inl (y 3, 3, .inl g40)), MB mo ma (nI t1) (nI u1196.1) (nI t3) u1196.2.1 0 u1196.2.2.2 i7 i8 i42 i49 (nI cd) (nI zn) z512 (nI bs) i61 i64 i66 (nI t67) i76 i78, (ma 0, .inl (y 0, 1600, .inl g0)), (ma 41, .inl (y 3, 3, .inl g41))]) (by rw [c1201]) ?_
              refine j_aload_n (pc := 90) C d_Model_onePart_90 rfl 3 rfl ?_
              refine j_callVi (pc := 91) C (c_M_look l D y mo ma t1 u1196.1 t3 u1196.2.1 0 u1196.2.2.2 i7 i8 i42 i49 (nI cd) (nI zn) z512 (nI bs) i61 i64 i66 t67 i76 i78 g0 xh1199 he) kw_Model_213 kv_Model_look 0 10 rfl rfl ⟨by decide, by decide⟩ ⟨by decide, by decide⟩ (wr := [(ma 37, .inl (y 3, 3, .inl g37)), (ma 38, .inl (y 3, 5, .inl g38)), (ma 39, .inl (y 3, 5, .inl g39)), (ma 50, .inl (y 0, 3200, .inl g50)), (ma 52, .inl (y 0, 1700, .inl zw)), (ma 40, .inl (y 3, 3, .inl g40)), (ma 41, .inl (y 3, 3, .inl g41))]) [6, 7] [0, 1, 2, 3, 4, 5, 8] rfl rfl (by decide) (by decide) (by decide) (As := []) (rest := []) rfl (nb rfl) rfl d_Model_onePart_91 (fun r1203 u1204 hr1203 => ?_)
              refine j_ws (ws' := [(ma 37, .inl (y 3, 3, .inl g37)), (ma 38, .inl (y 3, 5, .inl g38)), (ma 39, .inl (y 3, 5, .inl g39)), (ma 50, .inl (y 0, 3200, .inl g50)), (ma 52, .inl (y 0, 1700, .inl zw)), (ma 40, .inl (y 3, 3, .inl g40)), (ma 41, .inl (y 3, 3, .inl g41)), MB mo ma (nI t1) (nI u1204) (nI t3) u1196.2.1 0 u1196.2.2.2 i7 i8 i42 i49 (nI cd) (nI zn) z512 (nI bs) i61 i64 i66 (nI t67) i76 i78, (ma 0, .inl (y 0, 1600, .inl g0))]) rfl ?_
              obtain ⟨xh1205, xh1206, xh1207⟩ := hr1203
              rcases xh1207 with rfl | ⟨xh1208, e1209⟩
              · refine j_bipush (pc := 94) C (v := 40) d_Model_onePart_94 (by decide) ?_
                refine j_icmp_neT (pc := 96) C (tgt := 106) d_Model_onePart_96 (by decide) (by decide) ?_
                refine j_iconst (pc := 106) C (v := (-1)) d_Model_onePart_106 (by decide) ?_
                refine j_istore (pc := 107) C (lv' := [(4, .int (-1)), (3, .int 0), (2, .int (-1)), (1, .int (nI mz)), (0, .ref mo)]) d_Model_onePart_107 (by decide) rfl ?_
                refine j_iload (pc := 109) C d_Model_onePart_109 0 rfl ?_
                refine j_iconst (pc := 111) C (v := (-1)) d_Model_onePart_111 (by decide) ?_
                refine j_icmp_eqT (pc := 112) C (tgt := 132) d_Model_onePart_112 (by decide) (by decide) ?_
                refine j_aload_n (pc := 132) C d_Model_onePart_132 rfl 4 rfl ?_
                refine j_bipush (pc := 133) C (v := 40) d_Model_onePart_133 (by decide) ?_
                refine j_callVv (pc := 135) C (c_M_asksSign l D y mo ma t1 u1204 t3 u1196.2.1 0 u1196.2.2.2 i7 i8 i42 i49 (nI cd) (nI zn) z512 (nI bs) i61 i64 i66 t67 i76 i78 g0 40 xh1206 he (by decide)) kw_Model_271 kv_Model_asksSign 0 10 rfl rfl ⟨by decide, by decide⟩ ⟨by decide, by decide⟩ (wr := [(ma 37, .inl (y 3, 3, .inl g37)), (ma 38, .inl (y 3, 5, .inl g38)), (ma 39, .inl (y 3, 5, .inl g39)), (ma 50, .inl (y 0, 3200, .inl g50)), (ma 52, .inl (y 0, 1700, .inl zw)), (ma 40, .inl (y 3, 3, .inl g40)), (ma 41, .inl (y 3, 3, .inl g41))]) [7, 8] [0, 1, 2, 3, 4, 5, 6] rfl rfl (by decide) (by decide) (by decide) (As := [.int 40]) (rest := []) rfl (nb rfl) rfl d_Model_onePart_135 (fun u1210 hu1211 => ?_)
                obtain ⟨xh1212, xh1213, xh1214⟩ := hu1211
                refine j_ws (ws' := [(ma 37, .inl (y 3, 3, .inl g37)), (ma 38, .inl (y 3, 5, .inl g38)), (ma 39, .inl (y 3, 5, .inl g39)), (ma 50, .inl (y 0, 3200, .inl g50)), (ma 52, .inl (y 0, 1700, .inl zw)), (ma 40, .inl (y 3, 3, .inl g40)), (ma 41, .inl (y 3, 3, .inl g41)), MB mo ma (nI t1) (nI u1210.1) (nI t3) u1196.2.1 u1210.2.1 u1210.2.2 i7 i8 i42 i49 (nI cd) (nI zn) z512 (nI bs) i61 i64 i66 (nI t67) i76 i78, (ma 0, .inl (y 0, 1600, .inl g0))]) rfl ?_
                refine j_goto (pc := 138) C (tgt := 143) d_Model_onePart_138 (by decide) ?_
                refine j_goto (pc := 143) C (tgt := 2) d_Model_onePart_143 (by decide) ?_
                refine j_sub (ws' := [MB mo ma (nI t1) (nI u1210.1) (nI t3) u1196.2.1 u1210.2.1 u1210.2.2 i7 i8 i42 i49 (nI cd) (nI zn) z512 (nI bs) i61 i64 i66 (nI t67) i76 i78, (ma 0, .inl (y 0, 1600, .inl g0)), (ma 37, .inl (y 3, 3, .inl g37)), (ma 38, .inl (y 3, 5, .inl g38)), (ma 39, .inl (y 3, 5, .inl g39)), (ma 40, .inl (y 3, 3, .inl g40)), (ma 41, .inl (y 3, 3, .inl g41)), (ma 50, .inl (y 0, 3200, .inl g50)), (ma 52, .inl (y 0, 1700, .inl zw))]) [7, 8, 0, 1, 2, 5, 6, 3, 4] rfl (by decide) ?_
                refine j_locs (lv' := [(1, .int (nI mz)), (0, .ref mo)]) [3, 4] rfl ?_
                have hz1 := bz_e c1050
                have hz0 := bz_le u1210.2.1
                have hz2 : bz1 u1210.2.1 = 0 ∨ az + 1 ≤ u1210.1 := by
                  by_cases e : u1210.2.1 = 0
                  · right; have f0 := xh1214 e; have g0 := f0.2; omega
                  · exact Or.inl (bz_0 e)
                have xh1215 : RS kq s0 f0 xx u1210.2.1 g50 zw cd zn az := rs_mono xh1051 (fun _ => rfl)
                exact ih1023 (mz, u1210.1, u1210.2.1, zw, zn, u1196.2.1, u1210.2.2, z512) ⟨hmz_, xh1213, (show t2 ≤ u1210.1 by omega), (show RS kq s0 f0 xx u1210.2.1 g50 zw cd zn u1210.1 from (rs_at xh1215 (by omega))), hT_, hS_, hb_⟩ (show 2 * (t3 - u1210.1) + bz1 u1210.2.1 + mz < 2 * (t3 - az) + bz1 bz + mz by omega)
              · refine j_bipush (pc := 94) C (v := 40) d_Model_onePart_94 (by decide) ?_
                refine j_icmp_ne (pc := 96) C (tgt := 106) d_Model_onePart_96 (by decide) (fun c1216 => ?_) (fun c1216 => ?_)
                · refine j_iconst (pc := 106) C (v := (-1)) d_Model_onePart_106 (by decide) ?_
                  refine j_istore (pc := 107) C (lv' := [(4, .int (-1)), (3, .int 0), (2, .int (-1)), (1, .int (nI mz)), (0, .ref mo)]) d_Model_onePart_107 (by decide) rfl ?_
                  refine j_iload (pc := 109) C d_Model_onePart_109 0 rfl ?_
                  refine j_iconst (pc := 111) C (v := (-1)) d_Model_onePart_111 (by decide) ?_
                  refine j_icmp_eqT (pc := 112) C (tgt := 132) d_Model_onePart_112 (by decide) (by decide) ?_
                  refine j_aload_n (pc := 132) C d_Model_onePart_132 rfl 4 rfl ?_
                  refine j_bipush (pc := 133) C (v := 40) d_Model_onePart_133 (by decide) ?_
                  refine j_callVv (pc := 135) C (c_M_asksSign l D y mo ma t1 u1204 t3 u1196.2.1 0 u1196.2.2.2 i7 i8 i42 i49 (nI cd) (nI zn) z512 (nI bs) i61 i64 i66 t67 i76 i78 g0 40 xh1206 he (by decide)) kw_Model_271 kv_Model_asksSign 0 10 rfl rfl ⟨by decide, by decide⟩ ⟨by decide, by decide⟩ (wr := [(ma 37, .inl (y 3, 3, .inl g37)), (ma 38, .inl (y 3, 5, .inl g38)), (ma 39, .inl (y 3, 5, .inl g39)), (ma 50, .inl (y 0, 3200, .inl g50)), (ma 52, .inl (y 0, 1700, .inl zw)), (ma 40, .inl (y 3, 3, .inl g40)), (ma 41, .inl (y 3, 3, .inl g41))]) [7, 8] [0, 1, 2, 3, 4, 5, 6] rfl rfl (by decide) (by decide) (by decide) (As := [.int 40]) (rest := []) rfl (nb rfl) rfl d_Model_onePart_135 (fun u1217 hu1218 => ?_)
                  obtain ⟨xh1219, xh1220, xh1221⟩ := hu1218
                  refine j_ws (ws' := [(ma 37, .inl (y 3, 3, .inl g37)), (ma 38, .inl (y 3, 5, .inl g38)), (ma 39, .inl (y 3, 5, .inl g39)), (ma 50, .inl (y 0, 3200, .inl g50)), (ma 52, .inl (y 0, 1700, .inl zw)), (ma 40, .inl (y 3, 3, .inl g40)), (ma 41, .inl (y 3, 3, .inl g41)), MB mo ma (nI t1) (nI u1217.1) (nI t3) u1196.2.1 u1217.2.1 u1217.2.2 i7 i8 i42 i49 (nI cd) (nI zn) z512 (nI bs) i61 i64 i66 (nI t67) i76 i78, (ma 0, .inl (y 0, 1600, .inl g0))]) rfl ?_
                  refine j_goto (pc := 138) C (tgt := 143) d_Model_onePart_138 (by decide) ?_
                  refine j_goto (pc := 143) C (tgt := 2) d_Model_onePart_143 (by decide) ?_
                  refine j_sub (ws' := [MB mo ma (nI t1) (nI u1217.1) (nI t3) u1196.2.1 u1217.2.1 u1217.2.2 i7 i8 i42 i49 (nI cd) (nI zn) z512 (nI bs) i61 i64 i66 (nI t67) i76 i78, (ma 0, .inl (y 0, 1600, .inl g0)), (ma 37, .inl (y 3, 3, .inl g37)), (ma 38, .inl (y 3, 5, .inl g38)), (ma 39, .inl (y 3, 5, .inl g39)), (ma 40, .inl (y 3, 3, .inl g40)), (ma 41, .inl (y 3, 3, .inl g41)), (ma 50, .inl (y 0, 3200, .inl g50)), (ma 52, .inl (y 0, 1700, .inl zw))]) [7, 8, 0, 1, 2, 5, 6, 3, 4] rfl (by decide) ?_
                  refine j_locs (lv' := [(1, .int (nI mz)), (0, .ref mo)]) [3, 4] rfl ?_
                  have hz1 := bz_e c1050
                  have hz0 := bz_le u1217.2.1
                  have hz2 : bz1 u1217.2.1 = 0 ∨ az + 1 ≤ u1217.1 := by
                    by_cases e : u1217.2.1 = 0
                    · right; have f0 := xh1221 e; have g0 := f0.2; omega
                    · exact Or.inl (bz_0 e)
                  have xh1222 : RS kq s0 f0 xx u1217.2.1 g50 zw cd zn az := rs_mono xh1051 (fun _ => rfl)
                  exact ih1023 (mz, u1217.1, u1217.2.1, zw, zn, u1196.2.1, u1217.2.2, z512) ⟨hmz_, xh1220, (show t2 ≤ u1217.1 by omega), (show RS kq s0 f0 xx u1217.2.1 g50 zw cd zn u1217.1 from (rs_at xh1222 (by omega))), hT_, hS_, hb_⟩ (show 2 * (t3 - u1217.1) + bz1 u1217.2.1 + mz < 2 * (t3 - az) + bz1 bz + mz by omega)
                · refine j_aload_n (pc := 99) C d_Model_onePart_99 rfl 3 rfl ?_
                  refine j_get (pc := 100) C gf_Model_207 7 rfl rfl d_Model_onePart_100 ?_
                  refine j_goto (pc := 103) C (tgt := 107) d_Model_onePart_103 (by decide) ?_
                  refine j_istore (pc := 107) C (lv' := [(4, .int (nI u1204)), (3, .int 0), (2, .int (-1)), (1, .int (nI mz)), (0, .ref mo)]) d_Model_onePart_107 (by decide) rfl ?_
                  refine j_iload (pc := 109) C d_Model_onePart_109 0 rfl ?_
                  refine j_iconst (pc := 111) C (v := (-1)) d_Model_onePart_111 (by decide) ?_
                  refine j_icmp_eqF (pc := 112) C (tgt := 132) d_Model_onePart_112 (by decide) (nI_nm1 (by omega)) ?_
                  refine j_aload_n (pc := 115) C d_Model_onePart_115 rfl 4 rfl ?_
                  refine j_iload_n (pc := 116) C d_Model_onePart_116 rfl 1 rfl ?_
                  refine j_if_eqT (pc := 117) C (tgt := 125) d_Model_onePart_117 (by decide) (by decide) ?_
                  refine j_bipush (pc := 125) C (v := 22) d_Model_onePart_125 (by decide) ?_
                  refine j_iload (pc := 127) C d_Model_onePart_127 0 rfl ?_
                  refine j_callVv (pc := 129) C (c_M_opens l D y mo ma t1 u1204 t3 u1196.2.1 0 u1196.2.2.2 i7 i8 i42 i49 cd zn z512 bs i61 i64 i66 t67 i76 i78 zw 22 (nI u1204) s0 xx kq f0 az g50 (by decide) (by omega) xh1051 (by decide) hT_ hS_ hb_ hK) kw_Model_353 kv_Model_opens 0 10 rfl rfl ⟨by decide, by decide⟩ ⟨by decide, by decide⟩ (wr := [(ma 37, .inl (y 3, 3, .inl g37)), (ma 38, .inl (y 3, 5, .inl g38)), (ma 39, .inl (y 3, 5, .inl g39)), (ma 50, .inl (y 0, 3200, .inl g50)), (ma 40, .inl (y 3, 3, .inl g40)), (ma 41, .inl (y 3, 3, .inl g41)), (ma 0, .inl (y 0, 1600, .inl g0))]) [7, 4] [0, 1, 2, 3, 5, 6, 8] rfl rfl (by decide) (by decide) (by decide) (As := [.int 22, .int (nI u1204)]) (rest := []) rfl (nb rfl) rfl d_Model_onePart_129 (fun u1223 hu1224 => ?_)
                  obtain ⟨xh1225, xh1226, xh1227, xh1228, xh1229, xh1230, xh1231⟩ := hu1224
                  refine j_ws (ws' := [(ma 37, .inl (y 3, 3, .inl g37)), (ma 38, .inl (y 3, 5, .inl g38)), (ma 39, .inl (y 3, 5, .inl g39)), (ma 50, .inl (y 0, 3200, .inl g50)), (ma 40, .inl (y 3, 3, .inl g40)), (ma 41, .inl (y 3, 3, .inl g41)), (ma 0, .inl (y 0, 1600, .inl g0)), MB mo ma (nI t1) (nI u1204) (nI t3) u1196.2.1 u1223.1 u1223.2.1 i7 i8 i42 i49 (nI cd) (nI u1223.2.2.1) u1223.2.2.2.1 (nI bs) i61 i64 i66 (nI t67) i76 i78, (ma 52, .inl (y 0, 1700, .inl u1223.2.2.2.2))]) rfl ?_
                  refine j_aload_n (pc := 132) C d_Model_onePart_132 rfl 4 rfl ?_
                  refine j_bipush (pc := 133) C (v := 40) d_Model_onePart_133 (by decide) ?_
                  refine j_callVv (pc := 135) C (c_M_asksSign l D y mo ma t1 u1204 t3 u1196.2.1 u1223.1 u1223.2.1 i7 i8 i42 i49 (nI cd) (nI u1223.2.2.1) u1223.2.2.2.1 (nI bs) i61 i64 i66 t67 i76 i78 g0 40 xh1206 he (by decide)) kw_Model_271 kv_Model_asksSign 0 10 rfl rfl ⟨by decide, by decide⟩ ⟨by decide, by decide⟩ (wr := [(ma 37, .inl (y 3, 3, .inl g37)), (ma 38, .inl (y 3, 5, .inl g38)), (ma 39, .inl (y 3, 5, .inl g39)), (ma 50, .inl (y 0, 3200, .inl g50)), (ma 40, .inl (y 3, 3, .inl g40)), (ma 41, .inl (y 3, 3, .inl g41)), (ma 52, .inl (y 0, 1700, .inl u1223.2.2.2.2))]) [7, 6] [0, 1, 2, 3, 4, 5, 8] rfl rfl (by decide) (by decide) (by decide) (As := [.int 40]) (rest := []) rfl (nb rfl) rfl d_Model_onePart_135 (fun u1232 hu1233 => ?_)
                  obtain ⟨xh1234, xh1235, xh1236⟩ := hu1233
                  refine j_ws (ws' := [(ma 37, .inl (y 3, 3, .inl g37)), (ma 38, .inl (y 3, 5, .inl g38)), (ma 39, .inl (y 3, 5, .inl g39)), (ma 50, .inl (y 0, 3200, .inl g50)), (ma 40, .inl (y 3, 3, .inl g40)), (ma 41, .inl (y 3, 3, .inl g41)), (ma 52, .inl (y 0, 1700, .inl u1223.2.2.2.2)), MB mo ma (nI t1) (nI u1232.1) (nI t3) u1196.2.1 u1232.2.1 u1232.2.2 i7 i8 i42 i49 (nI cd) (nI u1223.2.2.1) u1223.2.2.2.1 (nI bs) i61 i64 i66 (nI t67) i76 i78, (ma 0, .inl (y 0, 1600, .inl g0))]) rfl ?_
                  refine j_goto (pc := 138) C (tgt := 143) d_Model_onePart_138 (by decide) ?_
                  refine j_goto (pc := 143) C (tgt := 2) d_Model_onePart_143 (by decide) ?_
                  refine j_sub (ws' := [MB mo ma (nI t1) (nI u1232.1) (nI t3) u1196.2.1 u1232.2.1 u1232.2.2 i7 i8 i42 i49 (nI cd) (nI u1223.2.2.1) u1223.2.2.2.1 (nI bs) i61 i64 i66 (nI t67) i76 i78, (ma 0, .inl (y 0, 1600, .inl g0)), (ma 37, .inl (y 3, 3, .inl g37)), (ma 38, .inl (y 3, 5, .inl g38)), (ma 39, .inl (y 3, 5, .inl g39)), (ma 40, .inl (y 3, 3, .inl g40)), (ma 41, .inl (y 3, 3, .inl g41)), (ma 50, .inl (y 0, 3200, .inl g50)), (ma 52, .inl (y 0, 1700, .inl u1223.2.2.2.2))]) [7, 8, 0, 1, 2, 4, 5, 3, 6] rfl (by decide) ?_
                  refine j_locs (lv' := [(1, .int (nI mz)), (0, .ref mo)]) [3, 4] rfl ?_
                  have hz1 := bz_e c1050
                  have hz0 := bz_le u1232.2.1
                  have hz2 : bz1 u1232.2.1 = 0 ∨ az + 1 ≤ u1232.1 := by
                    by_cases e : u1232.2.1 = 0
                    · right; have f0 := xh1236 e; have g0 := f0.2; have f1 := xh1227 f0.1; omega
                    · exact Or.inl (bz_0 e)
                  have xh1237 : RS kq s0 f0 xx u1232.2.1 g50 u1223.2.2.2.2 cd u1223.2.2.1 (az + 1) := rs_mono xh1228 (fun e => by have e0 := (xh1236 e).1; exact e0)
                  exact ih1023 (mz, u1232.1, u1232.2.1, u1223.2.2.2.2, u1223.2.2.1, u1196.2.1, u1232.2.2, u1223.2.2.2.1) ⟨hmz_, xh1235, (show t2 ≤ u1232.1 by omega), (show RS kq s0 f0 xx u1232.2.1 g50 u1223.2.2.2.2 cd u1223.2.2.1 u1232.1 from (rs_at xh1237 (by omega))), xh1230, xh1231, (show bs ≤ u1223.2.2.1 by omega)⟩ (show 2 * (t3 - u1232.1) + bz1 u1232.2.1 + mz < 2 * (t3 - az) + bz1 bz + mz by omega)
            · have xh1238 : RS kq s0 f0 xx u1196.2.2.1 g50 zw cd zn (az - 1) := rs_bad1 (rs_at xh1051 (by omega)) c1201
              refine j_aload_n (pc := 90) C d_Model_onePart_90 rfl 3 rfl ?_
              refine j_callVi (pc := 91) C (c_M_look l D y mo ma t1 u1196.1 t3 u1196.2.1 u1196.2.2.1 u1196.2.2.2 i7 i8 i42 i49 (nI cd) (nI zn) z512 (nI bs) i61 i64 i66 t67 i76 i78 g0 xh1199 he) kw_Model_213 kv_Model_look 0 10 rfl rfl ⟨by decide, by decide⟩ ⟨by decide, by decide⟩ (wr := [(ma 37, .inl (y 3, 3, .inl g37)), (ma 38, .inl (y 3, 5, .inl g38)), (ma 39, .inl (y 3, 5, .inl g39)), (ma 50, .inl (y 0, 3200, .inl g50)), (ma 52, .inl (y 0, 1700, .inl zw)), (ma 40, .inl (y 3, 3, .inl g40)), (ma 41, .inl (y 3, 3, .inl g41))]) [6, 7] [0, 1, 2, 3, 4, 5, 8] rfl rfl (by decide) (by decide) (by decide) (As := []) (rest := []) rfl (nb rfl) rfl d_Model_onePart_91 (fun r1239 u1240 hr1239 => ?_)
              refine j_ws (ws' := [(ma 37, .inl (y 3, 3, .inl g37)), (ma 38, .inl (y 3, 5, .inl g38)), (ma 39, .inl (y 3, 5, .inl g39)), (ma 50, .inl (y 0, 3200, .inl g50)), (ma 52, .inl (y 0, 1700, .inl zw)), (ma 40, .inl (y 3, 3, .inl g40)), (ma 41, .inl (y 3, 3, .inl g41)), MB mo ma (nI t1) (nI u1240) (nI t3) u1196.2.1 u1196.2.2.1 u1196.2.2.2 i7 i8 i42 i49 (nI cd) (nI zn) z512 (nI bs) i61 i64 i66 (nI t67) i76 i78, (ma 0, .inl (y 0, 1600, .inl g0))]) rfl ?_
              obtain ⟨xh1241, xh1242, xh1243⟩ := hr1239
              rcases xh1243 with rfl | ⟨xh1244, e1245⟩
              · refine j_bipush (pc := 94) C (v := 40) d_Model_onePart_94 (by decide) ?_
                refine j_icmp_neT (pc := 96) C (tgt := 106) d_Model_onePart_96 (by decide) (by decide) ?_
                refine j_iconst (pc := 106) C (v := (-1)) d_Model_onePart_106 (by decide) ?_
                refine j_istore (pc := 107) C (lv' := [(4, .int (-1)), (3, .int 0), (2, .int (-1)), (1, .int (nI mz)), (0, .ref mo)]) d_Model_onePart_107 (by decide) rfl ?_
                refine j_iload (pc := 109) C d_Model_onePart_109 0 rfl ?_
                refine j_iconst (pc := 111) C (v := (-1)) d_Model_onePart_111 (by decide) ?_
                refine j_icmp_eqT (pc := 112) C (tgt := 132) d_Model_onePart_112 (by decide) (by decide) ?_
                refine j_aload_n (pc := 132) C d_Model_onePart_132 rfl 4 rfl ?_
                refine j_bipush (pc := 133) C (v := 40) d_Model_onePart_133 (by decide) ?_
                refine j_callVv (pc := 135) C (c_M_asksSign l D y mo ma t1 u1240 t3 u1196.2.1 u1196.2.2.1 u1196.2.2.2 i7 i8 i42 i49 (nI cd) (nI zn) z512 (nI bs) i61 i64 i66 t67 i76 i78 g0 40 xh1242 he (by decide)) kw_Model_271 kv_Model_asksSign 0 10 rfl rfl ⟨by decide, by decide⟩ ⟨by decide, by decide⟩ (wr := [(ma 37, .inl (y 3, 3, .inl g37)), (ma 38, .inl (y 3, 5, .inl g38)), (ma 39, .inl (y 3, 5, .inl g39)), (ma 50, .inl (y 0, 3200, .inl g50)), (ma 52, .inl (y 0, 1700, .inl zw)), (ma 40, .inl (y 3, 3, .inl g40)), (ma 41, .inl (y 3, 3, .inl g41))]) [7, 8] [0, 1, 2, 3, 4, 5, 6] rfl rfl (by decide) (by decide) (by decide) (As := [.int 40]) (rest := []) rfl (nb rfl) rfl d_Model_onePart_135 (fun u1246 hu1247 => ?_)
                obtain ⟨xh1248, xh1249, xh1250⟩ := hu1247
                refine j_ws (ws' := [(ma 37, .inl (y 3, 3, .inl g37)), (ma 38, .inl (y 3, 5, .inl g38)), (ma 39, .inl (y 3, 5, .inl g39)), (ma 50, .inl (y 0, 3200, .inl g50)), (ma 52, .inl (y 0, 1700, .inl zw)), (ma 40, .inl (y 3, 3, .inl g40)), (ma 41, .inl (y 3, 3, .inl g41)), MB mo ma (nI t1) (nI u1246.1) (nI t3) u1196.2.1 u1246.2.1 u1246.2.2 i7 i8 i42 i49 (nI cd) (nI zn) z512 (nI bs) i61 i64 i66 (nI t67) i76 i78, (ma 0, .inl (y 0, 1600, .inl g0))]) rfl ?_
                refine j_goto (pc := 138) C (tgt := 143) d_Model_onePart_138 (by decide) ?_
                refine j_goto (pc := 143) C (tgt := 2) d_Model_onePart_143 (by decide) ?_
                refine j_sub (ws' := [MB mo ma (nI t1) (nI u1246.1) (nI t3) u1196.2.1 u1246.2.1 u1246.2.2 i7 i8 i42 i49 (nI cd) (nI zn) z512 (nI bs) i61 i64 i66 (nI t67) i76 i78, (ma 0, .inl (y 0, 1600, .inl g0)), (ma 37, .inl (y 3, 3, .inl g37)), (ma 38, .inl (y 3, 5, .inl g38)), (ma 39, .inl (y 3, 5, .inl g39)), (ma 40, .inl (y 3, 3, .inl g40)), (ma 41, .inl (y 3, 3, .inl g41)), (ma 50, .inl (y 0, 3200, .inl g50)), (ma 52, .inl (y 0, 1700, .inl zw))]) [7, 8, 0, 1, 2, 5, 6, 3, 4] rfl (by decide) ?_
                refine j_locs (lv' := [(1, .int (nI mz)), (0, .ref mo)]) [3, 4] rfl ?_
                have hz1 := bz_e c1050
                have hz0 := bz_le u1246.2.1
                have hz2 : bz1 u1246.2.1 = 0 ∨ az + 1 ≤ u1246.1 := by
                  by_cases e : u1246.2.1 = 0
                  · right; have f0 := xh1250 e; have g0 := f0.2; exact absurd f0.1 c1201
                  · exact Or.inl (bz_0 e)
                have xh1251 : RS kq s0 f0 xx u1246.2.1 g50 zw cd zn (az - 1) := rs_mono xh1238 (fun e => by have e0 := (xh1250 e).1; exact e0)
                exact ih1023 (mz, u1246.1, u1246.2.1, zw, zn, u1196.2.1, u1246.2.2, z512) ⟨hmz_, xh1249, (show t2 ≤ u1246.1 by omega), (show RS kq s0 f0 xx u1246.2.1 g50 zw cd zn u1246.1 from (rs_at xh1251 (by omega))), hT_, hS_, hb_⟩ (show 2 * (t3 - u1246.1) + bz1 u1246.2.1 + mz < 2 * (t3 - az) + bz1 bz + mz by omega)
              · refine j_bipush (pc := 94) C (v := 40) d_Model_onePart_94 (by decide) ?_
                refine j_icmp_ne (pc := 96) C (tgt := 106) d_Model_onePart_96 (by decide) (fun c1252 => ?_) (fun c1252 => ?_)
                · refine j_iconst (pc := 106) C (v := (-1)) d_Model_onePart_106 (by decide) ?_
                  refine j_istore (pc := 107) C (lv' := [(4, .int (-1)), (3, .int 0), (2, .int (-1)), (1, .int (nI mz)), (0, .ref mo)]) d_Model_onePart_107 (by decide) rfl ?_
                  refine j_iload (pc := 109) C d_Model_onePart_109 0 rfl ?_
                  refine j_iconst (pc := 111) C (v := (-1)) d_Model_onePart_111 (by decide) ?_
                  refine j_icmp_eqT (pc := 112) C (tgt := 132) d_Model_onePart_112 (by decide) (by decide) ?_
                  refine j_aload_n (pc := 132) C d_Model_onePart_132 rfl 4 rfl ?_
                  refine j_bipush (pc := 133) C (v := 40) d_Model_onePart_133 (by decide) ?_
                  refine j_callVv (pc := 135) C (c_M_asksSign l D y mo ma t1 u1240 t3 u1196.2.1 u1196.2.2.1 u1196.2.2.2 i7 i8 i42 i49 (nI cd) (nI zn) z512 (nI bs) i61 i64 i66 t67 i76 i78 g0 40 xh1242 he (by decide)) kw_Model_271 kv_Model_asksSign 0 10 rfl rfl ⟨by decide, by decide⟩ ⟨by decide, by decide⟩ (wr := [(ma 37, .inl (y 3, 3, .inl g37)), (ma 38, .inl (y 3, 5, .inl g38)), (ma 39, .inl (y 3, 5, .inl g39)), (ma 50, .inl (y 0, 3200, .inl g50)), (ma 52, .inl (y 0, 1700, .inl zw)), (ma 40, .inl (y 3, 3, .inl g40)), (ma 41, .inl (y 3, 3, .inl g41))]) [7, 8] [0, 1, 2, 3, 4, 5, 6] rfl rfl (by decide) (by decide) (by decide) (As := [.int 40]) (rest := []) rfl (nb rfl) rfl d_Model_onePart_135 (fun u1253 hu1254 => ?_)
                  obtain ⟨xh1255, xh1256, xh1257⟩ := hu1254
                  refine j_ws (ws' := [(ma 37, .inl (y 3, 3, .inl g37)), (ma 38, .inl (y 3, 5, .inl g38)), (ma 39, .inl (y 3, 5, .inl g39)), (ma 50, .inl (y 0, 3200, .inl g50)), (ma 52, .inl (y 0, 1700, .inl zw)), (ma 40, .inl (y 3, 3, .inl g40)), (ma 41, .inl (y 3, 3, .inl g41)), MB mo ma (nI t1) (nI u1253.1) (nI t3) u1196.2.1 u1253.2.1 u1253.2.2 i7 i8 i42 i49 (nI cd) (nI zn) z512 (nI bs) i61 i64 i66 (nI t67) i76 i78, (ma 0, .inl (y 0, 1600, .inl g0))]) rfl ?_
                  refine j_goto (pc := 138) C (tgt := 143) d_Model_onePart_138 (by decide) ?_
                  refine j_goto (pc := 143) C (tgt := 2) d_Model_onePart_143 (by decide) ?_
                  refine j_sub (ws' := [MB mo ma (nI t1) (nI u1253.1) (nI t3) u1196.2.1 u1253.2.1 u1253.2.2 i7 i8 i42 i49 (nI cd) (nI zn) z512 (nI bs) i61 i64 i66 (nI t67) i76 i78, (ma 0, .inl (y 0, 1600, .inl g0)), (ma 37, .inl (y 3, 3, .inl g37)), (ma 38, .inl (y 3, 5, .inl g38)), (ma 39, .inl (y 3, 5, .inl g39)), (ma 40, .inl (y 3, 3, .inl g40)), (ma 41, .inl (y 3, 3, .inl g41)), (ma 50, .inl (y 0, 3200, .inl g50)), (ma 52, .inl (y 0, 1700, .inl zw))]) [7, 8, 0, 1, 2, 5, 6, 3, 4] rfl (by decide) ?_
                  refine j_locs (lv' := [(1, .int (nI mz)), (0, .ref mo)]) [3, 4] rfl ?_
                  have hz1 := bz_e c1050
                  have hz0 := bz_le u1253.2.1
                  have hz2 : bz1 u1253.2.1 = 0 ∨ az + 1 ≤ u1253.1 := by
                    by_cases e : u1253.2.1 = 0
                    · right; have f0 := xh1257 e; have g0 := f0.2; exact absurd f0.1 c1201
                    · exact Or.inl (bz_0 e)
                  have xh1258 : RS kq s0 f0 xx u1253.2.1 g50 zw cd zn (az - 1) := rs_mono xh1238 (fun e => by have e0 := (xh1257 e).1; exact e0)
                  exact ih1023 (mz, u1253.1, u1253.2.1, zw, zn, u1196.2.1, u1253.2.2, z512) ⟨hmz_, xh1256, (show t2 ≤ u1253.1 by omega), (show RS kq s0 f0 xx u1253.2.1 g50 zw cd zn u1253.1 from (rs_at xh1258 (by omega))), hT_, hS_, hb_⟩ (show 2 * (t3 - u1253.1) + bz1 u1253.2.1 + mz < 2 * (t3 - az) + bz1 bz + mz by omega)
                · refine j_aload_n (pc := 99) C d_Model_onePart_99 rfl 3 rfl ?_
                  refine j_get (pc := 100) C gf_Model_207 7 rfl rfl d_Model_onePart_100 ?_
                  refine j_goto (pc := 103) C (tgt := 107) d_Model_onePart_103 (by decide) ?_
                  refine j_istore (pc := 107) C (lv' := [(4, .int (nI u1240)), (3, .int 0), (2, .int (-1)), (1, .int (nI mz)), (0, .ref mo)]) d_Model_onePart_107 (by decide) rfl ?_
                  refine j_iload (pc := 109) C d_Model_onePart_109 0 rfl ?_
                  refine j_iconst (pc := 111) C (v := (-1)) d_Model_onePart_111 (by decide) ?_
                  refine j_icmp_eqF (pc := 112) C (tgt := 132) d_Model_onePart_112 (by decide) (nI_nm1 (by omega)) ?_
                  refine j_aload_n (pc := 115) C d_Model_onePart_115 rfl 4 rfl ?_
                  refine j_iload_n (pc := 116) C d_Model_onePart_116 rfl 1 rfl ?_
                  refine j_if_eqT (pc := 117) C (tgt := 125) d_Model_onePart_117 (by decide) (by decide) ?_
                  refine j_bipush (pc := 125) C (v := 22) d_Model_onePart_125 (by decide) ?_
                  refine j_iload (pc := 127) C d_Model_onePart_127 0 rfl ?_
                  refine j_callVv (pc := 129) C (c_M_opens l D y mo ma t1 u1240 t3 u1196.2.1 u1196.2.2.1 u1196.2.2.2 i7 i8 i42 i49 cd zn z512 bs i61 i64 i66 t67 i76 i78 zw 22 (nI u1240) s0 xx kq f0 (az - 1) g50 (by decide) (by omega) xh1238 (by decide) hT_ hS_ hb_ hK) kw_Model_353 kv_Model_opens 0 10 rfl rfl ⟨by decide, by decide⟩ ⟨by decide, by decide⟩ (wr := [(ma 37, .inl (y 3, 3, .inl g37)), (ma 38, .inl (y 3, 5, .inl g38)), (ma 39, .inl (y 3, 5, .inl g39)), (ma 50, .inl (y 0, 3200, .inl g50)), (ma 40, .inl (y 3, 3, .inl g40)), (ma 41, .inl (y 3, 3, .inl g41)), (ma 0, .inl (y 0, 1600, .inl g0))]) [7, 4] [0, 1, 2, 3, 5, 6, 8] rfl rfl (by decide) (by decide) (by decide) (As := [.int 22, .int (nI u1240)]) (rest := []) rfl (nb rfl) rfl d_Model_onePart_129 (fun u1259 hu1260 => ?_)
                  obtain ⟨xh1261, xh1262, xh1263, xh1264, xh1265, xh1266, xh1267⟩ := hu1260
                  refine j_ws (ws' := [(ma 37, .inl (y 3, 3, .inl g37)), (ma 38, .inl (y 3, 5, .inl g38)), (ma 39, .inl (y 3, 5, .inl g39)), (ma 50, .inl (y 0, 3200, .inl g50)), (ma 40, .inl (y 3, 3, .inl g40)), (ma 41, .inl (y 3, 3, .inl g41)), (ma 0, .inl (y 0, 1600, .inl g0)), MB mo ma (nI t1) (nI u1240) (nI t3) u1196.2.1 u1259.1 u1259.2.1 i7 i8 i42 i49 (nI cd) (nI u1259.2.2.1) u1259.2.2.2.1 (nI bs) i61 i64 i66 (nI t67) i76 i78, (ma 52, .inl (y 0, 1700, .inl u1259.2.2.2.2))]) rfl ?_
                  refine j_aload_n (pc := 132) C d_Model_onePart_132 rfl 4 rfl ?_
                  refine j_bipush (pc := 133) C (v := 40) d_Model_onePart_133 (by decide) ?_
                  refine j_callVv (pc := 135) C (c_M_asksSign l D y mo ma t1 u1240 t3 u1196.2.1 u1259.1 u1259.2.1 i7 i8 i42 i49 (nI cd) (nI u1259.2.2.1) u1259.2.2.2.1 (nI bs) i61 i64 i66 t67 i76 i78 g0 40 xh1242 he (by decide)) kw_Model_271 kv_Model_asksSign 0 10 rfl rfl ⟨by decide, by decide⟩ ⟨by decide, by decide⟩ (wr := [(ma 37, .inl (y 3, 3, .inl g37)), (ma 38, .inl (y 3, 5, .inl g38)), (ma 39, .inl (y 3, 5, .inl g39)), (ma 50, .inl (y 0, 3200, .inl g50)), (ma 40, .inl (y 3, 3, .inl g40)), (ma 41, .inl (y 3, 3, .inl g41)), (ma 52, .inl (y 0, 1700, .inl u1259.2.2.2.2))]) [7, 6] [0, 1, 2, 3, 4, 5, 8] rfl rfl (by decide) (by decide) (by decide) (As := [.int 40]) (rest := []) rfl (nb rfl) rfl d_Model_onePart_135 (fun u1268 hu1269 => ?_)
                  obtain ⟨xh1270, xh1271, xh1272⟩ := hu1269
                  refine j_ws (ws' := [(ma 37, .inl (y 3, 3, .inl g37)), (ma 38, .inl (y 3, 5, .inl g38)), (ma 39, .inl (y 3, 5, .inl g39)), (ma 50, .inl (y 0, 3200, .inl g50)), (ma 40, .inl (y 3, 3, .inl g40)), (ma 41, .inl (y 3, 3, .inl g41)), (ma 52, .inl (y 0, 1700, .inl u1259.2.2.2.2)), MB mo ma (nI t1) (nI u1268.1) (nI t3) u1196.2.1 u1268.2.1 u1268.2.2 i7 i8 i42 i49 (nI cd) (nI u1259.2.2.1) u1259.2.2.2.1 (nI bs) i61 i64 i66 (nI t67) i76 i78, (ma 0, .inl (y 0, 1600, .inl g0))]) rfl ?_
                  refine j_goto (pc := 138) C (tgt := 143) d_Model_onePart_138 (by decide) ?_
                  refine j_goto (pc := 143) C (tgt := 2) d_Model_onePart_143 (by decide) ?_
                  refine j_sub (ws' := [MB mo ma (nI t1) (nI u1268.1) (nI t3) u1196.2.1 u1268.2.1 u1268.2.2 i7 i8 i42 i49 (nI cd) (nI u1259.2.2.1) u1259.2.2.2.1 (nI bs) i61 i64 i66 (nI t67) i76 i78, (ma 0, .inl (y 0, 1600, .inl g0)), (ma 37, .inl (y 3, 3, .inl g37)), (ma 38, .inl (y 3, 5, .inl g38)), (ma 39, .inl (y 3, 5, .inl g39)), (ma 40, .inl (y 3, 3, .inl g40)), (ma 41, .inl (y 3, 3, .inl g41)), (ma 50, .inl (y 0, 3200, .inl g50)), (ma 52, .inl (y 0, 1700, .inl u1259.2.2.2.2))]) [7, 8, 0, 1, 2, 4, 5, 3, 6] rfl (by decide) ?_
                  refine j_locs (lv' := [(1, .int (nI mz)), (0, .ref mo)]) [3, 4] rfl ?_
                  have hz1 := bz_e c1050
                  have hz0 := bz_le u1268.2.1
                  have hz2 : bz1 u1268.2.1 = 0 ∨ az + 1 ≤ u1268.1 := by
                    by_cases e : u1268.2.1 = 0
                    · right; have f0 := xh1272 e; have g0 := f0.2; have f1 := xh1263 f0.1; exact absurd f1 c1201
                    · exact Or.inl (bz_0 e)
                  have xh1273 : RS kq s0 f0 xx u1268.2.1 g50 u1259.2.2.2.2 cd u1259.2.2.1 ((az - 1) + 1) := rs_mono xh1264 (fun e => by have e0 := (xh1272 e).1; exact e0)
                  exact ih1023 (mz, u1268.1, u1268.2.1, u1259.2.2.2.2, u1259.2.2.1, u1196.2.1, u1268.2.2, u1259.2.2.2.1) ⟨hmz_, xh1271, (show t2 ≤ u1268.1 by omega), (show RS kq s0 f0 xx u1268.2.1 g50 u1259.2.2.2.2 cd u1259.2.2.1 u1268.1 from (rs_at xh1273 (by omega))), xh1266, xh1267, (show bs ≤ u1259.2.2.1 by omega)⟩ (show 2 * (t3 - u1268.1) + bz1 u1268.2.1 + mz < 2 * (t3 - az) + bz1 bz + mz by omega)
          · refine j_istore_n (pc := 77) C (lv' := [(3, .int 1), (2, .int (-1)), (1, .int (nI mz)), (0, .ref mo)]) d_Model_onePart_77 rfl (by decide) rfl ?_
            refine j_iload_n (pc := 78) C d_Model_onePart_78 rfl 0 rfl ?_
            refine j_if_neT (pc := 79) C (tgt := 90) d_Model_onePart_79 (by decide) (by decide) ?_
            refine j_aload_n (pc := 90) C d_Model_onePart_90 rfl 3 rfl ?_
            refine j_callVi (pc := 91) C (c_M_look l D y mo ma t1 u1191.1 t3 u1191.2 0 z511 i7 i8 i42 i49 (nI cd) (nI zn) z512 (nI bs) i61 i64 i66 t67 i76 i78 g0 xh1193 he) kw_Model_213 kv_Model_look 0 10 rfl rfl ⟨by decide, by decide⟩ ⟨by decide, by decide⟩ (wr := [(ma 37, .inl (y 3, 3, .inl g37)), (ma 38, .inl (y 3, 5, .inl g38)), (ma 39, .inl (y 3, 5, .inl g39)), (ma 41, .inl (y 3, 3, .inl g41)), (ma 50, .inl (y 0, 3200, .inl g50)), (ma 52, .inl (y 0, 1700, .inl zw)), (ma 40, .inl (y 3, 3, .inl g40))]) [6, 7] [0, 1, 2, 3, 4, 5, 8] rfl rfl (by decide) (by decide) (by decide) (As := []) (rest := []) rfl (nb rfl) rfl d_Model_onePart_91 (fun r1274 u1275 hr1274 => ?_)
            refine j_ws (ws' := [(ma 37, .inl (y 3, 3, .inl g37)), (ma 38, .inl (y 3, 5, .inl g38)), (ma 39, .inl (y 3, 5, .inl g39)), (ma 41, .inl (y 3, 3, .inl g41)), (ma 50, .inl (y 0, 3200, .inl g50)), (ma 52, .inl (y 0, 1700, .inl zw)), (ma 40, .inl (y 3, 3, .inl g40)), MB mo ma (nI t1) (nI u1275) (nI t3) u1191.2 0 z511 i7 i8 i42 i49 (nI cd) (nI zn) z512 (nI bs) i61 i64 i66 (nI t67) i76 i78, (ma 0, .inl (y 0, 1600, .inl g0))]) rfl ?_
            obtain ⟨xh1276, xh1277, xh1278⟩ := hr1274
            rcases xh1278 with rfl | ⟨xh1279, e1280⟩
            · refine j_bipush (pc := 94) C (v := 40) d_Model_onePart_94 (by decide) ?_
              refine j_icmp_neT (pc := 96) C (tgt := 106) d_Model_onePart_96 (by decide) (by decide) ?_
              refine j_iconst (pc := 106) C (v := (-1)) d_Model_onePart_106 (by decide) ?_
              refine j_istore (pc := 107) C (lv' := [(4, .int (-1)), (3, .int 1), (2, .int (-1)), (1, .int (nI mz)), (0, .ref mo)]) d_Model_onePart_107 (by decide) rfl ?_
              refine j_iload (pc := 109) C d_Model_onePart_109 0 rfl ?_
              refine j_iconst (pc := 111) C (v := (-1)) d_Model_onePart_111 (by decide) ?_
              refine j_icmp_eqT (pc := 112) C (tgt := 132) d_Model_onePart_112 (by decide) (by decide) ?_
              refine j_aload_n (pc := 132) C d_Model_onePart_132 rfl 4 rfl ?_
              refine j_bipush (pc := 133) C (v := 40) d_Model_onePart_133 (by decide) ?_
              refine j_callVv (pc := 135) C (c_M_asksSign l D y mo ma t1 u1275 t3 u1191.2 0 z511 i7 i8 i42 i49 (nI cd) (nI zn) z512 (nI bs) i61 i64 i66 t67 i76 i78 g0 40 xh1277 he (by decide)) kw_Model_271 kv_Model_asksSign 0 10 rfl rfl ⟨by decide, by decide⟩ ⟨by decide, by decide⟩ (wr := [(ma 37, .inl (y 3, 3, .inl g37)), (ma 38, .inl (y 3, 5, .inl g38)), (ma 39, .inl (y 3, 5, .inl g39)), (ma 41, .inl (y 3, 3, .inl g41)), (ma 50, .inl (y 0, 3200, .inl g50)), (ma 52, .inl (y 0, 1700, .inl zw)), (ma 40, .inl (y 3, 3, .inl g40))]) [7, 8] [0, 1, 2, 3, 4, 5, 6] rfl rfl (by decide) (by decide) (by decide) (As := [.int 40]) (rest := []) rfl (nb rfl) rfl d_Model_onePart_135 (fun u1281 hu1282 => ?_)
              obtain ⟨xh1283, xh1284, xh1285⟩ := hu1282
              refine j_ws (ws' := [(ma 37, .inl (y 3, 3, .inl g37)), (ma 38, .inl (y 3, 5, .inl g38)), (ma 39, .inl (y 3, 5, .inl g39)), (ma 41, .inl (y 3, 3, .inl g41)), (ma 50, .inl (y 0, 3200, .inl g50)), (ma 52, .inl (y 0, 1700, .inl zw)), (ma 40, .inl (y 3, 3, .inl g40)), MB mo ma (nI t1) (nI u1281.1) (nI t3) u1191.2 u1281.2.1 u1281.2.2 i7 i8 i42 i49 (nI cd) (nI zn) z512 (nI bs) i61 i64 i66 (nI t67) i76 i78, (ma 0, .inl (y 0, 1600, .inl g0))]) rfl ?_
              refine j_goto (pc := 138) C (tgt := 143) d_Model_onePart_138 (by decide) ?_
              refine j_goto (pc := 143) C (tgt := 2) d_Model_onePart_143 (by decide) ?_
              refine j_sub (ws' := [MB mo ma (nI t1) (nI u1281.1) (nI t3) u1191.2 u1281.2.1 u1281.2.2 i7 i8 i42 i49 (nI cd) (nI zn) z512 (nI bs) i61 i64 i66 (nI t67) i76 i78, (ma 0, .inl (y 0, 1600, .inl g0)), (ma 37, .inl (y 3, 3, .inl g37)), (ma 38, .inl (y 3, 5, .inl g38)), (ma 39, .inl (y 3, 5, .inl g39)), (ma 40, .inl (y 3, 3, .inl g40)), (ma 41, .inl (y 3, 3, .inl g41)), (ma 50, .inl (y 0, 3200, .inl g50)), (ma 52, .inl (y 0, 1700, .inl zw))]) [7, 8, 0, 1, 2, 6, 3, 4, 5] rfl (by decide) ?_
              refine j_locs (lv' := [(1, .int (nI mz)), (0, .ref mo)]) [3, 4] rfl ?_
              have hz1 := bz_e c1050
              have hz0 := bz_le u1281.2.1
              have hz2 : bz1 u1281.2.1 = 0 ∨ az + 1 ≤ u1281.1 := by
                by_cases e : u1281.2.1 = 0
                · right; have f0 := xh1285 e; have g0 := f0.2; omega
                · exact Or.inl (bz_0 e)
              have xh1286 : RS kq s0 f0 xx u1281.2.1 g50 zw cd zn az := rs_mono xh1051 (fun _ => rfl)
              exact ih1023 (mz, u1281.1, u1281.2.1, zw, zn, u1191.2, u1281.2.2, z512) ⟨hmz_, xh1284, (show t2 ≤ u1281.1 by omega), (show RS kq s0 f0 xx u1281.2.1 g50 zw cd zn u1281.1 from (rs_at xh1286 (by omega))), hT_, hS_, hb_⟩ (show 2 * (t3 - u1281.1) + bz1 u1281.2.1 + mz < 2 * (t3 - az) + bz1 bz + mz by omega)
            · refine j_bipush (pc := 94) C (v := 40) d_Model_onePart_94 (by decide) ?_
              refine j_icmp_ne (pc := 96) C (tgt := 106) d_Model_onePart_96 (by decide) (fun c1287 => ?_) (fun c1287 => ?_)
              · refine j_iconst (pc := 106) C (v := (-1)) d_Model_onePart_106 (by decide) ?_
                refine j_istore (pc := 107) C (lv' := [(4, .int (-1)), (3, .int 1), (2, .int (-1)), (1, .int (nI mz)), (0, .ref mo)]) d_Model_onePart_107 (by decide) rfl ?_
                refine j_iload (pc := 109) C d_Model_onePart_109 0 rfl ?_
                refine j_iconst (pc := 111) C (v := (-1)) d_Model_onePart_111 (by decide) ?_
                refine j_icmp_eqT (pc := 112) C (tgt := 132) d_Model_onePart_112 (by decide) (by decide) ?_
                refine j_aload_n (pc := 132) C d_Model_onePart_132 rfl 4 rfl ?_
                refine j_bipush (pc := 133) C (v := 40) d_Model_onePart_133 (by decide) ?_
                refine j_callVv (pc := 135) C (c_M_asksSign l D y mo ma t1 u1275 t3 u1191.2 0 z511 i7 i8 i42 i49 (nI cd) (nI zn) z512 (nI bs) i61 i64 i66 t67 i76 i78 g0 40 xh1277 he (by decide)) kw_Model_271 kv_Model_asksSign 0 10 rfl rfl ⟨by decide, by decide⟩ ⟨by decide, by decide⟩ (wr := [(ma 37, .inl (y 3, 3, .inl g37)), (ma 38, .inl (y 3, 5, .inl g38)), (ma 39, .inl (y 3, 5, .inl g39)), (ma 41, .inl (y 3, 3, .inl g41)), (ma 50, .inl (y 0, 3200, .inl g50)), (ma 52, .inl (y 0, 1700, .inl zw)), (ma 40, .inl (y 3, 3, .inl g40))]) [7, 8] [0, 1, 2, 3, 4, 5, 6] rfl rfl (by decide) (by decide) (by decide) (As := [.int 40]) (rest := []) rfl (nb rfl) rfl d_Model_onePart_135 (fun u1288 hu1289 => ?_)
                obtain ⟨xh1290, xh1291, xh1292⟩ := hu1289
                refine j_ws (ws' := [(ma 37, .inl (y 3, 3, .inl g37)), (ma 38, .inl (y 3, 5, .inl g38)), (ma 39, .inl (y 3, 5, .inl g39)), (ma 41, .inl (y 3, 3, .inl g41)), (ma 50, .inl (y 0, 3200, .inl g50)), (ma 52, .inl (y 0, 1700, .inl zw)), (ma 40, .inl (y 3, 3, .inl g40)), MB mo ma (nI t1) (nI u1288.1) (nI t3) u1191.2 u1288.2.1 u1288.2.2 i7 i8 i42 i49 (nI cd) (nI zn) z512 (nI bs) i61 i64 i66 (nI t67) i76 i78, (ma 0, .inl (y 0, 1600, .inl g0))]) rfl ?_
                refine j_goto (pc := 138) C (tgt := 143) d_Model_onePart_138 (by decide) ?_
                refine j_goto (pc := 143) C (tgt := 2) d_Model_onePart_143 (by decide) ?_
                refine j_sub (ws' := [MB mo ma (nI t1) (nI u1288.1) (nI t3) u1191.2 u1288.2.1 u1288.2.2 i7 i8 i42 i49 (nI cd) (nI zn) z512 (nI bs) i61 i64 i66 (nI t67) i76 i78, (ma 0, .inl (y 0, 1600, .inl g0)), (ma 37, .inl (y 3, 3, .inl g37)), (ma 38, .inl (y 3, 5, .inl g38)), (ma 39, .inl (y 3, 5, .inl g39)), (ma 40, .inl (y 3, 3, .inl g40)), (ma 41, .inl (y 3, 3, .inl g41)), (ma 50, .inl (y 0, 3200, .inl g50)), (ma 52, .inl (y 0, 1700, .inl zw))]) [7, 8, 0, 1, 2, 6, 3, 4, 5] rfl (by decide) ?_
                refine j_locs (lv' := [(1, .int (nI mz)), (0, .ref mo)]) [3, 4] rfl ?_
                have hz1 := bz_e c1050
                have hz0 := bz_le u1288.2.1
                have hz2 : bz1 u1288.2.1 = 0 ∨ az + 1 ≤ u1288.1 := by
                  by_cases e : u1288.2.1 = 0
                  · right; have f0 := xh1292 e; have g0 := f0.2; omega
                  · exact Or.inl (bz_0 e)
                have xh1293 : RS kq s0 f0 xx u1288.2.1 g50 zw cd zn az := rs_mono xh1051 (fun _ => rfl)
                exact ih1023 (mz, u1288.1, u1288.2.1, zw, zn, u1191.2, u1288.2.2, z512) ⟨hmz_, xh1291, (show t2 ≤ u1288.1 by omega), (show RS kq s0 f0 xx u1288.2.1 g50 zw cd zn u1288.1 from (rs_at xh1293 (by omega))), hT_, hS_, hb_⟩ (show 2 * (t3 - u1288.1) + bz1 u1288.2.1 + mz < 2 * (t3 - az) + bz1 bz + mz by omega)
              · refine j_aload_n (pc := 99) C d_Model_onePart_99 rfl 3 rfl ?_
                refine j_get (pc := 100) C gf_Model_207 7 rfl rfl d_Model_onePart_100 ?_
                refine j_goto (pc := 103) C (tgt := 107) d_Model_onePart_103 (by decide) ?_
                refine j_istore (pc := 107) C (lv' := [(4, .int (nI u1275)), (3, .int 1), (2, .int (-1)), (1, .int (nI mz)), (0, .ref mo)]) d_Model_onePart_107 (by decide) rfl ?_
                refine j_iload (pc := 109) C d_Model_onePart_109 0 rfl ?_
                refine j_iconst (pc := 111) C (v := (-1)) d_Model_onePart_111 (by decide) ?_
                refine j_icmp_eqF (pc := 112) C (tgt := 132) d_Model_onePart_112 (by decide) (nI_nm1 (by omega)) ?_
                refine j_aload_n (pc := 115) C d_Model_onePart_115 rfl 4 rfl ?_
                refine j_iload_n (pc := 116) C d_Model_onePart_116 rfl 1 rfl ?_
                refine j_if_eqF (pc := 117) C (tgt := 125) d_Model_onePart_117 (by decide) (by decide) ?_
                refine j_bipush (pc := 120) C (v := 21) d_Model_onePart_120 (by decide) ?_
                refine j_goto (pc := 122) C (tgt := 127) d_Model_onePart_122 (by decide) ?_
                refine j_iload (pc := 127) C d_Model_onePart_127 0 rfl ?_
                refine j_callVv (pc := 129) C (c_M_opens l D y mo ma t1 u1275 t3 u1191.2 0 z511 i7 i8 i42 i49 cd zn z512 bs i61 i64 i66 t67 i76 i78 zw 21 (nI u1275) s0 xx kq f0 az g50 (by decide) (by omega) xh1051 (by decide) hT_ hS_ hb_ hK) kw_Model_353 kv_Model_opens 0 10 rfl rfl ⟨by decide, by decide⟩ ⟨by decide, by decide⟩ (wr := [(ma 37, .inl (y 3, 3, .inl g37)), (ma 38, .inl (y 3, 5, .inl g38)), (ma 39, .inl (y 3, 5, .inl g39)), (ma 41, .inl (y 3, 3, .inl g41)), (ma 50, .inl (y 0, 3200, .inl g50)), (ma 40, .inl (y 3, 3, .inl g40)), (ma 0, .inl (y 0, 1600, .inl g0))]) [7, 5] [0, 1, 2, 3, 4, 6, 8] rfl rfl (by decide) (by decide) (by decide) (As := [.int 21, .int (nI u1275)]) (rest := []) rfl (nb rfl) rfl d_Model_onePart_129 (fun u1294 hu1295 => ?_)
                obtain ⟨xh1296, xh1297, xh1298, xh1299, xh1300, xh1301, xh1302⟩ := hu1295
                refine j_ws (ws' := [(ma 37, .inl (y 3, 3, .inl g37)), (ma 38, .inl (y 3, 5, .inl g38)), (ma 39, .inl (y 3, 5, .inl g39)), (ma 41, .inl (y 3, 3, .inl g41)), (ma 50, .inl (y 0, 3200, .inl g50)), (ma 40, .inl (y 3, 3, .inl g40)), (ma 0, .inl (y 0, 1600, .inl g0)), MB mo ma (nI t1) (nI u1275) (nI t3) u1191.2 u1294.1 u1294.2.1 i7 i8 i42 i49 (nI cd) (nI u1294.2.2.1) u1294.2.2.2.1 (nI bs) i61 i64 i66 (nI t67) i76 i78, (ma 52, .inl (y 0, 1700, .inl u1294.2.2.2.2))]) rfl ?_
                refine j_aload_n (pc := 132) C d_Model_onePart_132 rfl 4 rfl ?_
                refine j_bipush (pc := 133) C (v := 40) d_Model_onePart_133 (by decide) ?_
                refine j_callVv (pc := 135) C (c_M_asksSign l D y mo ma t1 u1275 t3 u1191.2 u1294.1 u1294.2.1 i7 i8 i42 i49 (nI cd) (nI u1294.2.2.1) u1294.2.2.2.1 (nI bs) i61 i64 i66 t67 i76 i78 g0 40 xh1277 he (by decide)) kw_Model_271 kv_Model_asksSign 0 10 rfl rfl ⟨by decide, by decide⟩ ⟨by decide, by decide⟩ (wr := [(ma 37, .inl (y 3, 3, .inl g37)), (ma 38, .inl (y 3, 5, .inl g38)), (ma 39, .inl (y 3, 5, .inl g39)), (ma 41, .inl (y 3, 3, .inl g41)), (ma 50, .inl (y 0, 3200, .inl g50)), (ma 40, .inl (y 3, 3, .inl g40)), (ma 52, .inl (y 0, 1700, .inl u1294.2.2.2.2))]) [7, 6] [0, 1, 2, 3, 4, 5, 8] rfl rfl (by decide) (by decide) (by decide) (As := [.int 40]) (rest := []) rfl (nb rfl) rfl d_Model_onePart_135 (fun u1303 hu1304 => ?_)
                obtain ⟨xh1305, xh1306, xh1307⟩ := hu1304
                refine j_ws (ws' := [(ma 37, .inl (y 3, 3, .inl g37)), (ma 38, .inl (y 3, 5, .inl g38)), (ma 39, .inl (y 3, 5, .inl g39)), (ma 41, .inl (y 3, 3, .inl g41)), (ma 50, .inl (y 0, 3200, .inl g50)), (ma 40, .inl (y 3, 3, .inl g40)), (ma 52, .inl (y 0, 1700, .inl u1294.2.2.2.2)), MB mo ma (nI t1) (nI u1303.1) (nI t3) u1191.2 u1303.2.1 u1303.2.2 i7 i8 i42 i49 (nI cd) (nI u1294.2.2.1) u1294.2.2.2.1 (nI bs) i61 i64 i66 (nI t67) i76 i78, (ma 0, .inl (y 0, 1600, .inl g0))]) rfl ?_
                refine j_goto (pc := 138) C (tgt := 143) d_Model_onePart_138 (by decide) ?_
                refine j_goto (pc := 143) C (tgt := 2) d_Model_onePart_143 (by decide) ?_
                refine j_sub (ws' := [MB mo ma (nI t1) (nI u1303.1) (nI t3) u1191.2 u1303.2.1 u1303.2.2 i7 i8 i42 i49 (nI cd) (nI u1294.2.2.1) u1294.2.2.2.1 (nI bs) i61 i64 i66 (nI t67) i76 i78, (ma 0, .inl (y 0, 1600, .inl g0)), (ma 37, .inl (y 3, 3, .inl g37)), (ma 38, .inl (y 3, 5, .inl g38)), (ma 39, .inl (y 3, 5, .inl g39)), (ma 40, .inl (y 3, 3, .inl g40)), (ma 41, .inl (y 3, 3, .inl g41)), (ma 50, .inl (y 0, 3200, .inl g50)), (ma 52, .inl (y 0, 1700, .inl u1294.2.2.2.2))]) [7, 8, 0, 1, 2, 5, 3, 4, 6] rfl (by decide) ?_
                refine j_locs (lv' := [(1, .int (nI mz)), (0, .ref mo)]) [3, 4] rfl ?_
                have hz1 := bz_e c1050
                have hz0 := bz_le u1303.2.1
                have hz2 : bz1 u1303.2.1 = 0 ∨ az + 1 ≤ u1303.1 := by
                  by_cases e : u1303.2.1 = 0
                  · right; have f0 := xh1307 e; have g0 := f0.2; have f1 := xh1298 f0.1; omega
                  · exact Or.inl (bz_0 e)
                have xh1308 : RS kq s0 f0 xx u1303.2.1 g50 u1294.2.2.2.2 cd u1294.2.2.1 (az + 1) := rs_mono xh1299 (fun e => by have e0 := (xh1307 e).1; exact e0)
                exact ih1023 (mz, u1303.1, u1303.2.1, u1294.2.2.2.2, u1294.2.2.1, u1191.2, u1303.2.2, u1294.2.2.2.1) ⟨hmz_, xh1306, (show t2 ≤ u1303.1 by omega), (show RS kq s0 f0 xx u1303.2.1 g50 u1294.2.2.2.2 cd u1294.2.2.1 u1303.1 from (rs_at xh1308 (by omega))), xh1301, xh1302, (show bs ≤ u1294.2.2.1 by omega)⟩ (show 2 * (t3 - u1303.1) + bz1 u1303.2.1 + mz < 2 * (t3 - az) + bz1 bz + mz by omega)
      · refine j_istore_n (pc := 17) C (lv' := [(2, .int r1052), (1, .int (nI mz)), (0, .ref mo)]) d_Model_onePart_17 rfl (by decide) rfl ?_
        refine j_iload_n (pc := 18) C d_Model_onePart_18 rfl 0 rfl ?_
        refine j_bipush (pc := 19) C (v := 40) d_Model_onePart_19 (by decide) ?_
        refine j_icmp_ne (pc := 21) C (tgt := 47) d_Model_onePart_21 (by decide) (fun c1309 => ?_) (fun c1309 => ?_)
        · refine j_aload_n (pc := 47) C d_Model_onePart_47 rfl 2 rfl ?_
          refine j_aload_n (pc := 48) C d_Model_onePart_48 rfl 2 rfl ?_
          refine j_get (pc := 49) C gf_Model_111 7 rfl rfl d_Model_onePart_49 ?_
          refine j_callVi (pc := 52) C (c_M_isHere_3 l D y mo (ma 40) ma t1 u1053 t3 z510 0 z511 i7 i8 i42 i49 (nI cd) (nI zn) z512 (nI bs) i61 i64 i66 t67 i76 i78 g0 g40 xh1055 he) kw_Model_224 kv_Model_isHere 0 10 rfl rfl ⟨by decide, by decide⟩ ⟨by decide, by decide⟩ (wr := [(ma 37, .inl (y 3, 3, .inl g37)), (ma 38, .inl (y 3, 5, .inl g38)), (ma 39, .inl (y 3, 5, .inl g39)), (ma 41, .inl (y 3, 3, .inl g41)), (ma 50, .inl (y 0, 3200, .inl g50)), (ma 52, .inl (y 0, 1700, .inl zw))]) [7, 8, 3] [0, 1, 2, 4, 5, 6] rfl rfl (by decide) (by decide) (by decide) (As := [.ref (ma 40)]) (rest := []) rfl (nb rfl) rfl d_Model_onePart_52 (fun r1310 u1311 hr1310 => ?_)
          refine j_ws (ws' := [(ma 37, .inl (y 3, 3, .inl g37)), (ma 38, .inl (y 3, 5, .inl g38)), (ma 39, .inl (y 3, 5, .inl g39)), (ma 41, .inl (y 3, 3, .inl g41)), (ma 50, .inl (y 0, 3200, .inl g50)), (ma 52, .inl (y 0, 1700, .inl zw)), MB mo ma (nI t1) (nI u1311) (nI t3) z510 0 z511 i7 i8 i42 i49 (nI cd) (nI zn) z512 (nI bs) i61 i64 i66 (nI t67) i76 i78, (ma 0, .inl (y 0, 1600, .inl g0)), (ma 40, .inl (y 3, 3, .inl g40))]) rfl ?_
          obtain ⟨xh1312, xh1313, xh1314⟩ := hr1310
          rcases xh1314 with rfl | ⟨rfl, xh1315⟩
          · refine j_if_neF (pc := 55) C (tgt := 69) d_Model_onePart_55 (by decide) (by decide) ?_
            refine j_aload_n (pc := 58) C d_Model_onePart_58 rfl 2 rfl ?_
            refine j_aload_n (pc := 59) C d_Model_onePart_59 rfl 2 rfl ?_
            refine j_get (pc := 60) C gf_Model_114 6 rfl rfl d_Model_onePart_60 ?_
            refine j_callVi (pc := 63) C (c_M_isHere_3 l D y mo (ma 41) ma t1 u1311 t3 z510 0 z511 i7 i8 i42 i49 (nI cd) (nI zn) z512 (nI bs) i61 i64 i66 t67 i76 i78 g0 g41 xh1313 he) kw_Model_224 kv_Model_isHere 0 10 rfl rfl ⟨by decide, by decide⟩ ⟨by decide, by decide⟩ (wr := [(ma 37, .inl (y 3, 3, .inl g37)), (ma 38, .inl (y 3, 5, .inl g38)), (ma 39, .inl (y 3, 5, .inl g39)), (ma 50, .inl (y 0, 3200, .inl g50)), (ma 52, .inl (y 0, 1700, .inl zw)), (ma 40, .inl (y 3, 3, .inl g40))]) [6, 7, 3] [0, 1, 2, 4, 5, 8] rfl rfl (by decide) (by decide) (by decide) (As := [.ref (ma 41)]) (rest := []) rfl (nb rfl) rfl d_Model_onePart_63 (fun r1316 u1317 hr1316 => ?_)
            refine j_ws (ws' := [(ma 37, .inl (y 3, 3, .inl g37)), (ma 38, .inl (y 3, 5, .inl g38)), (ma 39, .inl (y 3, 5, .inl g39)), (ma 50, .inl (y 0, 3200, .inl g50)), (ma 52, .inl (y 0, 1700, .inl zw)), (ma 40, .inl (y 3, 3, .inl g40)), MB mo ma (nI t1) (nI u1317) (nI t3) z510 0 z511 i7 i8 i42 i49 (nI cd) (nI zn) z512 (nI bs) i61 i64 i66 (nI t67) i76 i78, (ma 0, .inl (y 0, 1600, .inl g0)), (ma 41, .inl (y 3, 3, .inl g41))]) rfl ?_
            obtain ⟨xh1318, xh1319, xh1320⟩ := hr1316
            rcases xh1320 with rfl | ⟨rfl, xh1321⟩
            · refine j_if_eqT (pc := 66) C (tgt := 141) d_Model_onePart_66 (by decide) (by decide) ?_
              refine j_iconst (pc := 141) C (v := 0) d_Model_onePart_141 (by decide) ?_
              refine j_istore_n (pc := 142) C (lv' := [(1, .int 0), (2, .int r1052), (0, .ref mo)]) d_Model_onePart_142 rfl (by decide) rfl ?_
              refine j_goto (pc := 143) C (tgt := 2) d_Model_onePart_143 (by decide) ?_
              refine j_sub (ws' := [MB mo ma (nI t1) (nI u1317) (nI t3) z510 0 z511 i7 i8 i42 i49 (nI cd) (nI zn) z512 (nI bs) i61 i64 i66 (nI t67) i76 i78, (ma 0, .inl (y 0, 1600, .inl g0)), (ma 37, .inl (y 3, 3, .inl g37)), (ma 38, .inl (y 3, 5, .inl g38)), (ma 39, .inl (y 3, 5, .inl g39)), (ma 40, .inl (y 3, 3, .inl g40)), (ma 41, .inl (y 3, 3, .inl g41)), (ma 50, .inl (y 0, 3200, .inl g50)), (ma 52, .inl (y 0, 1700, .inl zw))]) [6, 7, 0, 1, 2, 5, 8, 3, 4] rfl (by decide) ?_
              refine j_locs (lv' := [(1, .int 0), (0, .ref mo)]) [0, 2] rfl ?_
              have hz1 := bz_e c1050
              have hz0 := bz_1
              exact ih1023 (0, u1317, 0, zw, zn, z510, z511, z512) ⟨(show 0 ≤ 1 by omega), xh1319, (show t2 ≤ u1317 by omega), (show RS kq s0 f0 xx 0 g50 zw cd zn u1317 from (rs_at xh1051 (by omega))), hT_, hS_, hb_⟩ (show 2 * (t3 - u1317) + bz1 0 + 0 < 2 * (t3 - az) + bz1 bz + mz by omega)
            · refine j_if_eqF (pc := 66) C (tgt := 141) d_Model_onePart_66 (by decide) (by decide) ?_
              refine j_aload_n (pc := 69) C d_Model_onePart_69 rfl 2 rfl ?_
              refine j_aload_n (pc := 70) C d_Model_onePart_70 rfl 2 rfl ?_
              refine j_get (pc := 71) C gf_Model_111 6 rfl rfl d_Model_onePart_71 ?_
              refine j_callVi (pc := 74) C (c_M_takes_3 l D y mo (ma 40) ma t1 u1317 t3 z510 0 z511 i7 i8 i42 i49 (nI cd) (nI zn) z512 (nI bs) i61 i64 i66 t67 i76 i78 g0 g40 xh1319 he) kw_Model_228 kv_Model_takes 0 10 rfl rfl ⟨by decide, by decide⟩ ⟨by decide, by decide⟩ (wr := [(ma 37, .inl (y 3, 3, .inl g37)), (ma 38, .inl (y 3, 5, .inl g38)), (ma 39, .inl (y 3, 5, .inl g39)), (ma 50, .inl (y 0, 3200, .inl g50)), (ma 52, .inl (y 0, 1700, .inl zw)), (ma 41, .inl (y 3, 3, .inl g41))]) [6, 7, 5] [0, 1, 2, 3, 4, 8] rfl rfl (by decide) (by decide) (by decide) (As := [.ref (ma 40)]) (rest := []) rfl (nb rfl) rfl d_Model_onePart_74 (fun r1322 u1323 hr1322 => ?_)
              refine j_ws (ws' := [(ma 37, .inl (y 3, 3, .inl g37)), (ma 38, .inl (y 3, 5, .inl g38)), (ma 39, .inl (y 3, 5, .inl g39)), (ma 50, .inl (y 0, 3200, .inl g50)), (ma 52, .inl (y 0, 1700, .inl zw)), (ma 41, .inl (y 3, 3, .inl g41)), MB mo ma (nI t1) (nI u1323.1) (nI t3) u1323.2 0 z511 i7 i8 i42 i49 (nI cd) (nI zn) z512 (nI bs) i61 i64 i66 (nI t67) i76 i78, (ma 0, .inl (y 0, 1600, .inl g0)), (ma 40, .inl (y 3, 3, .inl g40))]) rfl ?_
              obtain ⟨xh1324, xh1325, xh1326⟩ := hr1322
              rcases xh1326 with rfl | ⟨rfl, xh1327⟩
              · refine j_istore_n (pc := 77) C (lv' := [(3, .int 0), (2, .int r1052), (1, .int (nI mz)), (0, .ref mo)]) d_Model_onePart_77 rfl (by decide) rfl ?_
                refine j_iload_n (pc := 78) C d_Model_onePart_78 rfl 0 rfl ?_
                refine j_if_neF (pc := 79) C (tgt := 90) d_Model_onePart_79 (by decide) (by decide) ?_
                refine j_aload_n (pc := 82) C d_Model_onePart_82 rfl 3 rfl ?_
                refine j_aload_n (pc := 83) C d_Model_onePart_83 rfl 3 rfl ?_
                refine j_get (pc := 84) C gf_Model_114 6 rfl rfl d_Model_onePart_84 ?_
                refine j_callVv (pc := 87) C (c_M_asks_3 l D y mo (ma 41) ma t1 u1323.1 t3 u1323.2 0 z511 i7 i8 i42 i49 (nI cd) (nI zn) z512 (nI bs) i61 i64 i66 t67 i76 i78 g0 g41 xh1325 he) kw_Model_263 kv_Model_asks 0 10 rfl rfl ⟨by decide, by decide⟩ ⟨by decide, by decide⟩ (wr := [(ma 37, .inl (y 3, 3, .inl g37)), (ma 38, .inl (y 3, 5, .inl g38)), (ma 39, .inl (y 3, 5, .inl g39)), (ma 50, .inl (y 0, 3200, .inl g50)), (ma 52, .inl (y 0, 1700, .inl zw)), (ma 40, .inl (y 3, 3, .inl g40))]) [6, 7, 5] [0, 1, 2, 3, 4, 8] rfl rfl (by decide) (by decide) (by decide) (As := [.ref (ma 41)]) (rest := []) rfl (nb rfl) rfl d_Model_onePart_87 (fun u1328 hu1329 => ?_)
                obtain ⟨xh1330, xh1331, xh1332⟩ := hu1329
                refine j_ws (ws' := [(ma 37, .inl (y 3, 3, .inl g37)), (ma 38, .inl (y 3, 5, .inl g38)), (ma 39, .inl (y 3, 5, .inl g39)), (ma 50, .inl (y 0, 3200, .inl g50)), (ma 52, .inl (y 0, 1700, .inl zw)), (ma 40, .inl (y 3, 3, .inl g40)), MB mo ma (nI t1) (nI u1328.1) (nI t3) u1328.2.1 u1328.2.2.1 u1328.2.2.2 i7 i8 i42 i49 (nI cd) (nI zn) z512 (nI bs) i61 i64 i66 (nI t67) i76 i78, (ma 0, .inl (y 0, 1600, .inl g0)), (ma 41, .inl (y 3, 3, .inl g41))]) rfl ?_
                by_cases c1333 : u1328.2.2.1 = 0
                · have hpg := (xh1332 c1333).2
                  have xh1334 : RS kq s0 f0 xx u1328.2.2.1 g50 zw cd zn az := rs_mono xh1051 (fun _ => rfl)
                  refine j_ws (ws' := [(ma 37, .inl (y 3, 3, .inl g37)), (ma 38, .inl (y 3, 5, .inl g38)), (ma 39, .inl (y 3, 5, .inl g39)), (ma 50, .inl (y 0, 3200, .inl g50)), (ma 52, .inl (y 0, 1700, .inl zw)), (ma 40, .inl (y 3, 3, .inl g40)), MB mo ma (nI t1) (nI u1328.1) (nI t3) u1328.2.1 0 u1328.2.2.2 i7 i8 i42 i49 (nI cd) (nI zn) z512 (nI bs) i61 i64 i66 (nI t67) i76 i78, (ma 0, .inl (y 0, 1600, .inl g0)), (ma 41, .inl (y 3, 3, .inl g41))]) (by rw [c1333]) ?_
                  refine j_aload_n (pc := 90) C d_Model_onePart_90 rfl 3 rfl ?_
                  refine j_callVi (pc := 91) C (c_M_look l D y mo ma t1 u1328.1 t3 u1328.2.1 0 u1328.2.2.2 i7 i8 i42 i49 (nI cd) (nI zn) z512 (nI bs) i61 i64 i66 t67 i76 i78 g0 xh1331 he) kw_Model_213 kv_Model_look 0 10 rfl rfl ⟨by decide, by decide⟩ ⟨by decide, by decide⟩ (wr := [(ma 37, .inl (y 3, 3, .inl g37)), (ma 38, .inl (y 3, 5, .inl g38)), (ma 39, .inl (y 3, 5, .inl g39)), (ma 50, .inl (y 0, 3200, .inl g50)), (ma 52, .inl (y 0, 1700, .inl zw)), (ma 40, .inl (y 3, 3, .inl g40)), (ma 41, .inl (y 3, 3, .inl g41))]) [6, 7] [0, 1, 2, 3, 4, 5, 8] rfl rfl (by decide) (by decide) (by decide) (As := []) (rest := []) rfl (nb rfl) rfl d_Model_onePart_91 (fun r1335 u1336 hr1335 => ?_)
                  refine j_ws (ws' := [(ma 37, .inl (y 3, 3, .inl g37)), (ma 38, .inl (y 3, 5, .inl g38)), (ma 39, .inl (y 3, 5, .inl g39)), (ma 50, .inl (y 0, 3200, .inl g50)), (ma 52, .inl (y 0, 1700, .inl zw)), (ma 40, .inl (y 3, 3, .inl g40)), (ma 41, .inl (y 3, 3, .inl g41)), MB mo ma (nI t1) (nI u1336) (nI t3) u1328.2.1 0 u1328.2.2.2 i7 i8 i42 i49 (nI cd) (nI zn) z512 (nI bs) i61 i64 i66 (nI t67) i76 i78, (ma 0, .inl (y 0, 1600, .inl g0))]) rfl ?_
                  obtain ⟨xh1337, xh1338, xh1339⟩ := hr1335
                  rcases xh1339 with rfl | ⟨xh1340, e1341⟩
                  · refine j_bipush (pc := 94) C (v := 40) d_Model_onePart_94 (by decide) ?_
                    refine j_icmp_neT (pc := 96) C (tgt := 106) d_Model_onePart_96 (by decide) (by decide) ?_
                    refine j_iconst (pc := 106) C (v := (-1)) d_Model_onePart_106 (by decide) ?_
                    refine j_istore (pc := 107) C (lv' := [(4, .int (-1)), (3, .int 0), (2, .int r1052), (1, .int (nI mz)), (0, .ref mo)]) d_Model_onePart_107 (by decide) rfl ?_
                    refine j_iload (pc := 109) C d_Model_onePart_109 0 rfl ?_
                    refine j_iconst (pc := 111) C (v := (-1)) d_Model_onePart_111 (by decide) ?_
                    refine j_icmp_eqT (pc := 112) C (tgt := 132) d_Model_onePart_112 (by decide) (by decide) ?_
                    refine j_aload_n (pc := 132) C d_Model_onePart_132 rfl 4 rfl ?_
                    refine j_bipush (pc := 133) C (v := 40) d_Model_onePart_133 (by decide) ?_
                    refine j_callVv (pc := 135) C (c_M_asksSign l D y mo ma t1 u1336 t3 u1328.2.1 0 u1328.2.2.2 i7 i8 i42 i49 (nI cd) (nI zn) z512 (nI bs) i61 i64 i66 t67 i76 i78 g0 40 xh1338 he (by decide)) kw_Model_271 kv_Model_asksSign 0 10 rfl rfl ⟨by decide, by decide⟩ ⟨by decide, by decide⟩ (wr := [(ma 37, .inl (y 3, 3, .inl g37)), (ma 38, .inl (y 3, 5, .inl g38)), (ma 39, .inl (y 3, 5, .inl g39)), (ma 50, .inl (y 0, 3200, .inl g50)), (ma 52, .inl (y 0, 1700, .inl zw)), (ma 40, .inl (y 3, 3, .inl g40)), (ma 41, .inl (y 3, 3, .inl g41))]) [7, 8] [0, 1, 2, 3, 4, 5, 6] rfl rfl (by decide) (by decide) (by decide) (As := [.int 40]) (rest := []) rfl (nb rfl) rfl d_Model_onePart_135 (fun u1342 hu1343 => ?_)
                    obtain ⟨xh1344, xh1345, xh1346⟩ := hu1343
                    refine j_ws (ws' := [(ma 37, .inl (y 3, 3, .inl g37)), (ma 38, .inl (y 3, 5, .inl g38)), (ma 39, .inl (y 3, 5, .inl g39)), (ma 50, .inl (y 0, 3200, .inl g50)), (ma 52, .inl (y 0, 1700, .inl zw)), (ma 40, .inl (y 3, 3, .inl g40)), (ma 41, .inl (y 3, 3, .inl g41)), MB mo ma (nI t1) (nI u1342.1) (nI t3) u1328.2.1 u1342.2.1 u1342.2.2 i7 i8 i42 i49 (nI cd) (nI zn) z512 (nI bs) i61 i64 i66 (nI t67) i76 i78, (ma 0, .inl (y 0, 1600, .inl g0))]) rfl ?_
                    refine j_goto (pc := 138) C (tgt := 143) d_Model_onePart_138 (by decide) ?_
                    refine j_goto (pc := 143) C (tgt := 2) d_Model_onePart_143 (by decide) ?_
                    refine j_sub (ws' := [MB mo ma (nI t1) (nI u1342.1) (nI t3) u1328.2.1 u1342.2.1 u1342.2.2 i7 i8 i42 i49 (nI cd) (nI zn) z512 (nI bs) i61 i64 i66 (nI t67) i76 i78, (ma 0, .inl (y 0, 1600, .inl g0)), (ma 37, .inl (y 3, 3, .inl g37)), (ma 38, .inl (y 3, 5, .inl g38)), (ma 39, .inl (y 3, 5, .inl g39)), (ma 40, .inl (y 3, 3, .inl g40)), (ma 41, .inl (y 3, 3, .inl g41)), (ma 50, .inl (y 0, 3200, .inl g50)), (ma 52, .inl (y 0, 1700, .inl zw))]) [7, 8, 0, 1, 2, 5, 6, 3, 4] rfl (by decide) ?_
                    refine j_locs (lv' := [(1, .int (nI mz)), (0, .ref mo)]) [3, 4] rfl ?_
                    have hz1 := bz_e c1050
                    have hz0 := bz_le u1342.2.1
                    have hz2 : bz1 u1342.2.1 = 0 ∨ az + 1 ≤ u1342.1 := by
                      by_cases e : u1342.2.1 = 0
                      · right; have f0 := xh1346 e; have g0 := f0.2; omega
                      · exact Or.inl (bz_0 e)
                    have xh1347 : RS kq s0 f0 xx u1342.2.1 g50 zw cd zn az := rs_mono xh1051 (fun _ => rfl)
                    exact ih1023 (mz, u1342.1, u1342.2.1, zw, zn, u1328.2.1, u1342.2.2, z512) ⟨hmz_, xh1345, (show t2 ≤ u1342.1 by omega), (show RS kq s0 f0 xx u1342.2.1 g50 zw cd zn u1342.1 from (rs_at xh1347 (by omega))), hT_, hS_, hb_⟩ (show 2 * (t3 - u1342.1) + bz1 u1342.2.1 + mz < 2 * (t3 - az) + bz1 bz + mz by omega)
                  · refine j_bipush (pc := 94) C (v := 40) d_Model_onePart_94 (by decide) ?_
                    refine j_icmp_ne (pc := 96) C (tgt := 106) d_Model_onePart_96 (by decide) (fun c1348 => ?_) (fun c1348 => ?_)
                    · refine j_iconst (pc := 106) C (v := (-1)) d_Model_onePart_106 (by decide) ?_
                      refine j_istore (pc := 107) C (lv' := [(4, .int (-1)), (3, .int 0), (2, .int r1052), (1, .int (nI mz)), (0, .ref mo)]) d_Model_onePart_107 (by decide) rfl ?_
                      refine j_iload (pc := 109) C d_Model_onePart_109 0 rfl ?_
                      refine j_iconst (pc := 111) C (v := (-1)) d_Model_onePart_111 (by decide) ?_
                      refine j_icmp_eqT (pc := 112) C (tgt := 132) d_Model_onePart_112 (by decide) (by decide) ?_
                      refine j_aload_n (pc := 132) C d_Model_onePart_132 rfl 4 rfl ?_
                      refine j_bipush (pc := 133) C (v := 40) d_Model_onePart_133 (by decide) ?_
                      refine j_callVv (pc := 135) C (c_M_asksSign l D y mo ma t1 u1336 t3 u1328.2.1 0 u1328.2.2.2 i7 i8 i42 i49 (nI cd) (nI zn) z512 (nI bs) i61 i64 i66 t67 i76 i78 g0 40 xh1338 he (by decide)) kw_Model_271 kv_Model_asksSign 0 10 rfl rfl ⟨by decide, by decide⟩ ⟨by decide, by decide⟩ (wr := [(ma 37, .inl (y 3, 3, .inl g37)), (ma 38, .inl (y 3, 5, .inl g38)), (ma 39, .inl (y 3, 5, .inl g39)), (ma 50, .inl (y 0, 3200, .inl g50)), (ma 52, .inl (y 0, 1700, .inl zw)), (ma 40, .inl (y 3, 3, .inl g40)), (ma 41, .inl (y 3, 3, .inl g41))]) [7, 8] [0, 1, 2, 3, 4, 5, 6] rfl rfl (by decide) (by decide) (by decide) (As := [.int 40]) (rest := []) rfl (nb rfl) rfl d_Model_onePart_135 (fun u1349 hu1350 => ?_)
                      obtain ⟨xh1351, xh1352, xh1353⟩ := hu1350
                      refine j_ws (ws' := [(ma 37, .inl (y 3, 3, .inl g37)), (ma 38, .inl (y 3, 5, .inl g38)), (ma 39, .inl (y 3, 5, .inl g39)), (ma 50, .inl (y 0, 3200, .inl g50)), (ma 52, .inl (y 0, 1700, .inl zw)), (ma 40, .inl (y 3, 3, .inl g40)), (ma 41, .inl (y 3, 3, .inl g41)), MB mo ma (nI t1) (nI u1349.1) (nI t3) u1328.2.1 u1349.2.1 u1349.2.2 i7 i8 i42 i49 (nI cd) (nI zn) z512 (nI bs) i61 i64 i66 (nI t67) i76 i78, (ma 0, .inl (y 0, 1600, .inl g0))]) rfl ?_
                      refine j_goto (pc := 138) C (tgt := 143) d_Model_onePart_138 (by decide) ?_
                      refine j_goto (pc := 143) C (tgt := 2) d_Model_onePart_143 (by decide) ?_
                      refine j_sub (ws' := [MB mo ma (nI t1) (nI u1349.1) (nI t3) u1328.2.1 u1349.2.1 u1349.2.2 i7 i8 i42 i49 (nI cd) (nI zn) z512 (nI bs) i61 i64 i66 (nI t67) i76 i78, (ma 0, .inl (y 0, 1600, .inl g0)), (ma 37, .inl (y 3, 3, .inl g37)), (ma 38, .inl (y 3, 5, .inl g38)), (ma 39, .inl (y 3, 5, .inl g39)), (ma 40, .inl (y 3, 3, .inl g40)), (ma 41, .inl (y 3, 3, .inl g41)), (ma 50, .inl (y 0, 3200, .inl g50)), (ma 52, .inl (y 0, 1700, .inl zw))]) [7, 8, 0, 1, 2, 5, 6, 3, 4] rfl (by decide) ?_
                      refine j_locs (lv' := [(1, .int (nI mz)), (0, .ref mo)]) [3, 4] rfl ?_
                      have hz1 := bz_e c1050
                      have hz0 := bz_le u1349.2.1
                      have hz2 : bz1 u1349.2.1 = 0 ∨ az + 1 ≤ u1349.1 := by
                        by_cases e : u1349.2.1 = 0
                        · right; have f0 := xh1353 e; have g0 := f0.2; omega
                        · exact Or.inl (bz_0 e)
                      have xh1354 : RS kq s0 f0 xx u1349.2.1 g50 zw cd zn az := rs_mono xh1051 (fun _ => rfl)
                      exact ih1023 (mz, u1349.1, u1349.2.1, zw, zn, u1328.2.1, u1349.2.2, z512) ⟨hmz_, xh1352, (show t2 ≤ u1349.1 by omega), (show RS kq s0 f0 xx u1349.2.1 g50 zw cd zn u1349.1 from (rs_at xh1354 (by omega))), hT_, hS_, hb_⟩ (show 2 * (t3 - u1349.1) + bz1 u1349.2.1 + mz < 2 * (t3 - az) + bz1 bz + mz by omega)
                    · refine j_aload_n (pc := 99) C d_Model_onePart_99 rfl 3 rfl ?_
                      refine j_get (pc := 100) C gf_Model_207 7 rfl rfl d_Model_onePart_100 ?_
                      refine j_goto (pc := 103) C (tgt := 107) d_Model_onePart_103 (by decide) ?_
                      refine j_istore (pc := 107) C (lv' := [(4, .int (nI u1336)), (3, .int 0), (2, .int r1052), (1, .int (nI mz)), (0, .ref mo)]) d_Model_onePart_107 (by decide) rfl ?_
                      refine j_iload (pc := 109) C d_Model_onePart_109 0 rfl ?_
                      refine j_iconst (pc := 111) C (v := (-1)) d_Model_onePart_111 (by decide) ?_
                      refine j_icmp_eqF (pc := 112) C (tgt := 132) d_Model_onePart_112 (by decide) (nI_nm1 (by omega)) ?_
                      refine j_aload_n (pc := 115) C d_Model_onePart_115 rfl 4 rfl ?_
                      refine j_iload_n (pc := 116) C d_Model_onePart_116 rfl 1 rfl ?_
                      refine j_if_eqT (pc := 117) C (tgt := 125) d_Model_onePart_117 (by decide) (by decide) ?_
                      refine j_bipush (pc := 125) C (v := 22) d_Model_onePart_125 (by decide) ?_
                      refine j_iload (pc := 127) C d_Model_onePart_127 0 rfl ?_
                      refine j_callVv (pc := 129) C (c_M_opens l D y mo ma t1 u1336 t3 u1328.2.1 0 u1328.2.2.2 i7 i8 i42 i49 cd zn z512 bs i61 i64 i66 t67 i76 i78 zw 22 (nI u1336) s0 xx kq f0 az g50 (by decide) (by omega) xh1051 (by decide) hT_ hS_ hb_ hK) kw_Model_353 kv_Model_opens 0 10 rfl rfl ⟨by decide, by decide⟩ ⟨by decide, by decide⟩ (wr := [(ma 37, .inl (y 3, 3, .inl g37)), (ma 38, .inl (y 3, 5, .inl g38)), (ma 39, .inl (y 3, 5, .inl g39)), (ma 50, .inl (y 0, 3200, .inl g50)), (ma 40, .inl (y 3, 3, .inl g40)), (ma 41, .inl (y 3, 3, .inl g41)), (ma 0, .inl (y 0, 1600, .inl g0))]) [7, 4] [0, 1, 2, 3, 5, 6, 8] rfl rfl (by decide) (by decide) (by decide) (As := [.int 22, .int (nI u1336)]) (rest := []) rfl (nb rfl) rfl d_Model_onePart_129 (fun u1355 hu1356 => ?_)
                      obtain ⟨xh1357, xh1358, xh1359, xh1360, xh1361, xh1362, xh1363⟩ := hu1356
                      refine j_ws (ws' := [(ma 37, .inl (y 3, 3, .inl g37)), (ma 38, .inl (y 3, 5, .inl g38)), (ma 39, .inl (y 3, 5, .inl g39)), (ma 50, .inl (y 0, 3200, .inl g50)), (ma 40, .inl (y 3, 3, .inl g40)), (ma 41, .inl (y 3, 3, .inl g41)), (ma 0, .inl (y 0, 1600, .inl g0)), MB mo ma (nI t1) (nI u1336) (nI t3) u1328.2.1 u1355.1 u1355.2.1 i7 i8 i42 i49 (nI cd) (nI u1355.2.2.1) u1355.2.2.2.1 (nI bs) i61 i64 i66 (nI t67) i76 i78, (ma 52, .inl (y 0, 1700, .inl u1355.2.2.2.2))]) rfl ?_
                      refine j_aload_n (pc := 132) C d_Model_onePart_132 rfl 4 rfl ?_
                      refine j_bipush (pc := 133) C (v := 40) d_Model_onePart_133 (by decide) ?_
                      refine j_callVv (pc := 135) C (c_M_asksSign l D y mo ma t1 u1336 t3 u1328.2.1 u1355.1 u1355.2.1 i7 i8 i42 i49 (nI cd) (nI u1355.2.2.1) u1355.2.2.2.1 (nI bs) i61 i64 i66 t67 i76 i78 g0 40 xh1338 he (by decide)) kw_Model_271 kv_Model_asksSign 0 10 rfl rfl ⟨by decide, by decide⟩ ⟨by decide, by decide⟩ (wr := [(ma 37, .inl (y 3, 3, .inl g37)), (ma 38, .inl (y 3, 5, .inl g38)), (ma 39, .inl (y 3, 5, .inl g39)), (ma 50, .inl (y 0, 3200, .inl g50)), (ma 40, .inl (y 3, 3, .inl g40)), (ma 41, .inl (y 3, 3, .inl g41)), (ma 52, .inl (y 0, 1700, .inl u1355.2.2.2.2))]) [7, 6] [0, 1, 2, 3, 4, 5, 8] rfl rfl (by decide) (by decide) (by decide) (As := [.int 40]) (rest := []) rfl (nb rfl) rfl d_Model_onePart_135 (fun u1364 hu1365 => ?_)
                      obtain ⟨xh1366, xh1367, xh1368⟩ := hu1365
                      refine j_ws (ws' := [(ma 37, .inl (y 3, 3, .inl g37)), (ma 38, .inl (y 3, 5, .inl g38)), (ma 39, .inl (y 3, 5, .inl g39)), (ma 50, .inl (y 0, 3200, .inl g50)), (ma 40, .inl (y 3, 3, .inl g40)), (ma 41, .inl (y 3, 3, .inl g41)), (ma 52, .inl (y 0, 1700, .inl u1355.2.2.2.2)), MB mo ma (nI t1) (nI u1364.1) (nI t3) u1328.2.1 u1364.2.1 u1364.2.2 i7 i8 i42 i49 (nI cd) (nI u1355.2.2.1) u1355.2.2.2.1 (nI bs) i61 i64 i66 (nI t67) i76 i78, (ma 0, .inl (y 0, 1600, .inl g0))]) rfl ?_
                      refine j_goto (pc := 138) C (tgt := 143) d_Model_onePart_138 (by decide) ?_
                      refine j_goto (pc := 143) C (tgt := 2) d_Model_onePart_143 (by decide) ?_
                      refine j_sub (ws' := [MB mo ma (nI t1) (nI u1364.1) (nI t3) u1328.2.1 u1364.2.1 u1364.2.2 i7 i8 i42 i49 (nI cd) (nI u1355.2.2.1) u1355.2.2.2.1 (nI bs) i61 i64 i66 (nI t67) i76 i78, (ma 0, .inl (y 0, 1600, .inl g0)), (ma 37, .inl (y 3, 3, .inl g37)), (ma 38, .inl (y 3, 5, .inl g38)), (ma 39, .inl (y 3, 5, .inl g39)), (ma 40, .inl (y 3, 3, .inl g40)), (ma 41, .inl (y 3, 3, .inl g41)), (ma 50, .inl (y 0, 3200, .inl g50)), (ma 52, .inl (y 0, 1700, .inl u1355.2.2.2.2))]) [7, 8, 0, 1, 2, 4, 5, 3, 6] rfl (by decide) ?_
                      refine j_locs (lv' := [(1, .int (nI mz)), (0, .ref mo)]) [3, 4] rfl ?_
                      have hz1 := bz_e c1050
                      have hz0 := bz_le u1364.2.1
                      have hz2 : bz1 u1364.2.1 = 0 ∨ az + 1 ≤ u1364.1 := by
                        by_cases e : u1364.2.1 = 0
                        · right; have f0 := xh1368 e; have g0 := f0.2; have f1 := xh1359 f0.1; omega
                        · exact Or.inl (bz_0 e)
                      have xh1369 : RS kq s0 f0 xx u1364.2.1 g50 u1355.2.2.2.2 cd u1355.2.2.1 (az + 1) := rs_mono xh1360 (fun e => by have e0 := (xh1368 e).1; exact e0)
                      exact ih1023 (mz, u1364.1, u1364.2.1, u1355.2.2.2.2, u1355.2.2.1, u1328.2.1, u1364.2.2, u1355.2.2.2.1) ⟨hmz_, xh1367, (show t2 ≤ u1364.1 by omega), (show RS kq s0 f0 xx u1364.2.1 g50 u1355.2.2.2.2 cd u1355.2.2.1 u1364.1 from (rs_at xh1369 (by omega))), xh1362, xh1363, (show bs ≤ u1355.2.2.1 by omega)⟩ (show 2 * (t3 - u1364.1) + bz1 u1364.2.1 + mz < 2 * (t3 - az) + bz1 bz + mz by omega)
                · have xh1370 : RS kq s0 f0 xx u1328.2.2.1 g50 zw cd zn (az - 1) := rs_bad1 (rs_at xh1051 (by omega)) c1333
                  refine j_aload_n (pc := 90) C d_Model_onePart_90 rfl 3 rfl ?_
                  refine j_callVi (pc := 91) C (c_M_look l D y mo ma t1 u1328.1 t3 u1328.2.1 u1328.2.2.1 u1328.2.2.2 i7 i8 i42 i49 (nI cd) (nI zn) z512 (nI bs) i61 i64 i66 t67 i76 i78 g0 xh1331 he) kw_Model_213 kv_Model_look 0 10 rfl rfl ⟨by decide, by decide⟩ ⟨by decide, by decide⟩ (wr := [(ma 37, .inl (y 3, 3, .inl g37)), (ma 38, .inl (y 3, 5, .inl g38)), (ma 39, .inl (y 3, 5, .inl g39)), (ma 50, .inl (y 0, 3200, .inl g50)), (ma 52, .inl (y 0, 1700, .inl zw)), (ma 40, .inl (y 3, 3, .inl g40)), (ma 41, .inl (y 3, 3, .inl g41))]) [6, 7] [0, 1, 2, 3, 4, 5, 8] rfl rfl (by decide) (by decide) (by decide) (As := []) (rest := []) rfl (nb rfl) rfl d_Model_onePart_91 (fun r1371 u1372 hr1371 => ?_)
                  refine j_ws (ws' := [(ma 37, .inl (y 3, 3, .inl g37)), (ma 38, .inl (y 3, 5, .inl g38)), (ma 39, .inl (y 3, 5, .inl g39)), (ma 50, .inl (y 0, 3200, .inl g50)), (ma 52, .inl (y 0, 1700, .inl zw)), (ma 40, .inl (y 3, 3, .inl g40)), (ma 41, .inl (y 3, 3, .inl g41)), MB mo ma (nI t1) (nI u1372) (nI t3) u1328.2.1 u1328.2.2.1 u1328.2.2.2 i7 i8 i42 i49 (nI cd) (nI zn) z512 (nI bs) i61 i64 i66 (nI t67) i76 i78, (ma 0, .inl (y 0, 1600, .inl g0))]) rfl ?_
                  obtain ⟨xh1373, xh1374, xh1375⟩ := hr1371
                  rcases xh1375 with rfl | ⟨xh1376, e1377⟩
                  · refine j_bipush (pc := 94) C (v := 40) d_Model_onePart_94 (by decide) ?_
                    refine j_icmp_neT (pc := 96) C (tgt := 106) d_Model_onePart_96 (by decide) (by decide) ?_
                    refine j_iconst (pc := 106) C (v := (-1)) d_Model_onePart_106 (by decide) ?_
                    refine j_istore (pc := 107) C (lv' := [(4, .int (-1)), (3, .int 0), (2, .int r1052), (1, .int (nI mz)), (0, .ref mo)]) d_Model_onePart_107 (by decide) rfl ?_
                    refine j_iload (pc := 109) C d_Model_onePart_109 0 rfl ?_
                    refine j_iconst (pc := 111) C (v := (-1)) d_Model_onePart_111 (by decide) ?_
                    refine j_icmp_eqT (pc := 112) C (tgt := 132) d_Model_onePart_112 (by decide) (by decide) ?_
                    refine j_aload_n (pc := 132) C d_Model_onePart_132 rfl 4 rfl ?_
                    refine j_bipush (pc := 133) C (v := 40) d_Model_onePart_133 (by decide) ?_
                    refine j_callVv (pc := 135) C (c_M_asksSign l D y mo ma t1 u1372 t3 u1328.2.1 u1328.2.2.1 u1328.2.2.2 i7 i8 i42 i49 (nI cd) (nI zn) z512 (nI bs) i61 i64 i66 t67 i76 i78 g0 40 xh1374 he (by decide)) kw_Model_271 kv_Model_asksSign 0 10 rfl rfl ⟨by decide, by decide⟩ ⟨by decide, by decide⟩ (wr := [(ma 37, .inl (y 3, 3, .inl g37)), (ma 38, .inl (y 3, 5, .inl g38)), (ma 39, .inl (y 3, 5, .inl g39)), (ma 50, .inl (y 0, 3200, .inl g50)), (ma 52, .inl (y 0, 1700, .inl zw)), (ma 40, .inl (y 3, 3, .inl g40)), (ma 41, .inl (y 3, 3, .inl g41))]) [7, 8] [0, 1, 2, 3, 4, 5, 6] rfl rfl (by decide) (by decide) (by decide) (As := [.int 40]) (rest := []) rfl (nb rfl) rfl d_Model_onePart_135 (fun u1378 hu1379 => ?_)
                    obtain ⟨xh1380, xh1381, xh1382⟩ := hu1379
                    refine j_ws (ws' := [(ma 37, .inl (y 3, 3, .inl g37)), (ma 38, .inl (y 3, 5, .inl g38)), (ma 39, .inl (y 3, 5, .inl g39)), (ma 50, .inl (y 0, 3200, .inl g50)), (ma 52, .inl (y 0, 1700, .inl zw)), (ma 40, .inl (y 3, 3, .inl g40)), (ma 41, .inl (y 3, 3, .inl g41)), MB mo ma (nI t1) (nI u1378.1) (nI t3) u1328.2.1 u1378.2.1 u1378.2.2 i7 i8 i42 i49 (nI cd) (nI zn) z512 (nI bs) i61 i64 i66 (nI t67) i76 i78, (ma 0, .inl (y 0, 1600, .inl g0))]) rfl ?_
                    refine j_goto (pc := 138) C (tgt := 143) d_Model_onePart_138 (by decide) ?_
                    refine j_goto (pc := 143) C (tgt := 2) d_Model_onePart_143 (by decide) ?_
                    refine j_sub (ws' := [MB mo ma (nI t1) (nI u1378.1) (nI t3) u1328.2.1 u1378.2.1 u1378.2.2 i7 i8 i42 i49 (nI cd) (nI zn) z512 (nI bs) i61 i64 i66 (nI t67) i76 i78, (ma 0, .inl (y 0, 1600, .inl g0)), (ma 37, .inl (y 3, 3, .inl g37)), (ma 38, .inl (y 3, 5, .inl g38)), (ma 39, .inl (y 3, 5, .inl g39)), (ma 40, .inl (y 3, 3, .inl g40)), (ma 41, .inl (y 3, 3, .inl g41)), (ma 50, .inl (y 0, 3200, .inl g50)), (ma 52, .inl (y 0, 1700, .inl zw))]) [7, 8, 0, 1, 2, 5, 6, 3, 4] rfl (by decide) ?_
                    refine j_locs (lv' := [(1, .int (nI mz)), (0, .ref mo)]) [3, 4] rfl ?_
                    have hz1 := bz_e c1050
                    have hz0 := bz_le u1378.2.1
                    have hz2 : bz1 u1378.2.1 = 0 ∨ az + 1 ≤ u1378.1 := by
                      by_cases e : u1378.2.1 = 0
                      · right; have f0 := xh1382 e; have g0 := f0.2; exact absurd f0.1 c1333
                      · exact Or.inl (bz_0 e)
                    have xh1383 : RS kq s0 f0 xx u1378.2.1 g50 zw cd zn (az - 1) := rs_mono xh1370 (fun e => by have e0 := (xh1382 e).1; exact e0)
                    exact ih1023 (mz, u1378.1, u1378.2.1, zw, zn, u1328.2.1, u1378.2.2, z512) ⟨hmz_, xh1381, (show t2 ≤ u1378.1 by omega), (show RS kq s0 f0 xx u1378.2.1 g50 zw cd zn u1378.1 from (rs_at xh1383 (by omega))), hT_, hS_, hb_⟩ (show 2 * (t3 - u1378.1) + bz1 u1378.2.1 + mz < 2 * (t3 - az) + bz1 bz + mz by omega)
                  · refine j_bipush (pc := 94) C (v := 40) d_Model_onePart_94 (by decide) ?_
                    refine j_icmp_ne (pc := 96) C (tgt := 106) d_Model_onePart_96 (by decide) (fun c1384 => ?_) (fun c1384 => ?_)
                    · refine j_iconst (pc := 106) C (v := (-1)) d_Model_onePart_106 (by decide) ?_
                      refine j_istore (pc := 107) C (lv' := [(4, .int (-1)), (3, .int 0), (2, .int r1052), (1, .int (nI mz)), (0, .ref mo)]) d_Model_onePart_107 (by decide) rfl ?_
                      refine j_iload (pc := 109) C d_Model_onePart_109 0 rfl ?_
                      refine j_iconst (pc := 111) C (v := (-1)) d_Model_onePart_111 (by decide) ?_
                      refine j_icmp_eqT (pc := 112) C (tgt := 132) d_Model_onePart_112 (by decide) (by decide) ?_
                      refine j_aload_n (pc := 132) C d_Model_onePart_132 rfl 4 rfl ?_
                      refine j_bipush (pc := 133) C (v := 40) d_Model_onePart_133 (by decide) ?_
                      refine j_callVv (pc := 135) C (c_M_asksSign l D y mo ma t1 u1372 t3 u1328.2.1 u1328.2.2.1 u1328.2.2.2 i7 i8 i42 i49 (nI cd) (nI zn) z512 (nI bs) i61 i64 i66 t67 i76 i78 g0 40 xh1374 he (by decide)) kw_Model_271 kv_Model_asksSign 0 10 rfl rfl ⟨by decide, by decide⟩ ⟨by decide, by decide⟩ (wr := [(ma 37, .inl (y 3, 3, .inl g37)), (ma 38, .inl (y 3, 5, .inl g38)), (ma 39, .inl (y 3, 5, .inl g39)), (ma 50, .inl (y 0, 3200, .inl g50)), (ma 52, .inl (y 0, 1700, .inl zw)), (ma 40, .inl (y 3, 3, .inl g40)), (ma 41, .inl (y 3, 3, .inl g41))]) [7, 8] [0, 1, 2, 3, 4, 5, 6] rfl rfl (by decide) (by decide) (by decide) (As := [.int 40]) (rest := []) rfl (nb rfl) rfl d_Model_onePart_135 (fun u1385 hu1386 => ?_)
                      obtain ⟨xh1387, xh1388, xh1389⟩ := hu1386
                      refine j_ws (ws' := [(ma 37, .inl (y 3, 3, .inl g37)), (ma 38, .inl (y 3, 5, .inl g38)), (ma 39, .inl (y 3, 5, .inl g39)), (ma 50, .inl (y 0, 3200, .inl g50)), (ma 52, .inl (y 0, 1700, .inl zw)), (ma 40, .inl (y 3, 3, .inl g40)), (ma 41, .inl (y 3, 3, .inl g41)), MB mo ma (nI t1) (nI u1385.1) (nI t3) u1328.2.1 u1385.2.1 u1385.2.2 i7 i8 i42 i49 (nI cd) (nI zn) z512 (nI bs) i61 i64 i66 (nI t67) i76 i78, (ma 0, .inl (y 0, 1600, .inl g0))]) rfl ?_
                      refine j_goto (pc := 138) C (tgt := 143) d_Model_onePart_138 (by decide) ?_
                      refine j_goto (pc := 143) C (tgt := 2) d_Model_onePart_143 (by decide) ?_
                      refine j_sub (ws' := [MB mo ma (nI t1) (nI u1385.1) (nI t3) u1328.2.1 u1385.2.1 u1385.2.2 i7 i8 i42 i49 (nI cd) (nI zn) z512 (nI bs) i61 i64 i66 (nI t67) i76 i78, (ma 0, .inl (y 0, 1600, .inl g0)), (ma 37, .inl (y 3, 3, .inl g37)), (ma 38, .inl (y 3, 5, .inl g38)), (ma 39, .inl (y 3, 5, .inl g39)), (ma 40, .inl (y 3, 3, .inl g40)), (ma 41, .inl (y 3, 3, .inl g41)), (ma 50, .inl (y 0, 3200, .inl g50)), (ma 52, .inl (y 0, 1700, .inl zw))]) [7, 8, 0, 1, 2, 5, 6, 3, 4] rfl (by decide) ?_
                      refine j_locs (lv' := [(1, .int (nI mz)), (0, .ref mo)]) [3, 4] rfl ?_
                      have hz1 := bz_e c1050
                      have hz0 := bz_le u1385.2.1
                      have hz2 : bz1 u1385.2.1 = 0 ∨ az + 1 ≤ u1385.1 := by
                        by_cases e : u1385.2.1 = 0
                        · right; have f0 := xh1389 e; have g0 := f0.2; exact absurd f0.1 c1333
                        · exact Or.inl (bz_0 e)
                      have xh1390 : RS kq s0 f0 xx u1385.2.1 g50 zw cd zn (az - 1) := rs_mono xh1370 (fun e => by have e0 := (xh1389 e).1; exact e0)
                      exact ih1023 (mz, u1385.1, u1385.2.1, zw, zn, u1328.2.1, u1385.2.2, z512) ⟨hmz_, xh1388, (show t2 ≤ u1385.1 by omega), (show RS kq s0 f0 xx u1385.2.1 g50 zw cd zn u1385.1 from (rs_at xh1390 (by omega))), hT_, hS_, hb_⟩ (show 2 * (t3 - u1385.1) + bz1 u1385.2.1 + mz < 2 * (t3 - az) + bz1 bz + mz by omega)
                    · refine j_aload_n (pc := 99) C d_Model_onePart_99 rfl 3 rfl ?_
                      refine j_get (pc := 100) C gf_Model_207 7 rfl rfl d_Model_onePart_100 ?_
                      refine j_goto (pc := 103) C (tgt := 107) d_Model_onePart_103 (by decide) ?_
                      refine j_istore (pc := 107) C (lv' := [(4, .int (nI u1372)), (3, .int 0), (2, .int r1052), (1, .int (nI mz)), (0, .ref mo)]) d_Model_onePart_107 (by decide) rfl ?_
                      refine j_iload (pc := 109) C d_Model_onePart_109 0 rfl ?_
                      refine j_iconst (pc := 111) C (v := (-1)) d_Model_onePart_111 (by decide) ?_
                      refine j_icmp_eqF (pc := 112) C (tgt := 132) d_Model_onePart_112 (by decide) (nI_nm1 (by omega)) ?_
                      refine j_aload_n (pc := 115) C d_Model_onePart_115 rfl 4 rfl ?_
                      refine j_iload_n (pc := 116) C d_Model_onePart_116 rfl 1 rfl ?_
                      refine j_if_eqT (pc := 117) C (tgt := 125) d_Model_onePart_117 (by decide) (by decide) ?_
                      refine j_bipush (pc := 125) C (v := 22) d_Model_onePart_125 (by decide) ?_
                      refine j_iload (pc := 127) C d_Model_onePart_127 0 rfl ?_
                      refine j_callVv (pc := 129) C (c_M_opens l D y mo ma t1 u1372 t3 u1328.2.1 u1328.2.2.1 u1328.2.2.2 i7 i8 i42 i49 cd zn z512 bs i61 i64 i66 t67 i76 i78 zw 22 (nI u1372) s0 xx kq f0 (az - 1) g50 (by decide) (by omega) xh1370 (by decide) hT_ hS_ hb_ hK) kw_Model_353 kv_Model_opens 0 10 rfl rfl ⟨by decide, by decide⟩ ⟨by decide, by decide⟩ (wr := [(ma 37, .inl (y 3, 3, .inl g37)), (ma 38, .inl (y 3, 5, .inl g38)), (ma 39, .inl (y 3, 5, .inl g39)), (ma 50, .inl (y 0, 3200, .inl g50)), (ma 40, .inl (y 3, 3, .inl g40)), (ma 41, .inl (y 3, 3, .inl g41)), (ma 0, .inl (y 0, 1600, .inl g0))]) [7, 4] [0, 1, 2, 3, 5, 6, 8] rfl rfl (by decide) (by decide) (by decide) (As := [.int 22, .int (nI u1372)]) (rest := []) rfl (nb rfl) rfl d_Model_onePart_129 (fun u1391 hu1392 => ?_)
                      obtain ⟨xh1393, xh1394, xh1395, xh1396, xh1397, xh1398, xh1399⟩ := hu1392
                      refine j_ws (ws' := [(ma 37, .inl (y 3, 3, .inl g37)), (ma 38, .inl (y 3, 5, .inl g38)), (ma 39, .inl (y 3, 5, .inl g39)), (ma 50, .inl (y 0, 3200, .inl g50)), (ma 40, .inl (y 3, 3, .inl g40)), (ma 41, .inl (y 3, 3, .inl g41)), (ma 0, .inl (y 0, 1600, .inl g0)), MB mo ma (nI t1) (nI u1372) (nI t3) u1328.2.1 u1391.1 u1391.2.1 i7 i8 i42 i49 (nI cd) (nI u1391.2.2.1) u1391.2.2.2.1 (nI bs) i61 i64 i66 (nI t67) i76 i78, (ma 52, .inl (y 0, 1700, .inl u1391.2.2.2.2))]) rfl ?_
                      refine j_aload_n (pc := 132) C d_Model_onePart_132 rfl 4 rfl ?_
                      refine j_bipush (pc := 133) C (v := 40) d_Model_onePart_133 (by decide) ?_
                      refine j_callVv (pc := 135) C (c_M_asksSign l D y mo ma t1 u1372 t3 u1328.2.1 u1391.1 u1391.2.1 i7 i8 i42 i49 (nI cd) (nI u1391.2.2.1) u1391.2.2.2.1 (nI bs) i61 i64 i66 t67 i76 i78 g0 40 xh1374 he (by decide)) kw_Model_271 kv_Model_asksSign 0 10 rfl rfl ⟨by decide, by decide⟩ ⟨by decide, by decide⟩ (wr := [(ma 37, .inl (y 3, 3, .inl g37)), (ma 38, .inl (y 3, 5, .inl g38)), (ma 39, .inl (y 3, 5, .inl g39)), (ma 50, .inl (y 0, 3200, .inl g50)), (ma 40, .inl (y 3, 3, .inl g40)), (ma 41, .inl (y 3, 3, .inl g41)), (ma 52, .inl (y 0, 1700, .inl u1391.2.2.2.2))]) [7, 6] [0, 1, 2, 3, 4, 5, 8] rfl rfl (by decide) (by decide) (by decide) (As := [.int 40]) (rest := []) rfl (nb rfl) rfl d_Model_onePart_135 (fun u1400 hu1401 => ?_)
                      obtain ⟨xh1402, xh1403, xh1404⟩ := hu1401
                      refine j_ws (ws' := [(ma 37, .inl (y 3, 3, .inl g37)), (ma 38, .inl (y 3, 5, .inl g38)), (ma 39, .inl (y 3, 5, .inl g39)), (ma 50, .inl (y 0, 3200, .inl g50)), (ma 40, .inl (y 3, 3, .inl g40)), (ma 41, .inl (y 3, 3, .inl g41)), (ma 52, .inl (y 0, 1700, .inl u1391.2.2.2.2)), MB mo ma (nI t1) (nI u1400.1) (nI t3) u1328.2.1 u1400.2.1 u1400.2.2 i7 i8 i42 i49 (nI cd) (nI u1391.2.2.1) u1391.2.2.2.1 (nI bs) i61 i64 i66 (nI t67) i76 i78, (ma 0, .inl (y 0, 1600, .inl g0))]) rfl ?_
                      refine j_goto (pc := 138) C (tgt := 143) d_Model_onePart_138 (by decide) ?_
                      refine j_goto (pc := 143) C (tgt := 2) d_Model_onePart_143 (by decide) ?_
                      refine j_sub (ws' := [MB mo ma (nI t1) (nI u1400.1) (nI t3) u1328.2.1 u1400.2.1 u1400.2.2 i7 i8 i42 i49 (nI cd) (nI u1391.2.2.1) u1391.2.2.2.1 (nI bs) i61 i64 i66 (nI t67) i76 i78, (ma 0, .inl (y 0, 1600, .inl g0)), (ma 37, .inl (y 3, 3, .inl g37)), (ma 38, .inl (y 3, 5, .inl g38)), (ma 39, .inl (y 3, 5, .inl g39)), (ma 40, .inl (y 3, 3, .inl g40)), (ma 41, .inl (y 3, 3, .inl g41)), (ma 50, .inl (y 0, 3200, .inl g50)), (ma 52, .inl (y 0, 1700, .inl u1391.2.2.2.2))]) [7, 8, 0, 1, 2, 4, 5, 3, 6] rfl (by decide) ?_
                      refine j_locs (lv' := [(1, .int (nI mz)), (0, .ref mo)]) [3, 4] rfl ?_
                      have hz1 := bz_e c1050
                      have hz0 := bz_le u1400.2.1
                      have hz2 : bz1 u1400.2.1 = 0 ∨ az + 1 ≤ u1400.1 := by
                        by_cases e : u1400.2.1 = 0
                        · right; have f0 := xh1404 e; have g0 := f0.2; have f1 := xh1395 f0.1; exact absurd f1 c1333
                        · exact Or.inl (bz_0 e)
                      have xh1405 : RS kq s0 f0 xx u1400.2.1 g50 u1391.2.2.2.2 cd u1391.2.2.1 ((az - 1) + 1) := rs_mono xh1396 (fun e => by have e0 := (xh1404 e).1; exact e0)
                      exact ih1023 (mz, u1400.1, u1400.2.1, u1391.2.2.2.2, u1391.2.2.1, u1328.2.1, u1400.2.2, u1391.2.2.2.1) ⟨hmz_, xh1403, (show t2 ≤ u1400.1 by omega), (show RS kq s0 f0 xx u1400.2.1 g50 u1391.2.2.2.2 cd u1391.2.2.1 u1400.1 from (rs_at xh1405 (by omega))), xh1398, xh1399, (show bs ≤ u1391.2.2.1 by omega)⟩ (show 2 * (t3 - u1400.1) + bz1 u1400.2.1 + mz < 2 * (t3 - az) + bz1 bz + mz by omega)
              · refine j_istore_n (pc := 77) C (lv' := [(3, .int 1), (2, .int r1052), (1, .int (nI mz)), (0, .ref mo)]) d_Model_onePart_77 rfl (by decide) rfl ?_
                refine j_iload_n (pc := 78) C d_Model_onePart_78 rfl 0 rfl ?_
                refine j_if_neT (pc := 79) C (tgt := 90) d_Model_onePart_79 (by decide) (by decide) ?_
                refine j_aload_n (pc := 90) C d_Model_onePart_90 rfl 3 rfl ?_
                refine j_callVi (pc := 91) C (c_M_look l D y mo ma t1 u1323.1 t3 u1323.2 0 z511 i7 i8 i42 i49 (nI cd) (nI zn) z512 (nI bs) i61 i64 i66 t67 i76 i78 g0 xh1325 he) kw_Model_213 kv_Model_look 0 10 rfl rfl ⟨by decide, by decide⟩ ⟨by decide, by decide⟩ (wr := [(ma 37, .inl (y 3, 3, .inl g37)), (ma 38, .inl (y 3, 5, .inl g38)), (ma 39, .inl (y 3, 5, .inl g39)), (ma 50, .inl (y 0, 3200, .inl g50)), (ma 52, .inl (y 0, 1700, .inl zw)), (ma 41, .inl (y 3, 3, .inl g41)), (ma 40, .inl (y 3, 3, .inl g40))]) [6, 7] [0, 1, 2, 3, 4, 5, 8] rfl rfl (by decide) (by decide) (by decide) (As := []) (rest := []) rfl (nb rfl) rfl d_Model_onePart_91 (fun r1406 u1407 hr1406 => ?_)
                refine j_ws (ws' := [(ma 37, .inl (y 3, 3, .inl g37)), (ma 38, .inl (y 3, 5, .inl g38)), (ma 39, .inl (y 3, 5, .inl g39)), (ma 50, .inl (y 0, 3200, .inl g50)), (ma 52, .inl (y 0, 1700, .inl zw)), (ma 41, .inl (y 3, 3, .inl g41)), (ma 40, .inl (y 3, 3, .inl g40)), MB mo ma (nI t1) (nI u1407) (nI t3) u1323.2 0 z511 i7 i8 i42 i49 (nI cd) (nI zn) z512 (nI bs) i61 i64 i66 (nI t67) i76 i78, (ma 0, .inl (y 0, 1600, .inl g0))]) rfl ?_
                obtain ⟨xh1408, xh1409, xh1410⟩ := hr1406
                rcases xh1410 with rfl | ⟨xh1411, e1412⟩
                · refine j_bipush (pc := 94) C (v := 40) d_Model_onePart_94 (by decide) ?_
                  refine j_icmp_neT (pc := 96) C (tgt := 106) d_Model_onePart_96 (by decide) (by decide) ?_
                  refine j_iconst (pc := 106) C (v := (-1)) d_Model_onePart_106 (by decide) ?_
                  refine j_istore (pc := 107) C (lv' := [(4, .int (-1)), (3, .int 1), (2, .int r1052), (1, .int (nI mz)), (0, .ref mo)]) d_Model_onePart_107 (by decide) rfl ?_
                  refine j_iload (pc := 109) C d_Model_onePart_109 0 rfl ?_
                  refine j_iconst (pc := 111) C (v := (-1)) d_Model_onePart_111 (by decide) ?_
                  refine j_icmp_eqT (pc := 112) C (tgt := 132) d_Model_onePart_112 (by decide) (by decide) ?_
                  refine j_aload_n (pc := 132) C d_Model_onePart_132 rfl 4 rfl ?_
                  refine j_bipush (pc := 133) C (v := 40) d_Model_onePart_133 (by decide) ?_
                  refine j_callVv (pc := 135) C (c_M_asksSign l D y mo ma t1 u1407 t3 u1323.2 0 z511 i7 i8 i42 i49 (nI cd) (nI zn) z512 (nI bs) i61 i64 i66 t67 i76 i78 g0 40 xh1409 he (by decide)) kw_Model_271 kv_Model_asksSign 0 10 rfl rfl ⟨by decide, by decide⟩ ⟨by decide, by decide⟩ (wr := [(ma 37, .inl (y 3, 3, .inl g37)), (ma 38, .inl (y 3, 5, .inl g38)), (ma 39, .inl (y 3, 5, .inl g39)), (ma 50, .inl (y 0, 3200, .inl g50)), (ma 52, .inl (y 0, 1700, .inl zw)), (ma 41, .inl (y 3, 3, .inl g41)), (ma 40, .inl (y 3, 3, .inl g40))]) [7, 8] [0, 1, 2, 3, 4, 5, 6] rfl rfl (by decide) (by decide) (by decide) (As := [.int 40]) (rest := []) rfl (nb rfl) rfl d_Model_onePart_135 (fun u1413 hu1414 => ?_)
                  obtain ⟨xh1415, xh1416, xh1417⟩ := hu1414
                  refine j_ws (ws' := [(ma 37, .inl (y 3, 3, .inl g37)), (ma 38, .inl (y 3, 5, .inl g38)), (ma 39, .inl (y 3, 5, .inl g39)), (ma 50, .inl (y 0, 3200, .inl g50)), (ma 52, .inl (y 0, 1700, .inl zw)), (ma 41, .inl (y 3, 3, .inl g41)), (ma 40, .inl (y 3, 3, .inl g40)), MB mo ma (nI t1) (nI u1413.1) (nI t3) u1323.2 u1413.2.1 u1413.2.2 i7 i8 i42 i49 (nI cd) (nI zn) z512 (nI bs) i61 i64 i66 (nI t67) i76 i78, (ma 0, .inl (y 0, 1600, .inl g0))]) rfl ?_
                  refine j_goto (pc := 138) C (tgt := 143) d_Model_onePart_138 (by decide) ?_
                  refine j_goto (pc := 143) C (tgt := 2) d_Model_onePart_143 (by decide) ?_
                  refine j_sub (ws' := [MB mo ma (nI t1) (nI u1413.1) (nI t3) u1323.2 u1413.2.1 u1413.2.2 i7 i8 i42 i49 (nI cd) (nI zn) z512 (nI bs) i61 i64 i66 (nI t67) i76 i78, (ma 0, .inl (y 0, 1600, .inl g0)), (ma 37, .inl (y 3, 3, .inl g37)), (ma 38, .inl (y 3, 5, .inl g38)), (ma 39, .inl (y 3, 5, .inl g39)), (ma 40, .inl (y 3, 3, .inl g40)), (ma 41, .inl (y 3, 3, .inl g41)), (ma 50, .inl (y 0, 3200, .inl g50)), (ma 52, .inl (y 0, 1700, .inl zw))]) [7, 8, 0, 1, 2, 6, 5, 3, 4] rfl (by decide) ?_
                  refine j_locs (lv' := [(1, .int (nI mz)), (0, .ref mo)]) [3, 4] rfl ?_
                  have hz1 := bz_e c1050
                  have hz0 := bz_le u1413.2.1
                  have hz2 : bz1 u1413.2.1 = 0 ∨ az + 1 ≤ u1413.1 := by
                    by_cases e : u1413.2.1 = 0
                    · right; have f0 := xh1417 e; have g0 := f0.2; omega
                    · exact Or.inl (bz_0 e)
                  have xh1418 : RS kq s0 f0 xx u1413.2.1 g50 zw cd zn az := rs_mono xh1051 (fun _ => rfl)
                  exact ih1023 (mz, u1413.1, u1413.2.1, zw, zn, u1323.2, u1413.2.2, z512) ⟨hmz_, xh1416, (show t2 ≤ u1413.1 by omega), (show RS kq s0 f0 xx u1413.2.1 g50 zw cd zn u1413.1 from (rs_at xh1418 (by omega))), hT_, hS_, hb_⟩ (show 2 * (t3 - u1413.1) + bz1 u1413.2.1 + mz < 2 * (t3 - az) + bz1 bz + mz by omega)
                · refine j_bipush (pc := 94) C (v := 40) d_Model_onePart_94 (by decide) ?_
                  refine j_icmp_ne (pc := 96) C (tgt := 106) d_Model_onePart_96 (by decide) (fun c1419 => ?_) (fun c1419 => ?_)
                  · refine j_iconst (pc := 106) C (v := (-1)) d_Model_onePart_106 (by decide) ?_
                    refine j_istore (pc := 107) C (lv' := [(4, .int (-1)), (3, .int 1), (2, .int r1052), (1, .int (nI mz)), (0, .ref mo)]) d_Model_onePart_107 (by decide) rfl ?_
                    refine j_iload (pc := 109) C d_Model_onePart_109 0 rfl ?_
                    refine j_iconst (pc := 111) C (v := (-1)) d_Model_onePart_111 (by decide) ?_
                    refine j_icmp_eqT (pc := 112) C (tgt := 132) d_Model_onePart_112 (by decide) (by decide) ?_
                    refine j_aload_n (pc := 132) C d_Model_onePart_132 rfl 4 rfl ?_
                    refine j_bipush (pc := 133) C (v := 40) d_Model_onePart_133 (by decide) ?_
                    refine j_callVv (pc := 135) C (c_M_asksSign l D y mo ma t1 u1407 t3 u1323.2 0 z511 i7 i8 i42 i49 (nI cd) (nI zn) z512 (nI bs) i61 i64 i66 t67 i76 i78 g0 40 xh1409 he (by decide)) kw_Model_271 kv_Model_asksSign 0 10 rfl rfl ⟨by decide, by decide⟩ ⟨by decide, by decide⟩ (wr := [(ma 37, .inl (y 3, 3, .inl g37)), (ma 38, .inl (y 3, 5, .inl g38)), (ma 39, .inl (y 3, 5, .inl g39)), (ma 50, .inl (y 0, 3200, .inl g50)), (ma 52, .inl (y 0, 1700, .inl zw)), (ma 41, .inl (y 3, 3, .inl g41)), (ma 40, .inl (y 3, 3, .inl g40))]) [7, 8] [0, 1, 2, 3, 4, 5, 6] rfl rfl (by decide) (by decide) (by decide) (As := [.int 40]) (rest := []) rfl (nb rfl) rfl d_Model_onePart_135 (fun u1420 hu1421 => ?_)
                    obtain ⟨xh1422, xh1423, xh1424⟩ := hu1421
                    refine j_ws (ws' := [(ma 37, .inl (y 3, 3, .inl g37)), (ma 38, .inl (y 3, 5, .inl g38)), (ma 39, .inl (y 3, 5, .inl g39)), (ma 50, .inl (y 0, 3200, .inl g50)), (ma 52, .inl (y 0, 1700, .inl zw)), (ma 41, .inl (y 3, 3, .inl g41)), (ma 40, .inl (y 3, 3, .inl g40)), MB mo ma (nI t1) (nI u1420.1) (nI t3) u1323.2 u1420.2.1 u1420.2.2 i7 i8 i42 i49 (nI cd) (nI zn) z512 (nI bs) i61 i64 i66 (nI t67) i76 i78, (ma 0, .inl (y 0, 1600, .inl g0))]) rfl ?_
                    refine j_goto (pc := 138) C (tgt := 143) d_Model_onePart_138 (by decide) ?_
                    refine j_goto (pc := 143) C (tgt := 2) d_Model_onePart_143 (by decide) ?_
                    refine j_sub (ws' := [MB mo ma (nI t1) (nI u1420.1) (nI t3) u1323.2 u1420.2.1 u1420.2.2 i7 i8 i42 i49 (nI cd) (nI zn) z512 (nI bs) i61 i64 i66 (nI t67) i76 i78, (ma 0, .inl (y 0, 1600, .inl g0)), (ma 37, .inl (y 3, 3, .inl g37)), (ma 38, .inl (y 3, 5, .inl g38)), (ma 39, .inl (y 3, 5, .inl g39)), (ma 40, .inl (y 3, 3, .inl g40)), (ma 41, .inl (y 3, 3, .inl g41)), (ma 50, .inl (y 0, 3200, .inl g50)), (ma 52, .inl (y 0, 1700, .inl zw))]) [7, 8, 0, 1, 2, 6, 5, 3, 4] rfl (by decide) ?_
                    refine j_locs (lv' := [(1, .int (nI mz)), (0, .ref mo)]) [3, 4] rfl ?_
                    have hz1 := bz_e c1050
                    have hz0 := bz_le u1420.2.1
                    have hz2 : bz1 u1420.2.1 = 0 ∨ az + 1 ≤ u1420.1 := by
                      by_cases e : u1420.2.1 = 0
                      · right; have f0 := xh1424 e; have g0 := f0.2; omega
                      · exact Or.inl (bz_0 e)
                    have xh1425 : RS kq s0 f0 xx u1420.2.1 g50 zw cd zn az := rs_mono xh1051 (fun _ => rfl)
                    exact ih1023 (mz, u1420.1, u1420.2.1, zw, zn, u1323.2, u1420.2.2, z512) ⟨hmz_, xh1423, (show t2 ≤ u1420.1 by omega), (show RS kq s0 f0 xx u1420.2.1 g50 zw cd zn u1420.1 from (rs_at xh1425 (by omega))), hT_, hS_, hb_⟩ (show 2 * (t3 - u1420.1) + bz1 u1420.2.1 + mz < 2 * (t3 - az) + bz1 bz + mz by omega)
                  · refine j_aload_n (pc := 99) C d_Model_onePart_99 rfl 3 rfl ?_
                    refine j_get (pc := 100) C gf_Model_207 7 rfl rfl d_Model_onePart_100 ?_
                    refine j_goto (pc := 103) C (tgt := 107) d_Model_onePart_103 (by decide) ?_
                    refine j_istore (pc := 107) C (lv' := [(4, .int (nI u1407)), (3, .int 1), (2, .int r1052), (1, .int (nI mz)), (0, .ref mo)]) d_Model_onePart_107 (by decide) rfl ?_
                    refine j_iload (pc := 109) C d_Model_onePart_109 0 rfl ?_
                    refine j_iconst (pc := 111) C (v := (-1)) d_Model_onePart_111 (by decide) ?_
                    refine j_icmp_eqF (pc := 112) C (tgt := 132) d_Model_onePart_112 (by decide) (nI_nm1 (by omega)) ?_
                    refine j_aload_n (pc := 115) C d_Model_onePart_115 rfl 4 rfl ?_
                    refine j_iload_n (pc := 116) C d_Model_onePart_116 rfl 1 rfl ?_
                    refine j_if_eqF (pc := 117) C (tgt := 125) d_Model_onePart_117 (by decide) (by decide) ?_
                    refine j_bipush (pc := 120) C (v := 21) d_Model_onePart_120 (by decide) ?_
                    refine j_goto (pc := 122) C (tgt := 127) d_Model_onePart_122 (by decide) ?_
                    refine j_iload (pc := 127) C d_Model_onePart_127 0 rfl ?_
                    refine j_callVv (pc := 129) C (c_M_opens l D y mo ma t1 u1407 t3 u1323.2 0 z511 i7 i8 i42 i49 cd zn z512 bs i61 i64 i66 t67 i76 i78 zw 21 (nI u1407) s0 xx kq f0 az g50 (by decide) (by omega) xh1051 (by decide) hT_ hS_ hb_ hK) kw_Model_353 kv_Model_opens 0 10 rfl rfl ⟨by decide, by decide⟩ ⟨by decide, by decide⟩ (wr := [(ma 37, .inl (y 3, 3, .inl g37)), (ma 38, .inl (y 3, 5, .inl g38)), (ma 39, .inl (y 3, 5, .inl g39)), (ma 50, .inl (y 0, 3200, .inl g50)), (ma 41, .inl (y 3, 3, .inl g41)), (ma 40, .inl (y 3, 3, .inl g40)), (ma 0, .inl (y 0, 1600, .inl g0))]) [7, 4] [0, 1, 2, 3, 5, 6, 8] rfl rfl (by decide) (by decide) (by decide) (As := [.int 21, .int (nI u1407)]) (rest := []) rfl (nb rfl) rfl d_Model_onePart_129 (fun u1426 hu1427 => ?_)
                    obtain ⟨xh1428, xh1429, xh1430, xh1431, xh1432, xh1433, xh1434⟩ := hu1427
                    refine j_ws (ws' := [(ma 37, .inl (y 3, 3, .inl g37)), (ma 38, .inl (y 3, 5, .inl g38)), (ma 39, .inl (y 3, 5, .inl g39)), (ma 50, .inl (y 0, 3200, .inl g50)), (ma 41, .inl (y 3, 3, .inl g41)), (ma 40, .inl (y 3, 3, .inl g40)), (ma 0, .inl (y 0, 1600, .inl g0)), MB mo ma (nI t1) (nI u1407) (nI t3) u1323.2 u1426.1 u1426.2.1 i7 i8 i42 i49 (nI cd) (nI u1426.2.2.1) u1426.2.2.2.1 (nI bs) i61 i64 i66 (nI t67) i76 i78, (ma 52, .inl (y 0, 1700, .inl u1426.2.2.2.2))]) rfl ?_
                    refine j_aload_n (pc := 132) C d_Model_onePart_132 rfl 4 rfl ?_
                    refine j_bipush (pc := 133) C (v := 40) d_Model_onePart_133 (by decide) ?_
                    refine j_callVv (pc := 135) C (c_M_asksSign l D y mo ma t1 u1407 t3 u1323.2 u1426.1 u1426.2.1 i7 i8 i42 i49 (nI cd) (nI u1426.2.2.1) u1426.2.2.2.1 (nI bs) i61 i64 i66 t67 i76 i78 g0 40 xh1409 he (by decide)) kw_Model_271 kv_Model_asksSign 0 10 rfl rfl ⟨by decide, by decide⟩ ⟨by decide, by decide⟩ (wr := [(ma 37, .inl (y 3, 3, .inl g37)), (ma 38, .inl (y 3, 5, .inl g38)), (ma 39, .inl (y 3, 5, .inl g39)), (ma 50, .inl (y 0, 3200, .inl g50)), (ma 41, .inl (y 3, 3, .inl g41)), (ma 40, .inl (y 3, 3, .inl g40)), (ma 52, .inl (y 0, 1700, .inl u1426.2.2.2.2))]) [7, 6] [0, 1, 2, 3, 4, 5, 8] rfl rfl (by decide) (by decide) (by decide) (As := [.int 40]) (rest := []) rfl (nb rfl) rfl d_Model_onePart_135 (fun u1435 hu1436 => ?_)
                    obtain ⟨xh1437, xh1438, xh1439⟩ := hu1436
                    refine j_ws (ws' := [(ma 37, .inl (y 3, 3, .inl g37)), (ma 38, .inl (y 3, 5, .inl g38)), (ma 39, .inl (y 3, 5, .inl g39)), (ma 50, .inl (y 0, 3200, .inl g50)), (ma 41, .inl (y 3, 3, .inl g41)), (ma 40, .inl (y 3, 3, .inl g40)), (ma 52, .inl (y 0, 1700, .inl u1426.2.2.2.2)), MB mo ma (nI t1) (nI u1435.1) (nI t3) u1323.2 u1435.2.1 u1435.2.2 i7 i8 i42 i49 (nI cd) (nI u1426.2.2.1) u1426.2.2.2.1 (nI bs) i61 i64 i66 (nI t67) i76 i78, (ma 0, .inl (y 0, 1600, .inl g0))]) rfl ?_
                    refine j_goto (pc := 138) C (tgt := 143) d_Model_onePart_138 (by decide) ?_
                    refine j_goto (pc := 143) C (tgt := 2) d_Model_onePart_143 (by decide) ?_
                    refine j_sub (ws' := [MB mo ma (nI t1) (nI u1435.1) (nI t3) u1323.2 u1435.2.1 u1435.2.2 i7 i8 i42 i49 (nI cd) (nI u1426.2.2.1) u1426.2.2.2.1 (nI bs) i61 i64 i66 (nI t67) i76 i78, (ma 0, .inl (y 0, 1600, .inl g0)), (ma 37, .inl (y 3, 3, .inl g37)), (ma 38, .inl (y 3, 5, .inl g38)), (ma 39, .inl (y 3, 5, .inl g39)), (ma 40, .inl (y 3, 3, .inl g40)), (ma 41, .inl (y 3, 3, .inl g41)), (ma 50, .inl (y 0, 3200, .inl g50)), (ma 52, .inl (y 0, 1700, .inl u1426.2.2.2.2))]) [7, 8, 0, 1, 2, 5, 4, 3, 6] rfl (by decide) ?_
                    refine j_locs (lv' := [(1, .int (nI mz)), (0, .ref mo)]) [3, 4] rfl ?_
                    have hz1 := bz_e c1050
                    have hz0 := bz_le u1435.2.1
                    have hz2 : bz1 u1435.2.1 = 0 ∨ az + 1 ≤ u1435.1 := by
                      by_cases e : u1435.2.1 = 0
                      · right; have f0 := xh1439 e; have g0 := f0.2; have f1 := xh1430 f0.1; omega
                      · exact Or.inl (bz_0 e)
                    have xh1440 : RS kq s0 f0 xx u1435.2.1 g50 u1426.2.2.2.2 cd u1426.2.2.1 (az + 1) := rs_mono xh1431 (fun e => by have e0 := (xh1439 e).1; exact e0)
                    exact ih1023 (mz, u1435.1, u1435.2.1, u1426.2.2.2.2, u1426.2.2.1, u1323.2, u1435.2.2, u1426.2.2.2.1) ⟨hmz_, xh1438, (show t2 ≤ u1435.1 by omega), (show RS kq s0 f0 xx u1435.2.1 g50 u1426.2.2.2.2 cd u1426.2.2.1 u1435.1 from (rs_at xh1440 (by omega))), xh1433, xh1434, (show bs ≤ u1426.2.2.1 by omega)⟩ (show 2 * (t3 - u1435.1) + bz1 u1435.2.1 + mz < 2 * (t3 - az) + bz1 bz + mz by omega)
          · refine j_if_neT (pc := 55) C (tgt := 69) d_Model_onePart_55 (by decide) (by decide) ?_
            refine j_aload_n (pc := 69) C d_Model_onePart_69 rfl 2 rfl ?_
            refine j_aload_n (pc := 70) C d_Model_onePart_70 rfl 2 rfl ?_
            refine j_get (pc := 71) C gf_Model_111 6 rfl rfl d_Model_onePart_71 ?_
            refine j_callVi (pc := 74) C (c_M_takes_3 l D y mo (ma 40) ma t1 u1311 t3 z510 0 z511 i7 i8 i42 i49 (nI cd) (nI zn) z512 (nI bs) i61 i64 i66 t67 i76 i78 g0 g40 xh1313 he) kw_Model_228 kv_Model_takes 0 10 rfl rfl ⟨by decide, by decide⟩ ⟨by decide, by decide⟩ (wr := [(ma 37, .inl (y 3, 3, .inl g37)), (ma 38, .inl (y 3, 5, .inl g38)), (ma 39, .inl (y 3, 5, .inl g39)), (ma 41, .inl (y 3, 3, .inl g41)), (ma 50, .inl (y 0, 3200, .inl g50)), (ma 52, .inl (y 0, 1700, .inl zw))]) [6, 7, 8] [0, 1, 2, 3, 4, 5] rfl rfl (by decide) (by decide) (by decide) (As := [.ref (ma 40)]) (rest := []) rfl (nb rfl) rfl d_Model_onePart_74 (fun r1441 u1442 hr1441 => ?_)
            refine j_ws (ws' := [(ma 37, .inl (y 3, 3, .inl g37)), (ma 38, .inl (y 3, 5, .inl g38)), (ma 39, .inl (y 3, 5, .inl g39)), (ma 41, .inl (y 3, 3, .inl g41)), (ma 50, .inl (y 0, 3200, .inl g50)), (ma 52, .inl (y 0, 1700, .inl zw)), MB mo ma (nI t1) (nI u1442.1) (nI t3) u1442.2 0 z511 i7 i8 i42 i49 (nI cd) (nI zn) z512 (nI bs) i61 i64 i66 (nI t67) i76 i78, (ma 0, .inl (y 0, 1600, .inl g0)), (ma 40, .inl (y 3, 3, .inl g40))]) rfl ?_
            obtain ⟨xh1443, xh1444, xh1445⟩ := hr1441
            rcases xh1445 with rfl | ⟨rfl, xh1446⟩
            · refine j_istore_n (pc := 77) C (lv' := [(3, .int 0), (2, .int r1052), (1, .int (nI mz)), (0, .ref mo)]) d_Model_onePart_77 rfl (by decide) rfl ?_
              refine j_iload_n (pc := 78) C d_Model_onePart_78 rfl 0 rfl ?_
              refine j_if_neF (pc := 79) C (tgt := 90) d_Model_onePart_79 (by decide) (by decide) ?_
              refine j_aload_n (pc := 82) C d_Model_onePart_82 rfl 3 rfl ?_
              refine j_aload_n (pc := 83) C d_Model_onePart_83 rfl 3 rfl ?_
              refine j_get (pc := 84) C gf_Model_114 6 rfl rfl d_Model_onePart_84 ?_
              refine j_callVv (pc := 87) C (c_M_asks_3 l D y mo (ma 41) ma t1 u1442.1 t3 u1442.2 0 z511 i7 i8 i42 i49 (nI cd) (nI zn) z512 (nI bs) i61 i64 i66 t67 i76 i78 g0 g41 xh1444 he) kw_Model_263 kv_Model_asks 0 10 rfl rfl ⟨by decide, by decide⟩ ⟨by decide, by decide⟩ (wr := [(ma 37, .inl (y 3, 3, .inl g37)), (ma 38, .inl (y 3, 5, .inl g38)), (ma 39, .inl (y 3, 5, .inl g39)), (ma 50, .inl (y 0, 3200, .inl g50)), (ma 52, .inl (y 0, 1700, .inl zw)), (ma 40, .inl (y 3, 3, .inl g40))]) [6, 7, 3] [0, 1, 2, 4, 5, 8] rfl rfl (by decide) (by decide) (by decide) (As := [.ref (ma 41)]) (rest := []) rfl (nb rfl) rfl d_Model_onePart_87 (fun u1447 hu1448 => ?_)
              obtain ⟨xh1449, xh1450, xh1451⟩ := hu1448
              refine j_ws (ws' := [(ma 37, .inl (y 3, 3, .inl g37)), (ma 38, .inl (y 3, 5, .inl g38)), (ma 39, .inl (y 3, 5, .inl g39)), (ma 50, .inl (y 0, 3200, .inl g50)), (ma 52, .inl (y 0, 1700, .inl zw)), (ma 40, .inl (y 3, 3, .inl g40)), MB mo ma (nI t1) (nI u1447.1) (nI t3) u1447.2.1 u1447.2.2.1 u1447.2.2.2 i7 i8 i42 i49 (nI cd) (nI zn) z512 (nI bs) i61 i64 i66 (nI t67) i76 i78, (ma 0, .inl (y 0, 1600, .inl g0)), (ma 41, .inl (y 3, 3, .inl g41))]) rfl ?_
              by_cases c1452 : u1447.2.2.1 = 0
              · have hpg := (xh1451 c1452).2
                have xh1453 : RS kq s0 f0 xx u1447.2.2.1 g50 zw cd zn az := rs_mono xh1051 (fun _ => rfl)
                refine j_ws (ws' := [(ma 37, .inl (y 3, 3, .inl g37)), (ma 38, .inl (y 3, 5, .inl g38)), (ma 39, .inl (y 3, 5, .inl g39)), (ma 50, .inl (y 0, 3200, .inl g50)), (ma 52, .inl (y 0, 1700, .inl zw)), (ma 40, .inl (y 3, 3, .inl g40)), MB mo ma (nI t1) (nI u1447.1) (nI t3) u1447.2.1 0 u1447.2.2.2 i7 i8 i42 i49 (nI cd) (nI zn) z512 (nI bs) i61 i64 i66 (nI t67) i76 i78, (ma 0, .inl (y 0, 1600, .inl g0)), (ma 41, .inl (y 3, 3, .inl g41))]) (by rw [c1452]) ?_
                refine j_aload_n (pc := 90) C d_Model_onePart_90 rfl 3 rfl ?_
                refine j_callVi (pc := 91) C (c_M_look l D y mo ma t1 u1447.1 t3 u1447.2.1 0 u1447.2.2.2 i7 i8 i42 i49 (nI cd) (nI zn) z512 (nI bs) i61 i64 i66 t67 i76 i78 g0 xh1450 he) kw_Model_213 kv_Model_look 0 10 rfl rfl ⟨by decide, by decide⟩ ⟨by decide, by decide⟩ (wr := [(ma 37, .inl (y 3, 3, .inl g37)), (ma 38, .inl (y 3, 5, .inl g38)), (ma 39, .inl (y 3, 5, .inl g39)), (ma 50, .inl (y 0, 3200, .inl g50)), (ma 52, .inl (y 0, 1700, .inl zw)), (ma 40, .inl (y 3, 3, .inl g40)), (ma 41, .inl (y 3, 3, .inl g41))]) [6, 7] [0, 1, 2, 3, 4, 5, 8] rfl rfl (by decide) (by decide) (by decide) (As := []) (rest := []) rfl (nb rfl) rfl d_Model_onePart_91 (fun r1454 u1455 hr1454 => ?_)
                refine j_ws (ws' := [(ma 37, .inl (y 3, 3, .inl g37)), (ma 38, .inl (y 3, 5, .inl g38)), (ma 39, .inl (y 3, 5, .inl g39)), (ma 50, .inl (y 0, 3200, .inl g50)), (ma 52, .inl (y 0, 1700, .inl zw)), (ma 40, .inl (y 3, 3, .inl g40)), (ma 41, .inl (y 3, 3, .inl g41)), MB mo ma (nI t1) (nI u1455) (nI t3) u1447.2.1 0 u1447.2.2.2 i7 i8 i42 i49 (nI cd) (nI zn) z512 (nI bs) i61 i64 i66 (nI t67) i76 i78, (ma 0, .inl (y 0, 1600, .inl g0))]) rfl ?_
                obtain ⟨xh1456, xh1457, xh1458⟩ := hr1454
                rcases xh1458 with rfl | ⟨xh1459, e1460⟩
                · refine j_bipush (pc := 94) C (v := 40) d_Model_onePart_94 (by decide) ?_
                  refine j_icmp_neT (pc := 96) C (tgt := 106) d_Model_onePart_96 (by decide) (by decide) ?_
                  refine j_iconst (pc := 106) C (v := (-1)) d_Model_onePart_106 (by decide) ?_
                  refine j_istore (pc := 107) C (lv' := [(4, .int (-1)), (3, .int 0), (2, .int r1052), (1, .int (nI mz)), (0, .ref mo)]) d_Model_onePart_107 (by decide) rfl ?_
                  refine j_iload (pc := 109) C d_Model_onePart_109 0 rfl ?_
                  refine j_iconst (pc := 111) C (v := (-1)) d_Model_onePart_111 (by decide) ?_
                  refine j_icmp_eqT (pc := 112) C (tgt := 132) d_Model_onePart_112 (by decide) (by decide) ?_
                  refine j_aload_n (pc := 132) C d_Model_onePart_132 rfl 4 rfl ?_
                  refine j_bipush (pc := 133) C (v := 40) d_Model_onePart_133 (by decide) ?_
                  refine j_callVv (pc := 135) C (c_M_asksSign l D y mo ma t1 u1455 t3 u1447.2.1 0 u1447.2.2.2 i7 i8 i42 i49 (nI cd) (nI zn) z512 (nI bs) i61 i64 i66 t67 i76 i78 g0 40 xh1457 he (by decide)) kw_Model_271 kv_Model_asksSign 0 10 rfl rfl ⟨by decide, by decide⟩ ⟨by decide, by decide⟩ (wr := [(ma 37, .inl (y 3, 3, .inl g37)), (ma 38, .inl (y 3, 5, .inl g38)), (ma 39, .inl (y 3, 5, .inl g39)), (ma 50, .inl (y 0, 3200, .inl g50)), (ma 52, .inl (y 0, 1700, .inl zw)), (ma 40, .inl (y 3, 3, .inl g40)), (ma 41, .inl (y 3, 3, .inl g41))]) [7, 8] [0, 1, 2, 3, 4, 5, 6] rfl rfl (by decide) (by decide) (by decide) (As := [.int 40]) (rest := []) rfl (nb rfl) rfl d_Model_onePart_135 (fun u1461 hu1462 => ?_)
                  obtain ⟨xh1463, xh1464, xh1465⟩ := hu1462
                  refine j_ws (ws' := [(ma 37, .inl (y 3, 3, .inl g37)), (ma 38, .inl (y 3, 5, .inl g38)), (ma 39, .inl (y 3, 5, .inl g39)), (ma 50, .inl (y 0, 3200, .inl g50)), (ma 52, .inl (y 0, 1700, .inl zw)), (ma 40, .inl (y 3, 3, .inl g40)), (ma 41, .inl (y 3, 3, .inl g41)), MB mo ma (nI t1) (nI u1461.1) (nI t3) u1447.2.1 u1461.2.1 u1461.2.2 i7 i8 i42 i49 (nI cd) (nI zn) z512 (nI bs) i61 i64 i66 (nI t67) i76 i78, (ma 0, .inl (y 0, 1600, .inl g0))]) rfl ?_
                  refine j_goto (pc := 138) C (tgt := 143) d_Model_onePart_138 (by decide) ?_
                  refine j_goto (pc := 143) C (tgt := 2) d_Model_onePart_143 (by decide) ?_
                  refine j_sub (ws' := [MB mo ma (nI t1) (nI u1461.1) (nI t3) u1447.2.1 u1461.2.1 u1461.2.2 i7 i8 i42 i49 (nI cd) (nI zn) z512 (nI bs) i61 i64 i66 (nI t67) i76 i78, (ma 0, .inl (y 0, 1600, .inl g0)), (ma 37, .inl (y 3, 3, .inl g37)), (ma 38, .inl (y 3, 5, .inl g38)), (ma 39, .inl (y 3, 5, .inl g39)), (ma 40, .inl (y 3, 3, .inl g40)), (ma 41, .inl (y 3, 3, .inl g41)), (ma 50, .inl (y 0, 3200, .inl g50)), (ma 52, .inl (y 0, 1700, .inl zw))]) [7, 8, 0, 1, 2, 5, 6, 3, 4] rfl (by decide) ?_
                  refine j_locs (lv' := [(1, .int (nI mz)), (0, .ref mo)]) [3, 4] rfl ?_
                  have hz1 := bz_e c1050
                  have hz0 := bz_le u1461.2.1
                  have hz2 : bz1 u1461.2.1 = 0 ∨ az + 1 ≤ u1461.1 := by
                    by_cases e : u1461.2.1 = 0
                    · right; have f0 := xh1465 e; have g0 := f0.2; omega
                    · exact Or.inl (bz_0 e)
                  have xh1466 : RS kq s0 f0 xx u1461.2.1 g50 zw cd zn az := rs_mono xh1051 (fun _ => rfl)
                  exact ih1023 (mz, u1461.1, u1461.2.1, zw, zn, u1447.2.1, u1461.2.2, z512) ⟨hmz_, xh1464, (show t2 ≤ u1461.1 by omega), (show RS kq s0 f0 xx u1461.2.1 g50 zw cd zn u1461.1 from (rs_at xh1466 (by omega))), hT_, hS_, hb_⟩ (show 2 * (t3 - u1461.1) + bz1 u1461.2.1 + mz < 2 * (t3 - az) + bz1 bz + mz by omega)
                · refine j_bipush (pc := 94) C (v := 40) d_Model_onePart_94 (by decide) ?_
                  refine j_icmp_ne (pc := 96) C (tgt := 106) d_Model_onePart_96 (by decide) (fun c1467 => ?_) (fun c1467 => ?_)
                  · refine j_iconst (pc := 106) C (v := (-1)) d_Model_onePart_106 (by decide) ?_
                    refine j_istore (pc := 107) C (lv' := [(4, .int (-1)), (3, .int 0), (2, .int r1052), (1, .int (nI mz)), (0, .ref mo)]) d_Model_onePart_107 (by decide) rfl ?_
                    refine j_iload (pc := 109) C d_Model_onePart_109 0 rfl ?_
                    refine j_iconst (pc := 111) C (v := (-1)) d_Model_onePart_111 (by decide) ?_
                    refine j_icmp_eqT (pc := 112) C (tgt := 132) d_Model_onePart_112 (by decide) (by decide) ?_
                    refine j_aload_n (pc := 132) C d_Model_onePart_132 rfl 4 rfl ?_
                    refine j_bipush (pc := 133) C (v := 40) d_Model_onePart_133 (by decide) ?_
                    refine j_callVv (pc := 135) C (c_M_asksSign l D y mo ma t1 u1455 t3 u1447.2.1 0 u1447.2.2.2 i7 i8 i42 i49 (nI cd) (nI zn) z512 (nI bs) i61 i64 i66 t67 i76 i78 g0 40 xh1457 he (by decide)) kw_Model_271 kv_Model_asksSign 0 10 rfl rfl ⟨by decide, by decide⟩ ⟨by decide, by decide⟩ (wr := [(ma 37, .inl (y 3, 3, .inl g37)), (ma 38, .inl (y 3, 5, .inl g38)), (ma 39, .inl (y 3, 5, .inl g39)), (ma 50, .inl (y 0, 3200, .inl g50)), (ma 52, .inl (y 0, 1700, .inl zw)), (ma 40, .inl (y 3, 3, .inl g40)), (ma 41, .inl (y 3, 3, .inl g41))]) [7, 8] [0, 1, 2, 3, 4, 5, 6] rfl rfl (by decide) (by decide) (by decide) (As := [.int 40]) (rest := []) rfl (nb rfl) rfl d_Model_onePart_135 (fun u1468 hu1469 => ?_)
                    obtain ⟨xh1470, xh1471, xh1472⟩ := hu1469
                    refine j_ws (ws' := [(ma 37, .inl (y 3, 3, .inl g37)), (ma 38, .inl (y 3, 5, .inl g38)), (ma 39, .inl (y 3, 5, .inl g39)), (ma 50, .inl (y 0, 3200, .inl g50)), (ma 52, .inl (y 0, 1700, .inl zw)), (ma 40, .inl (y 3, 3, .inl g40)), (ma 41, .inl (y 3, 3, .inl g41)), MB mo ma (nI t1) (nI u1468.1) (nI t3) u1447.2.1 u1468.2.1 u1468.2.2 i7 i8 i42 i49 (nI cd) (nI zn) z512 (nI bs) i61 i64 i66 (nI t67) i76 i78, (ma 0, .inl (y 0, 1600, .inl g0))]) rfl ?_
                    refine j_goto (pc := 138) C (tgt := 143) d_Model_onePart_138 (by decide) ?_
                    refine j_goto (pc := 143) C (tgt := 2) d_Model_onePart_143 (by decide) ?_
                    refine j_sub (ws' := [MB mo ma (nI t1) (nI u1468.1) (nI t3) u1447.2.1 u1468.2.1 u1468.2.2 i7 i8 i42 i49 (nI cd) (nI zn) z512 (nI bs) i61 i64 i66 (nI t67) i76 i78, (ma 0, .inl (y 0, 1600, .inl g0)), (ma 37, .inl (y 3, 3, .inl g37)), (ma 38, .inl (y 3, 5, .inl g38)), (ma 39, .inl (y 3, 5, .inl g39)), (ma 40, .inl (y 3, 3, .inl g40)), (ma 41, .inl (y 3, 3, .inl g41)), (ma 50, .inl (y 0, 3200, .inl g50)), (ma 52, .inl (y 0, 1700, .inl zw))]) [7, 8, 0, 1, 2, 5, 6, 3, 4] rfl (by decide) ?_
                    refine j_locs (lv' := [(1, .int (nI mz)), (0, .ref mo)]) [3, 4] rfl ?_
                    have hz1 := bz_e c1050
                    have hz0 := bz_le u1468.2.1
                    have hz2 : bz1 u1468.2.1 = 0 ∨ az + 1 ≤ u1468.1 := by
                      by_cases e : u1468.2.1 = 0
                      · right; have f0 := xh1472 e; have g0 := f0.2; omega
                      · exact Or.inl (bz_0 e)
                    have xh1473 : RS kq s0 f0 xx u1468.2.1 g50 zw cd zn az := rs_mono xh1051 (fun _ => rfl)
                    exact ih1023 (mz, u1468.1, u1468.2.1, zw, zn, u1447.2.1, u1468.2.2, z512) ⟨hmz_, xh1471, (show t2 ≤ u1468.1 by omega), (show RS kq s0 f0 xx u1468.2.1 g50 zw cd zn u1468.1 from (rs_at xh1473 (by omega))), hT_, hS_, hb_⟩ (show 2 * (t3 - u1468.1) + bz1 u1468.2.1 + mz < 2 * (t3 - az) + bz1 bz + mz by omega)
                  · refine j_aload_n (pc := 99) C d_Model_onePart_99 rfl 3 rfl ?_
                    refine j_get (pc := 100) C gf_Model_207 7 rfl rfl d_Model_onePart_100 ?_
                    refine j_goto (pc := 103) C (tgt := 107) d_Model_onePart_103 (by decide) ?_
                    refine j_istore (pc := 107) C (lv' := [(4, .int (nI u1455)), (3, .int 0), (2, .int r1052), (1, .int (nI mz)), (0, .ref mo)]) d_Model_onePart_107 (by decide) rfl ?_
                    refine j_iload (pc := 109) C d_Model_onePart_109 0 rfl ?_
                    refine j_iconst (pc := 111) C (v := (-1)) d_Model_onePart_111 (by decide) ?_
                    refine j_icmp_eqF (pc := 112) C (tgt := 132) d_Model_onePart_112 (by decide) (nI_nm1 (by omega)) ?_
                    refine j_aload_n (pc := 115) C d_Model_onePart_115 rfl 4 rfl ?_
                    refine j_iload_n (pc := 116) C d_Model_onePart_116 rfl 1 rfl ?_
                    refine j_if_eqT (pc := 117) C (tgt := 125) d_Model_onePart_117 (by decide) (by decide) ?_
                    refine j_bipush (pc := 125) C (v := 22) d_Model_onePart_125 (by decide) ?_
                    refine j_iload (pc := 127) C d_Model_onePart_127 0 rfl ?_
                    refine j_callVv (pc := 129) C (c_M_opens l D y mo ma t1 u1455 t3 u1447.2.1 0 u1447.2.2.2 i7 i8 i42 i49 cd zn z512 bs i61 i64 i66 t67 i76 i78 zw 22 (nI u1455) s0 xx kq f0 az g50 (by decide) (by omega) xh1051 (by decide) hT_ hS_ hb_ hK) kw_Model_353 kv_Model_opens 0 10 rfl rfl ⟨by decide, by decide⟩ ⟨by decide, by decide⟩ (wr := [(ma 37, .inl (y 3, 3, .inl g37)), (ma 38, .inl (y 3, 5, .inl g38)), (ma 39, .inl (y 3, 5, .inl g39)), (ma 50, .inl (y 0, 3200, .inl g50)), (ma 40, .inl (y 3, 3, .inl g40)), (ma 41, .inl (y 3, 3, .inl g41)), (ma 0, .inl (y 0, 1600, .inl g0))]) [7, 4] [0, 1, 2, 3, 5, 6, 8] rfl rfl (by decide) (by decide) (by decide) (As := [.int 22, .int (nI u1455)]) (rest := []) rfl (nb rfl) rfl d_Model_onePart_129 (fun u1474 hu1475 => ?_)
                    obtain ⟨xh1476, xh1477, xh1478, xh1479, xh1480, xh1481, xh1482⟩ := hu1475
                    refine j_ws (ws' := [(ma 37, .inl (y 3, 3, .inl g37)), (ma 38, .inl (y 3, 5, .inl g38)), (ma 39, .inl (y 3, 5, .inl g39)), (ma 50, .inl (y 0, 3200, .inl g50)), (ma 40, .inl (y 3, 3, .inl g40)), (ma 41, .inl (y 3, 3, .inl g41)), (ma 0, .inl (y 0, 1600, .inl g0)), MB mo ma (nI t1) (nI u1455) (nI t3) u1447.2.1 u1474.1 u1474.2.1 i7 i8 i42 i49 (nI cd) (nI u1474.2.2.1) u1474.2.2.2.1 (nI bs) i61 i64 i66 (nI t67) i76 i78, (ma 52, .inl (y 0, 1700, .inl u1474.2.2.2.2))]) rfl ?_
                    refine j_aload_n (pc := 132) C d_Model_onePart_132 rfl 4 rfl ?_
                    refine j_bipush (pc := 133) C (v := 40) d_Model_onePart_133 (by decide) ?_
                    refine j_callVv (pc := 135) C (c_M_asksSign l D y mo ma t1 u1455 t3 u1447.2.1 u1474.1 u1474.2.1 i7 i8 i42 i49 (nI cd) (nI u1474.2.2.1) u1474.2.2.2.1 (nI bs) i61 i64 i66 t67 i76 i78 g0 40 xh1457 he (by decide)) kw_Model_271 kv_Model_asksSign 0 10 rfl rfl ⟨by decide, by decide⟩ ⟨by decide, by decide⟩ (wr := [(ma 37, .inl (y 3, 3, .inl g37)), (ma 38, .inl (y 3, 5, .inl g38)), (ma 39, .inl (y 3, 5, .inl g39)), (ma 50, .inl (y 0, 3200, .inl g50)), (ma 40, .inl (y 3, 3, .inl g40)), (ma 41, .inl (y 3, 3, .inl g41)), (ma 52, .inl (y 0, 1700, .inl u1474.2.2.2.2))]) [7, 6] [0, 1, 2, 3, 4, 5, 8] rfl rfl (by decide) (by decide) (by decide) (As := [.int 40]) (rest := []) rfl (nb rfl) rfl d_Model_onePart_135 (fun u1483 hu1484 => ?_)
                    obtain ⟨xh1485, xh1486, xh1487⟩ := hu1484
                    refine j_ws (ws' := [(ma 37, .inl (y 3, 3, .inl g37)), (ma 38, .inl (y 3, 5, .inl g38)), (ma 39, .inl (y 3, 5, .inl g39)), (ma 50, .inl (y 0, 3200, .inl g50)), (ma 40, .inl (y 3, 3, .inl g40)), (ma 41, .inl (y 3, 3, .inl g41)), (ma 52, .inl (y 0, 1700, .inl u1474.2.2.2.2)), MB mo ma (nI t1) (nI u1483.1) (nI t3) u1447.2.1 u1483.2.1 u1483.2.2 i7 i8 i42 i49 (nI cd) (nI u1474.2.2.1) u1474.2.2.2.1 (nI bs) i61 i64 i66 (nI t67) i76 i78, (ma 0, .inl (y 0, 1600, .inl g0))]) rfl ?_
                    refine j_goto (pc := 138) C (tgt := 143) d_Model_onePart_138 (by decide) ?_
                    refine j_goto (pc := 143) C (tgt := 2) d_Model_onePart_143 (by decide) ?_
                    refine j_sub (ws' := [MB mo ma (nI t1) (nI u1483.1) (nI t3) u1447.2.1 u1483.2.1 u1483.2.2 i7 i8 i42 i49 (nI cd) (nI u1474.2.2.1) u1474.2.2.2.1 (nI bs) i61 i64 i66 (nI t67) i76 i78, (ma 0, .inl (y 0, 1600, .inl g0)), (ma 37, .inl (y 3, 3, .inl g37)), (ma 38, .inl (y 3, 5, .inl g38)), (ma 39, .inl (y 3, 5, .inl g39)), (ma 40, .inl (y 3, 3, .inl g40)), (ma 41, .inl (y 3, 3, .inl g41)), (ma 50, .inl (y 0, 3200, .inl g50)), (ma 52, .inl (y 0, 1700, .inl u1474.2.2.2.2))]) [7, 8, 0, 1, 2, 4, 5, 3, 6] rfl (by decide) ?_
                    refine j_locs (lv' := [(1, .int (nI mz)), (0, .ref mo)]) [3, 4] rfl ?_
                    have hz1 := bz_e c1050
                    have hz0 := bz_le u1483.2.1
                    have hz2 : bz1 u1483.2.1 = 0 ∨ az + 1 ≤ u1483.1 := by
                      by_cases e : u1483.2.1 = 0
                      · right; have f0 := xh1487 e; have g0 := f0.2; have f1 := xh1478 f0.1; omega
                      · exact Or.inl (bz_0 e)
                    have xh1488 : RS kq s0 f0 xx u1483.2.1 g50 u1474.2.2.2.2 cd u1474.2.2.1 (az + 1) := rs_mono xh1479 (fun e => by have e0 := (xh1487 e).1; exact e0)
                    exact ih1023 (mz, u1483.1, u1483.2.1, u1474.2.2.2.2, u1474.2.2.1, u1447.2.1, u1483.2.2, u1474.2.2.2.1) ⟨hmz_, xh1486, (show t2 ≤ u1483.1 by omega), (show RS kq s0 f0 xx u1483.2.1 g50 u1474.2.2.2.2 cd u1474.2.2.1 u1483.1 from (rs_at xh1488 (by omega))), xh1481, xh1482, (show bs ≤ u1474.2.2.1 by omega)⟩ (show 2 * (t3 - u1483.1) + bz1 u1483.2.1 + mz < 2 * (t3 - az) + bz1 bz + mz by omega)
              · have xh1489 : RS kq s0 f0 xx u1447.2.2.1 g50 zw cd zn (az - 1) := rs_bad1 (rs_at xh1051 (by omega)) c1452
                refine j_aload_n (pc := 90) C d_Model_onePart_90 rfl 3 rfl ?_
                refine j_callVi (pc := 91) C (c_M_look l D y mo ma t1 u1447.1 t3 u1447.2.1 u1447.2.2.1 u1447.2.2.2 i7 i8 i42 i49 (nI cd) (nI zn) z512 (nI bs) i61 i64 i66 t67 i76 i78 g0 xh1450 he) kw_Model_213 kv_Model_look 0 10 rfl rfl ⟨by decide, by decide⟩ ⟨by decide, by decide⟩ (wr := [(ma 37, .inl (y 3, 3, .inl g37)), (ma 38, .inl (y 3, 5, .inl g38)), (ma 39, .inl (y 3, 5, .inl g39)), (ma 50, .inl (y 0, 3200, .inl g50)), (ma 52, .inl (y 0, 1700, .inl zw)), (ma 40, .inl (y 3, 3, .inl g40)), (ma 41, .inl (y 3, 3, .inl g41))]) [6, 7] [0, 1, 2, 3, 4, 5, 8] rfl rfl (by decide) (by decide) (by decide) (As := []) (rest := []) rfl (nb rfl) rfl d_Model_onePart_91 (fun r1490 u1491 hr1490 => ?_)
                refine j_ws (ws' := [(ma 37, .inl (y 3, 3, .inl g37)), (ma 38, .inl (y 3, 5, .inl g38)), (ma 39, .inl (y 3, 5, .inl g39)), (ma 50, .inl (y 0, 3200, .inl g50)), (ma 52, .inl (y 0, 1700, .inl zw)), (ma 40, .inl (y 3, 3, .inl g40)), (ma 41, .inl (y 3, 3, .inl g41)), MB mo ma (nI t1) (nI u1491) (nI t3) u1447.2.1 u1447.2.2.1 u1447.2.2.2 i7 i8 i42 i49 (nI cd) (nI zn) z512 (nI bs) i61 i64 i66 (nI t67) i76 i78, (ma 0, .inl (y 0, 1600, .inl g0))]) rfl ?_
                obtain ⟨xh1492, xh1493, xh1494⟩ := hr1490
                rcases xh1494 with rfl | ⟨xh1495, e1496⟩
                · refine j_bipush (pc := 94) C (v := 40) d_Model_onePart_94 (by decide) ?_
                  refine j_icmp_neT (pc := 96) C (tgt := 106) d_Model_onePart_96 (by decide) (by decide) ?_
                  refine j_iconst (pc := 106) C (v := (-1)) d_Model_onePart_106 (by decide) ?_
                  refine j_istore (pc := 107) C (lv' := [(4, .int (-1)), (3, .int 0), (2, .int r1052), (1, .int (nI mz)), (0, .ref mo)]) d_Model_onePart_107 (by decide) rfl ?_
                  refine j_iload (pc := 109) C d_Model_onePart_109 0 rfl ?_
                  refine j_iconst (pc := 111) C (v := (-1)) d_Model_onePart_111 (by decide) ?_
                  refine j_icmp_eqT (pc := 112) C (tgt := 132) d_Model_onePart_112 (by decide) (by decide) ?_
                  refine j_aload_n (pc := 132) C d_Model_onePart_132 rfl 4 rfl ?_
                  refine j_bipush (pc := 133) C (v := 40) d_Model_onePart_133 (by decide) ?_
                  refine j_callVv (pc := 135) C (c_M_asksSign l D y mo ma t1 u1491 t3 u1447.2.1 u1447.2.2.1 u1447.2.2.2 i7 i8 i42 i49 (nI cd) (nI zn) z512 (nI bs) i61 i64 i66 t67 i76 i78 g0 40 xh1493 he (by decide)) kw_Model_271 kv_Model_asksSign 0 10 rfl rfl ⟨by decide, by decide⟩ ⟨by decide, by decide⟩ (wr := [(ma 37, .inl (y 3, 3, .inl g37)), (ma 38, .inl (y 3, 5, .inl g38)), (ma 39, .inl (y 3, 5, .inl g39)), (ma 50, .inl (y 0, 3200, .inl g50)), (ma 52, .inl (y 0, 1700, .inl zw)), (ma 40, .inl (y 3, 3, .inl g40)), (ma 41, .inl (y 3, 3, .inl g41))]) [7, 8] [0, 1, 2, 3, 4, 5, 6] rfl rfl (by decide) (by decide) (by decide) (As := [.int 40]) (rest := []) rfl (nb rfl) rfl d_Model_onePart_135 (fun u1497 hu1498 => ?_)
                  obtain ⟨xh1499, xh1500, xh1501⟩ := hu1498
                  refine j_ws (ws' := [(ma 37, .inl (y 3, 3, .inl g37)), (ma 38, .inl (y 3, 5, .inl g38)), (ma 39, .inl (y 3, 5, .inl g39)), (ma 50, .inl (y 0, 3200, .inl g50)), (ma 52, .inl (y 0, 1700, .inl zw)), (ma 40, .inl (y 3, 3, .inl g40)), (ma 41, .inl (y 3, 3, .inl g41)), MB mo ma (nI t1) (nI u1497.1) (nI t3) u1447.2.1 u1497.2.1 u1497.2.2 i7 i8 i42 i49 (nI cd) (nI zn) z512 (nI bs) i61 i64 i66 (nI t67) i76 i78, (ma 0, .inl (y 0, 1600, .inl g0))]) rfl ?_
                  refine j_goto (pc := 138) C (tgt := 143) d_Model_onePart_138 (by decide) ?_
                  refine j_goto (pc := 143) C (tgt := 2) d_Model_onePart_143 (by decide) ?_
                  refine j_sub (ws' := [MB mo ma (nI t1) (nI u1497.1) (nI t3) u1447.2.1 u1497.2.1 u1497.2.2 i7 i8 i42 i49 (nI cd) (nI zn) z512 (nI bs) i61 i64 i66 (nI t67) i76 i78, (ma 0, .inl (y 0, 1600, .inl g0)), (ma 37, .inl (y 3, 3, .inl g37)), (ma 38, .inl (y 3, 5, .inl g38)), (ma 39, .inl (y 3, 5, .inl g39)), (ma 40, .inl (y 3, 3, .inl g40)), (ma 41, .inl (y 3, 3, .inl g41)), (ma 50, .inl (y 0, 3200, .inl g50)), (ma 52, .inl (y 0, 1700, .inl zw))]) [7, 8, 0, 1, 2, 5, 6, 3, 4] rfl (by decide) ?_
                  refine j_locs (lv' := [(1, .int (nI mz)), (0, .ref mo)]) [3, 4] rfl ?_
                  have hz1 := bz_e c1050
                  have hz0 := bz_le u1497.2.1
                  have hz2 : bz1 u1497.2.1 = 0 ∨ az + 1 ≤ u1497.1 := by
                    by_cases e : u1497.2.1 = 0
                    · right; have f0 := xh1501 e; have g0 := f0.2; exact absurd f0.1 c1452
                    · exact Or.inl (bz_0 e)
                  have xh1502 : RS kq s0 f0 xx u1497.2.1 g50 zw cd zn (az - 1) := rs_mono xh1489 (fun e => by have e0 := (xh1501 e).1; exact e0)
                  exact ih1023 (mz, u1497.1, u1497.2.1, zw, zn, u1447.2.1, u1497.2.2, z512) ⟨hmz_, xh1500, (show t2 ≤ u1497.1 by omega), (show RS kq s0 f0 xx u1497.2.1 g50 zw cd zn u1497.1 from (rs_at xh1502 (by omega))), hT_, hS_, hb_⟩ (show 2 * (t3 - u1497.1) + bz1 u1497.2.1 + mz < 2 * (t3 - az) + bz1 bz + mz by omega)
                · refine j_bipush (pc := 94) C (v := 40) d_Model_onePart_94 (by decide) ?_
                  refine j_icmp_ne (pc := 96) C (tgt := 106) d_Model_onePart_96 (by decide) (fun c1503 => ?_) (fun c1503 => ?_)
                  · refine j_iconst (pc := 106) C (v := (-1)) d_Model_onePart_106 (by decide) ?_
                    refine j_istore (pc := 107) C (lv' := [(4, .int (-1)), (3, .int 0), (2, .int r1052), (1, .int (nI mz)), (0, .ref mo)]) d_Model_onePart_107 (by decide) rfl ?_
                    refine j_iload (pc := 109) C d_Model_onePart_109 0 rfl ?_
                    refine j_iconst (pc := 111) C (v := (-1)) d_Model_onePart_111 (by decide) ?_
                    refine j_icmp_eqT (pc := 112) C (tgt := 132) d_Model_onePart_112 (by decide) (by decide) ?_
                    refine j_aload_n (pc := 132) C d_Model_onePart_132 rfl 4 rfl ?_
                    refine j_bipush (pc := 133) C (v := 40) d_Model_onePart_133 (by decide) ?_
                    refine j_callVv (pc := 135) C (c_M_asksSign l D y mo ma t1 u1491 t3 u1447.2.1 u1447.2.2.1 u1447.2.2.2 i7 i8 i42 i49 (nI cd) (nI zn) z512 (nI bs) i61 i64 i66 t67 i76 i78 g0 40 xh1493 he (by decide)) kw_Model_271 kv_Model_asksSign 0 10 rfl rfl ⟨by decide, by decide⟩ ⟨by decide, by decide⟩ (wr := [(ma 37, .inl (y 3, 3, .inl g37)), (ma 38, .inl (y 3, 5, .inl g38)), (ma 39, .inl (y 3, 5, .inl g39)), (ma 50, .inl (y 0, 3200, .inl g50)), (ma 52, .inl (y 0, 1700, .inl zw)), (ma 40, .inl (y 3, 3, .inl g40)), (ma 41, .inl (y 3, 3, .inl g41))]) [7, 8] [0, 1, 2, 3, 4, 5, 6] rfl rfl (by decide) (by decide) (by decide) (As := [.int 40]) (rest := []) rfl (nb rfl) rfl d_Model_onePart_135 (fun u1504 hu1505 => ?_)
                    obtain ⟨xh1506, xh1507, xh1508⟩ := hu1505
                    refine j_ws (ws' := [(ma 37, .inl (y 3, 3, .inl g37)), (ma 38, .inl (y 3, 5, .inl g38)), (ma 39, .inl (y 3, 5, .inl g39)), (ma 50, .inl (y 0, 3200, .inl g50)), (ma 52, .inl (y 0, 1700, .inl zw)), (ma 40, .inl (y 3, 3, .inl g40)), (ma 41, .inl (y 3, 3, .inl g41)), MB mo ma (nI t1) (nI u1504.1) (nI t3) u1447.2.1 u1504.2.1 u1504.2.2 i7 i8 i42 i49 (nI cd) (nI zn) z512 (nI bs) i61 i64 i66 (nI t67) i76 i78, (ma 0, .inl (y 0, 1600, .inl g0))]) rfl ?_
                    refine j_goto (pc := 138) C (tgt := 143) d_Model_onePart_138 (by decide) ?_
                    refine j_goto (pc := 143) C (tgt := 2) d_Model_onePart_143 (by decide) ?_
                    refine j_sub (ws' := [MB mo ma (nI t1) (nI u1504.1) (nI t3) u1447.2.1 u1504.2.1 u1504.2.2 i7 i8 i42 i49 (nI cd) (nI zn) z512 (nI bs) i61 i64 i66 (nI t67) i76 i78, (ma 0, .inl (y 0, 1600, .inl g0)), (ma 37, .inl (y 3, 3, .inl g37)), (ma 38, .inl (y 3, 5, .inl g38)), (ma 39, .inl (y 3, 5, .inl g39)), (ma 40, .inl (y 3, 3, .inl g40)), (ma 41, .inl (y 3, 3, .inl g41)), (ma 50, .inl (y 0, 3200, .inl g50)), (ma 52, .inl (y 0, 1700, .inl zw))]) [7, 8, 0, 1, 2, 5, 6, 3, 4] rfl (by decide) ?_
                    refine j_locs (lv' := [(1, .int (nI mz)), (0, .ref mo)]) [3, 4] rfl ?_
                    have hz1 := bz_e c1050
                    have hz0 := bz_le u1504.2.1
                    have hz2 : bz1 u1504.2.1 = 0 ∨ az + 1 ≤ u1504.1 := by
                      by_cases e : u1504.2.1 = 0
                      · right; have f0 := xh1508 e; have g0 := f0.2; exact absurd f0.1 c1452
                      · exact Or.inl (bz_0 e)
                    have xh1509 : RS kq s0 f0 xx u1504.2.1 g50 zw cd zn (az - 1) := rs_mono xh1489 (fun e => by have e0 := (xh1508 e).1; exact e0)
                    exact ih1023 (mz, u1504.1, u1504.2.1, zw, zn, u1447.2.1, u1504.2.2, z512) ⟨hmz_, xh1507, (show t2 ≤ u1504.1 by omega), (show RS kq s0 f0 xx u1504.2.1 g50 zw cd zn u1504.1 from (rs_at xh1509 (by omega))), hT_, hS_, hb_⟩ (show 2 * (t3 - u1504.1) + bz1 u1504.2.1 + mz < 2 * (t3 - az) + bz1 bz + mz by omega)
                  · refine j_aload_n (pc := 99) C d_Model_onePart_99 rfl 3 rfl ?_
                    refine j_get (pc := 100) C gf_Model_207 7 rfl rfl d_Model_onePart_100 ?_
                    refine j_goto (pc := 103) C (tgt := 107) d_Model_onePart_103 (by decide) ?_
                    refine j_istore (pc := 107) C (lv' := [(4, .int (nI u1491)), (3, .int 0), (2, .int r1052), (1, .int (nI mz)), (0, .ref mo)]) d_Model_onePart_107 (by decide) rfl ?_
                    refine j_iload (pc := 109) C d_Model_onePart_109 0 rfl ?_
                    refine j_iconst (pc := 111) C (v := (-1)) d_Model_onePart_111 (by decide) ?_
                    refine j_icmp_eqF (pc := 112) C (tgt := 132) d_Model_onePart_112 (by decide) (nI_nm1 (by omega)) ?_
                    refine j_aload_n (pc := 115) C d_Model_onePart_115 rfl 4 rfl ?_
                    refine j_iload_n (pc := 116) C d_Model_onePart_116 rfl 1 rfl ?_
                    refine j_if_eqT (pc := 117) C (tgt := 125) d_Model_onePart_117 (by decide) (by decide) ?_
                    refine j_bipush (pc := 125) C (v := 22) d_Model_onePart_125 (by decide) ?_
                    refine j_iload (pc := 127) C d_Model_onePart_127 0 rfl ?_
                    refine j_callVv (pc := 129) C (c_M_opens l D y mo ma t1 u1491 t3 u1447.2.1 u1447.2.2.1 u1447.2.2.2 i7 i8 i42 i49 cd zn z512 bs i61 i64 i66 t67 i76 i78 zw 22 (nI u1491) s0 xx kq f0 (az - 1) g50 (by decide) (by omega) xh1489 (by decide) hT_ hS_ hb_ hK) kw_Model_353 kv_Model_opens 0 10 rfl rfl ⟨by decide, by decide⟩ ⟨by decide, by decide⟩ (wr := [(ma 37, .inl (y 3, 3, .inl g37)), (ma 38, .inl (y 3, 5, .inl g38)), (ma 39, .inl (y 3, 5, .inl g39)), (ma 50, .inl (y 0, 3200, .inl g50)), (ma 40, .inl (y 3, 3, .inl g40)), (ma 41, .inl (y 3, 3, .inl g41)), (ma 0, .inl (y 0, 1600, .inl g0))]) [7, 4] [0, 1, 2, 3, 5, 6, 8] rfl rfl (by decide) (by decide) (by decide) (As := [.int 22, .int (nI u1491)]) (rest := []) rfl (nb rfl) rfl d_Model_onePart_129 (fun u1510 hu1511 => ?_)
                    obtain ⟨xh1512, xh1513, xh1514, xh1515, xh1516, xh1517, xh1518⟩ := hu1511
                    refine j_ws (ws' := [(ma 37, .inl (y 3, 3, .inl g37)), (ma 38, .inl (y 3, 5, .inl g38)), (ma 39, .inl (y 3, 5, .inl g39)), (ma 50, .inl (y 0, 3200, .inl g50)), (ma 40, .inl (y 3, 3, .inl g40)), (ma 41, .inl (y 3, 3, .inl g41)), (ma 0, .inl (y 0, 1600, .inl g0)), MB mo ma (nI t1) (nI u1491) (nI t3) u1447.2.1 u1510.1 u1510.2.1 i7 i8 i42 i49 (nI cd) (nI u1510.2.2.1) u1510.2.2.2.1 (nI bs) i61 i64 i66 (nI t67) i76 i78, (ma 52, .inl (y 0, 1700, .inl u1510.2.2.2.2))]) rfl ?_
                    refine j_aload_n (pc := 132) C d_Model_onePart_132 rfl 4 rfl ?_
                    refine j_bipush (pc := 133) C (v := 40) d_Model_onePart_133 (by decide) ?_
                    refine j_callVv (pc := 135) C (c_M_asksSign l D y mo ma t1 u1491 t3 u1447.2.1 u1510.1 u1510.2.1 i7 i8 i42 i49 (nI cd) (nI u1510.2.2.1) u1510.2.2.2.1 (nI bs) i61 i64 i66 t67 i76 i78 g0 40 xh1493 he (by decide)) kw_Model_271 kv_Model_asksSign 0 10 rfl rfl ⟨by decide, by decide⟩ ⟨by decide, by decide⟩ (wr := [(ma 37, .inl (y 3, 3, .inl g37)), (ma 38, .inl (y 3, 5, .inl g38)), (ma 39, .inl (y 3, 5, .inl g39)), (ma 50, .inl (y 0, 3200, .inl g50)), (ma 40, .inl (y 3, 3, .inl g40)), (ma 41, .inl (y 3, 3, .inl g41)), (ma 52, .inl (y 0, 1700, .inl u1510.2.2.2.2))]) [7, 6] [0, 1, 2, 3, 4, 5, 8] rfl rfl (by decide) (by decide) (by decide) (As := [.int 40]) (rest := []) rfl (nb rfl) rfl d_Model_onePart_135 (fun u1519 hu1520 => ?_)
                    obtain ⟨xh1521, xh1522, xh1523⟩ := hu1520
                    refine j_ws (ws' := [(ma 37, .inl (y 3, 3, .inl g37)), (ma 38, .inl (y 3, 5, .inl g38)), (ma 39, .inl (y 3, 5, .inl g39)), (ma 50, .inl (y 0, 3200, .inl g50)), (ma 40, .inl (y 3, 3, .inl g40)), (ma 41, .inl (y 3, 3, .inl g41)), (ma 52, .inl (y 0, 1700, .inl u1510.2.2.2.2)), MB mo ma (nI t1) (nI u1519.1) (nI t3) u1447.2.1 u1519.2.1 u1519.2.2 i7 i8 i42 i49 (nI cd) (nI u1510.2.2.1) u1510.2.2.2.1 (nI bs) i61 i64 i66 (nI t67) i76 i78, (ma 0, .inl (y 0, 1600, .inl g0))]) rfl ?_
                    refine j_goto (pc := 138) C (tgt := 143) d_Model_onePart_138 (by decide) ?_
                    refine j_goto (pc := 143) C (tgt := 2) d_Model_onePart_143 (by decide) ?_
                    refine j_sub (ws' := [MB mo ma (nI t1) (nI u1519.1) (nI t3) u1447.2.1 u1519.2.1 u1519.2.2 i7 i8 i42 i49 (nI cd) (nI u1510.2.2.1) u1510.2.2.2.1 (nI bs) i61 i64 i66 (nI t67) i76 i78, (ma 0, .inl (y 0, 1600, .inl g0)), (ma 37, .inl (y 3, 3, .inl g37)), (ma 38, .inl (y 3, 5, .inl g38)), (ma 39, .inl (y 3, 5, .inl g39)), (ma 40, .inl (y 3, 3, .inl g40)), (ma 41, .inl (y 3, 3, .inl g41)), (ma 50, .inl (y 0, 3200, .inl g50)), (ma 52, .inl (y 0, 1700, .inl u1510.2.2.2.2))]) [7, 8, 0, 1, 2, 4, 5, 3, 6] rfl (by decide) ?_
                    refine j_locs (lv' := [(1, .int (nI mz)), (0, .ref mo)]) [3, 4] rfl ?_
                    have hz1 := bz_e c1050
                    have hz0 := bz_le u1519.2.1
                    have hz2 : bz1 u1519.2.1 = 0 ∨ az + 1 ≤ u1519.1 := by
                      by_cases e : u1519.2.1 = 0
                      · right; have f0 := xh1523 e; have g0 := f0.2; have f1 := xh1514 f0.1; exact absurd f1 c1452
                      · exact Or.inl (bz_0 e)
                    have xh1524 : RS kq s0 f0 xx u1519.2.1 g50 u1510.2.2.2.2 cd u1510.2.2.1 ((az - 1) + 1) := rs_mono xh1515 (fun e => by have e0 := (xh1523 e).1; exact e0)
                    exact ih1023 (mz, u1519.1, u1519.2.1, u1510.2.2.2.2, u1510.2.2.1, u1447.2.1, u1519.2.2, u1510.2.2.2.1) ⟨hmz_, xh1522, (show t2 ≤ u1519.1 by omega), (show RS kq s0 f0 xx u1519.2.1 g50 u1510.2.2.2.2 cd u1510.2.2.1 u1519.1 from (rs_at xh1524 (by omega))), xh1517, xh1518, (show bs ≤ u1510.2.2.1 by omega)⟩ (show 2 * (t3 - u1519.1) + bz1 u1519.2.1 + mz < 2 * (t3 - az) + bz1 bz + mz by omega)
            · refine j_istore_n (pc := 77) C (lv' := [(3, .int 1), (2, .int r1052), (1, .int (nI mz)), (0, .ref mo)]) d_Model_onePart_77 rfl (by decide) rfl ?_
              refine j_iload_n (pc := 78) C d_Model_onePart_78 rfl 0 rfl ?_
              refine j_if_neT (pc := 79) C (tgt := 90) d_Model_onePart_79 (by decide) (by decide) ?_
              refine j_aload_n (pc := 90) C d_Model_onePart_90 rfl 3 rfl ?_
              refine j_callVi (pc := 91) C (c_M_look l D y mo ma t1 u1442.1 t3 u1442.2 0 z511 i7 i8 i42 i49 (nI cd) (nI zn) z512 (nI bs) i61 i64 i66 t67 i76 i78 g0 xh1444 he) kw_Model_213 kv_Model_look 0 10 rfl rfl ⟨by decide, by decide⟩ ⟨by decide, by decide⟩ (wr := [(ma 37, .inl (y 3, 3, .inl g37)), (ma 38, .inl (y 3, 5, .inl g38)), (ma 39, .inl (y 3, 5, .inl g39)), (ma 41, .inl (y 3, 3, .inl g41)), (ma 50, .inl (y 0, 3200, .inl g50)), (ma 52, .inl (y 0, 1700, .inl zw)), (ma 40, .inl (y 3, 3, .inl g40))]) [6, 7] [0, 1, 2, 3, 4, 5, 8] rfl rfl (by decide) (by decide) (by decide) (As := []) (rest := []) rfl (nb rfl) rfl d_Model_onePart_91 (fun r1525 u1526 hr1525 => ?_)
              refine j_ws (ws' := [(ma 37, .inl (y 3, 3, .inl g37)), (ma 38, .inl (y 3, 5, .inl g38)), (ma 39, .inl (y 3, 5, .inl g39)), (ma 41, .inl (y 3, 3, .inl g41)), (ma 50, .inl (y 0, 3200, .inl g50)), (ma 52, .inl (y 0, 1700, .inl zw)), (ma 40, .inl (y 3, 3, .inl g40)), MB mo ma (nI t1) (nI u1526) (nI t3) u1442.2 0 z511 i7 i8 i42 i49 (nI cd) (nI zn) z512 (nI bs) i61 i64 i66 (nI t67) i76 i78, (ma 0, .inl (y 0, 1600, .inl g0))]) rfl ?_
              obtain ⟨xh1527, xh1528, xh1529⟩ := hr1525
              rcases xh1529 with rfl | ⟨xh1530, e1531⟩
              · refine j_bipush (pc := 94) C (v := 40) d_Model_onePart_94 (by decide) ?_
                refine j_icmp_neT (pc := 96) C (tgt := 106) d_Model_onePart_96 (by decide) (by decide) ?_
                refine j_iconst (pc := 106) C (v := (-1)) d_Model_onePart_106 (by decide) ?_
                refine j_istore (pc := 107) C (lv' := [(4, .int (-1)), (3, .int 1), (2, .int r1052), (1, .int (nI mz)), (0, .ref mo)]) d_Model_onePart_107 (by decide) rfl ?_
                refine j_iload (pc := 109) C d_Model_onePart_109 0 rfl ?_
                refine j_iconst (pc := 111) C (v := (-1)) d_Model_onePart_111 (by decide) ?_
                refine j_icmp_eqT (pc := 112) C (tgt := 132) d_Model_onePart_112 (by decide) (by decide) ?_
                refine j_aload_n (pc := 132) C d_Model_onePart_132 rfl 4 rfl ?_
                refine j_bipush (pc := 133) C (v := 40) d_Model_onePart_133 (by decide) ?_
                refine j_callVv (pc := 135) C (c_M_asksSign l D y mo ma t1 u1526 t3 u1442.2 0 z511 i7 i8 i42 i49 (nI cd) (nI zn) z512 (nI bs) i61 i64 i66 t67 i76 i78 g0 40 xh1528 he (by decide)) kw_Model_271 kv_Model_asksSign 0 10 rfl rfl ⟨by decide, by decide⟩ ⟨by decide, by decide⟩ (wr := [(ma 37, .inl (y 3, 3, .inl g37)), (ma 38, .inl (y 3, 5, .inl g38)), (ma 39, .inl (y 3, 5, .inl g39)), (ma 41, .inl (y 3, 3, .inl g41)), (ma 50, .inl (y 0, 3200, .inl g50)), (ma 52, .inl (y 0, 1700, .inl zw)), (ma 40, .inl (y 3, 3, .inl g40))]) [7, 8] [0, 1, 2, 3, 4, 5, 6] rfl rfl (by decide) (by decide) (by decide) (As := [.int 40]) (rest := []) rfl (nb rfl) rfl d_Model_onePart_135 (fun u1532 hu1533 => ?_)
                obtain ⟨xh1534, xh1535, xh1536⟩ := hu1533
                refine j_ws (ws' := [(ma 37, .inl (y 3, 3, .inl g37)), (ma 38, .inl (y 3, 5, .inl g38)), (ma 39, .inl (y 3, 5, .inl g39)), (ma 41, .inl (y 3, 3, .inl g41)), (ma 50, .inl (y 0, 3200, .inl g50)), (ma 52, .inl (y 0, 1700, .inl zw)), (ma 40, .inl (y 3, 3, .inl g40)), MB mo ma (nI t1) (nI u1532.1) (nI t3) u1442.2 u1532.2.1 u1532.2.2 i7 i8 i42 i49 (nI cd) (nI zn) z512 (nI bs) i61 i64 i66 (nI t67) i76 i78, (ma 0, .inl (y 0, 1600, .inl g0))]) rfl ?_
                refine j_goto (pc := 138) C (tgt := 143) d_Model_onePart_138 (by decide) ?_
                refine j_goto (pc := 143) C (tgt := 2) d_Model_onePart_143 (by decide) ?_
                refine j_sub (ws' := [MB mo ma (nI t1) (nI u1532.1) (nI t3) u1442.2 u1532.2.1 u1532.2.2 i7 i8 i42 i49 (nI cd) (nI zn) z512 (nI bs) i61 i64 i66 (nI t67) i76 i78, (ma 0, .inl (y 0, 1600, .inl g0)), (ma 37, .inl (y 3, 3, .inl g37)), (ma 38, .inl (y 3, 5, .inl g38)), (ma 39, .inl (y 3, 5, .inl g39)), (ma 40, .inl (y 3, 3, .inl g40)), (ma 41, .inl (y 3, 3, .inl g41)), (ma 50, .inl (y 0, 3200, .inl g50)), (ma 52, .inl (y 0, 1700, .inl zw))]) [7, 8, 0, 1, 2, 6, 3, 4, 5] rfl (by decide) ?_
                refine j_locs (lv' := [(1, .int (nI mz)), (0, .ref mo)]) [3, 4] rfl ?_
                have hz1 := bz_e c1050
                have hz0 := bz_le u1532.2.1
                have hz2 : bz1 u1532.2.1 = 0 ∨ az + 1 ≤ u1532.1 := by
                  by_cases e : u1532.2.1 = 0
                  · right; have f0 := xh1536 e; have g0 := f0.2; omega
                  · exact Or.inl (bz_0 e)
                have xh1537 : RS kq s0 f0 xx u1532.2.1 g50 zw cd zn az := rs_mono xh1051 (fun _ => rfl)
                exact ih1023 (mz, u1532.1, u1532.2.1, zw, zn, u1442.2, u1532.2.2, z512) ⟨hmz_, xh1535, (show t2 ≤ u1532.1 by omega), (show RS kq s0 f0 xx u1532.2.1 g50 zw cd zn u1532.1 from (rs_at xh1537 (by omega))), hT_, hS_, hb_⟩ (show 2 * (t3 - u1532.1) + bz1 u1532.2.1 + mz < 2 * (t3 - az) + bz1 bz + mz by omega)
              · refine j_bipush (pc := 94) C (v := 40) d_Model_onePart_94 (by decide) ?_
                refine j_icmp_ne (pc := 96) C (tgt := 106) d_Model_onePart_96 (by decide) (fun c1538 => ?_) (fun c1538 => ?_)
                · refine j_iconst (pc := 106) C (v := (-1)) d_Model_onePart_106 (by decide) ?_
                  refine j_istore (pc := 107) C (lv' := [(4, .int (-1)), (3, .int 1), (2, .int r1052), (1, .int (nI mz)), (0, .ref mo)]) d_Model_onePart_107 (by decide) rfl ?_
                  refine j_iload (pc := 109) C d_Model_onePart_109 0 rfl ?_
                  refine j_iconst (pc := 111) C (v := (-1)) d_Model_onePart_111 (by decide) ?_
                  refine j_icmp_eqT (pc := 112) C (tgt := 132) d_Model_onePart_112 (by decide) (by decide) ?_
                  refine j_aload_n (pc := 132) C d_Model_onePart_132 rfl 4 rfl ?_
                  refine j_bipush (pc := 133) C (v := 40) d_Model_onePart_133 (by decide) ?_
                  refine j_callVv (pc := 135) C (c_M_asksSign l D y mo ma t1 u1526 t3 u1442.2 0 z511 i7 i8 i42 i49 (nI cd) (nI zn) z512 (nI bs) i61 i64 i66 t67 i76 i78 g0 40 xh1528 he (by decide)) kw_Model_271 kv_Model_asksSign 0 10 rfl rfl ⟨by decide, by decide⟩ ⟨by decide, by decide⟩ (wr := [(ma 37, .inl (y 3, 3, .inl g37)), (ma 38, .inl (y 3, 5, .inl g38)), (ma 39, .inl (y 3, 5, .inl g39)), (ma 41, .inl (y 3, 3, .inl g41)), (ma 50, .inl (y 0, 3200, .inl g50)), (ma 52, .inl (y 0, 1700, .inl zw)), (ma 40, .inl (y 3, 3, .inl g40))]) [7, 8] [0, 1, 2, 3, 4, 5, 6] rfl rfl (by decide) (by decide) (by decide) (As := [.int 40]) (rest := []) rfl (nb rfl) rfl d_Model_onePart_135 (fun u1539 hu1540 => ?_)
                  obtain ⟨xh1541, xh1542, xh1543⟩ := hu1540
                  refine j_ws (ws' := [(ma 37, .inl (y 3, 3, .inl g37)), (ma 38, .inl (y 3, 5, .inl g38)), (ma 39, .inl (y 3, 5, .inl g39)), (ma 41, .inl (y 3, 3, .inl g41)), (ma 50, .inl (y 0, 3200, .inl g50)), (ma 52, .inl (y 0, 1700, .inl zw)), (ma 40, .inl (y 3, 3, .inl g40)), MB mo ma (nI t1) (nI u1539.1) (nI t3) u1442.2 u1539.2.1 u1539.2.2 i7 i8 i42 i49 (nI cd) (nI zn) z512 (nI bs) i61 i64 i66 (nI t67) i76 i78, (ma 0, .inl (y 0, 1600, .inl g0))]) rfl ?_
                  refine j_goto (pc := 138) C (tgt := 143) d_Model_onePart_138 (by decide) ?_
                  refine j_goto (pc := 143) C (tgt := 2) d_Model_onePart_143 (by decide) ?_
                  refine j_sub (ws' := [MB mo ma (nI t1) (nI u1539.1) (nI t3) u1442.2 u1539.2.1 u1539.2.2 i7 i8 i42 i49 (nI cd) (nI zn) z512 (nI bs) i61 i64 i66 (nI t67) i76 i78, (ma 0, .inl (y 0, 1600, .inl g0)), (ma 37, .inl (y 3, 3, .inl g37)), (ma 38, .inl (y 3, 5, .inl g38)), (ma 39, .inl (y 3, 5, .inl g39)), (ma 40, .inl (y 3, 3, .inl g40)), (ma 41, .inl (y 3, 3, .inl g41)), (ma 50, .inl (y 0, 3200, .inl g50)), (ma 52, .inl (y 0, 1700, .inl zw))]) [7, 8, 0, 1, 2, 6, 3, 4, 5] rfl (by decide) ?_
                  refine j_locs (lv' := [(1, .int (nI mz)), (0, .ref mo)]) [3, 4] rfl ?_
                  have hz1 := bz_e c1050
                  have hz0 := bz_le u1539.2.1
                  have hz2 : bz1 u1539.2.1 = 0 ∨ az + 1 ≤ u1539.1 := by
                    by_cases e : u1539.2.1 = 0
                    · right; have f0 := xh1543 e; have g0 := f0.2; omega
                    · exact Or.inl (bz_0 e)
                  have xh1544 : RS kq s0 f0 xx u1539.2.1 g50 zw cd zn az := rs_mono xh1051 (fun _ => rfl)
                  exact ih1023 (mz, u1539.1, u1539.2.1, zw, zn, u1442.2, u1539.2.2, z512) ⟨hmz_, xh1542, (show t2 ≤ u1539.1 by omega), (show RS kq s0 f0 xx u1539.2.1 g50 zw cd zn u1539.1 from (rs_at xh1544 (by omega))), hT_, hS_, hb_⟩ (show 2 * (t3 - u1539.1) + bz1 u1539.2.1 + mz < 2 * (t3 - az) + bz1 bz + mz by omega)
                · refine j_aload_n (pc := 99) C d_Model_onePart_99 rfl 3 rfl ?_
                  refine j_get (pc := 100) C gf_Model_207 7 rfl rfl d_Model_onePart_100 ?_
                  refine j_goto (pc := 103) C (tgt := 107) d_Model_onePart_103 (by decide) ?_
                  refine j_istore (pc := 107) C (lv' := [(4, .int (nI u1526)), (3, .int 1), (2, .int r1052), (1, .int (nI mz)), (0, .ref mo)]) d_Model_onePart_107 (by decide) rfl ?_
                  refine j_iload (pc := 109) C d_Model_onePart_109 0 rfl ?_
                  refine j_iconst (pc := 111) C (v := (-1)) d_Model_onePart_111 (by decide) ?_
                  refine j_icmp_eqF (pc := 112) C (tgt := 132) d_Model_onePart_112 (by decide) (nI_nm1 (by omega)) ?_
                  refine j_aload_n (pc := 115) C d_Model_onePart_115 rfl 4 rfl ?_
                  refine j_iload_n (pc := 116) C d_Model_onePart_116 rfl 1 rfl ?_
                  refine j_if_eqF (pc := 117) C (tgt := 125) d_Model_onePart_117 (by decide) (by decide) ?_
                  refine j_bipush (pc := 120) C (v := 21) d_Model_onePart_120 (by decide) ?_
                  refine j_goto (pc := 122) C (tgt := 127) d_Model_onePart_122 (by decide) ?_
                  refine j_iload (pc := 127) C d_Model_onePart_127 0 rfl ?_
                  refine j_callVv (pc := 129) C (c_M_opens l D y mo ma t1 u1526 t3 u1442.2 0 z511 i7 i8 i42 i49 cd zn z512 bs i61 i64 i66 t67 i76 i78 zw 21 (nI u1526) s0 xx kq f0 az g50 (by decide) (by omega) xh1051 (by decide) hT_ hS_ hb_ hK) kw_Model_353 kv_Model_opens 0 10 rfl rfl ⟨by decide, by decide⟩ ⟨by decide, by decide⟩ (wr := [(ma 37, .inl (y 3, 3, .inl g37)), (ma 38, .inl (y 3, 5, .inl g38)), (ma 39, .inl (y 3, 5, .inl g39)), (ma 41, .inl (y 3, 3, .inl g41)), (ma 50, .inl (y 0, 3200, .inl g50)), (ma 40, .inl (y 3, 3, .inl g40)), (ma 0, .inl (y 0, 1600, .inl g0))]) [7, 5] [0, 1, 2, 3, 4, 6, 8] rfl rfl (by decide) (by decide) (by decide) (As := [.int 21, .int (nI u1526)]) (rest := []) rfl (nb rfl) rfl d_Model_onePart_129 (fun u1545 hu1546 => ?_)
                  obtain ⟨xh1547, xh1548, xh1549, xh1550, xh1551, xh1552, xh1553⟩ := hu1546
                  refine j_ws (ws' := [(ma 37, .inl (y 3, 3, .inl g37)), (ma 38, .inl (y 3, 5, .inl g38)), (ma 39, .inl (y 3, 5, .inl g39)), (ma 41, .inl (y 3, 3, .inl g41)), (ma 50, .inl (y 0, 3200, .inl g50)), (ma 40, .inl (y 3, 3, .inl g40)), (ma 0, .inl (y 0, 1600, .inl g0)), MB mo ma (nI t1) (nI u1526) (nI t3) u1442.2 u1545.1 u1545.2.1 i7 i8 i42 i49 (nI cd) (nI u1545.2.2.1) u1545.2.2.2.1 (nI bs) i61 i64 i66 (nI t67) i76 i78, (ma 52, .inl (y 0, 1700, .inl u1545.2.2.2.2))]) rfl ?_
                  refine j_aload_n (pc := 132) C d_Model_onePart_132 rfl 4 rfl ?_
                  refine j_bipush (pc := 133) C (v := 40) d_Model_onePart_133 (by decide) ?_
                  refine j_callVv (pc := 135) C (c_M_asksSign l D y mo ma t1 u1526 t3 u1442.2 u1545.1 u1545.2.1 i7 i8 i42 i49 (nI cd) (nI u1545.2.2.1) u1545.2.2.2.1 (nI bs) i61 i64 i66 t67 i76 i78 g0 40 xh1528 he (by decide)) kw_Model_271 kv_Model_asksSign 0 10 rfl rfl ⟨by decide, by decide⟩ ⟨by decide, by decide⟩ (wr := [(ma 37, .inl (y 3, 3, .inl g37)), (ma 38, .inl (y 3, 5, .inl g38)), (ma 39, .inl (y 3, 5, .inl g39)), (ma 41, .inl (y 3, 3, .inl g41)), (ma 50, .inl (y 0, 3200, .inl g50)), (ma 40, .inl (y 3, 3, .inl g40)), (ma 52, .inl (y 0, 1700, .inl u1545.2.2.2.2))]) [7, 6] [0, 1, 2, 3, 4, 5, 8] rfl rfl (by decide) (by decide) (by decide) (As := [.int 40]) (rest := []) rfl (nb rfl) rfl d_Model_onePart_135 (fun u1554 hu1555 => ?_)
                  obtain ⟨xh1556, xh1557, xh1558⟩ := hu1555
                  refine j_ws (ws' := [(ma 37, .inl (y 3, 3, .inl g37)), (ma 38, .inl (y 3, 5, .inl g38)), (ma 39, .inl (y 3, 5, .inl g39)), (ma 41, .inl (y 3, 3, .inl g41)), (ma 50, .inl (y 0, 3200, .inl g50)), (ma 40, .inl (y 3, 3, .inl g40)), (ma 52, .inl (y 0, 1700, .inl u1545.2.2.2.2)), MB mo ma (nI t1) (nI u1554.1) (nI t3) u1442.2 u1554.2.1 u1554.2.2 i7 i8 i42 i49 (nI cd) (nI u1545.2.2.1) u1545.2.2.2.1 (nI bs) i61 i64 i66 (nI t67) i76 i78, (ma 0, .inl (y 0, 1600, .inl g0))]) rfl ?_
                  refine j_goto (pc := 138) C (tgt := 143) d_Model_onePart_138 (by decide) ?_
                  refine j_goto (pc := 143) C (tgt := 2) d_Model_onePart_143 (by decide) ?_
                  refine j_sub (ws' := [MB mo ma (nI t1) (nI u1554.1) (nI t3) u1442.2 u1554.2.1 u1554.2.2 i7 i8 i42 i49 (nI cd) (nI u1545.2.2.1) u1545.2.2.2.1 (nI bs) i61 i64 i66 (nI t67) i76 i78, (ma 0, .inl (y 0, 1600, .inl g0)), (ma 37, .inl (y 3, 3, .inl g37)), (ma 38, .inl (y 3, 5, .inl g38)), (ma 39, .inl (y 3, 5, .inl g39)), (ma 40, .inl (y 3, 3, .inl g40)), (ma 41, .inl (y 3, 3, .inl g41)), (ma 50, .inl (y 0, 3200, .inl g50)), (ma 52, .inl (y 0, 1700, .inl u1545.2.2.2.2))]) [7, 8, 0, 1, 2, 5, 3, 4, 6] rfl (by decide) ?_
                  refine j_locs (lv' := [(1, .int (nI mz)), (0, .ref mo)]) [3, 4] rfl ?_
                  have hz1 := bz_e c1050
                  have hz0 := bz_le u1554.2.1
                  have hz2 : bz1 u1554.2.1 = 0 ∨ az + 1 ≤ u1554.1 := by
                    by_cases e : u1554.2.1 = 0
                    · right; have f0 := xh1558 e; have g0 := f0.2; have f1 := xh1549 f0.1; omega
                    · exact Or.inl (bz_0 e)
                  have xh1559 : RS kq s0 f0 xx u1554.2.1 g50 u1545.2.2.2.2 cd u1545.2.2.1 (az + 1) := rs_mono xh1550 (fun e => by have e0 := (xh1558 e).1; exact e0)
                  exact ih1023 (mz, u1554.1, u1554.2.1, u1545.2.2.2.2, u1545.2.2.1, u1442.2, u1554.2.2, u1545.2.2.2.1) ⟨hmz_, xh1557, (show t2 ≤ u1554.1 by omega), (show RS kq s0 f0 xx u1554.2.1 g50 u1545.2.2.2.2 cd u1545.2.2.1 u1554.1 from (rs_at xh1559 (by omega))), xh1552, xh1553, (show bs ≤ u1545.2.2.1 by omega)⟩ (show 2 * (t3 - u1554.1) + bz1 u1554.2.1 + mz < 2 * (t3 - az) + bz1 bz + mz by omega)
        · refine j_aload_n (pc := 24) C d_Model_onePart_24 rfl 2 rfl ?_
          refine j_bipush (pc := 25) C (v := 20) d_Model_onePart_25 (by decide) ?_
          refine j_aload_n (pc := 27) C d_Model_onePart_27 rfl 2 rfl ?_
          refine j_get (pc := 28) C gf_Model_207 7 rfl rfl d_Model_onePart_28 ?_
          refine j_callVv (pc := 31) C (c_M_opens l D y mo ma t1 u1053 t3 z510 0 z511 i7 i8 i42 i49 cd zn z512 bs i61 i64 i66 t67 i76 i78 zw 20 (nI u1053) s0 xx kq f0 az g50 (by decide) (by omega) xh1051 (by decide) hT_ hS_ hb_ hK) kw_Model_353 kv_Model_opens 0 10 rfl rfl ⟨by decide, by decide⟩ ⟨by decide, by decide⟩ (wr := [(ma 37, .inl (y 3, 3, .inl g37)), (ma 38, .inl (y 3, 5, .inl g38)), (ma 39, .inl (y 3, 5, .inl g39)), (ma 40, .inl (y 3, 3, .inl g40)), (ma 41, .inl (y 3, 3, .inl g41)), (ma 50, .inl (y 0, 3200, .inl g50)), (ma 0, .inl (y 0, 1600, .inl g0))]) [7, 6] [0, 1, 2, 3, 4, 5, 8] rfl rfl (by decide) (by decide) (by decide) (As := [.int 20, .int (nI u1053)]) (rest := []) rfl (nb rfl) rfl d_Model_onePart_31 (fun u1560 hu1561 => ?_)
          obtain ⟨xh1562, xh1563, xh1564, xh1565, xh1566, xh1567, xh1568⟩ := hu1561
          refine j_ws (ws' := [(ma 37, .inl (y 3, 3, .inl g37)), (ma 38, .inl (y 3, 5, .inl g38)), (ma 39, .inl (y 3, 5, .inl g39)), (ma 40, .inl (y 3, 3, .inl g40)), (ma 41, .inl (y 3, 3, .inl g41)), (ma 50, .inl (y 0, 3200, .inl g50)), (ma 0, .inl (y 0, 1600, .inl g0)), MB mo ma (nI t1) (nI u1053) (nI t3) z510 u1560.1 u1560.2.1 i7 i8 i42 i49 (nI cd) (nI u1560.2.2.1) u1560.2.2.2.1 (nI bs) i61 i64 i66 (nI t67) i76 i78, (ma 52, .inl (y 0, 1700, .inl u1560.2.2.2.2))]) rfl ?_
          refine j_aload_n (pc := 34) C d_Model_onePart_34 rfl 2 rfl ?_
          refine j_dup (pc := 35) C d_Model_onePart_35 rfl ?_
          refine j_get (pc := 36) C gf_Model_207 7 rfl rfl d_Model_onePart_36 ?_
          refine j_iconst (pc := 39) C (v := 1) d_Model_onePart_39 (by decide) ?_
          refine j_iadd (pc := 40) C (v := nI (u1053 + 1)) d_Model_onePart_40 (nI_add _ _) ?_
          refine j_put (pc := 41) C pf_Model_207 7 (ws' := [(ma 37, .inl (y 3, 3, .inl g37)), (ma 38, .inl (y 3, 5, .inl g38)), (ma 39, .inl (y 3, 5, .inl g39)), (ma 40, .inl (y 3, 3, .inl g40)), (ma 41, .inl (y 3, 3, .inl g41)), (ma 50, .inl (y 0, 3200, .inl g50)), (ma 0, .inl (y 0, 1600, .inl g0)), MB mo ma (nI t1) (nI (u1053 + 1)) (nI t3) z510 u1560.1 u1560.2.1 i7 i8 i42 i49 (nI cd) (nI u1560.2.2.1) u1560.2.2.2.1 (nI bs) i61 i64 i66 (nI t67) i76 i78, (ma 52, .inl (y 0, 1700, .inl u1560.2.2.2.2))]) rfl rfl rfl (nl rfl) rfl d_Model_onePart_41 ?_
          refine j_goto (pc := 44) C (tgt := 143) d_Model_onePart_44 (by decide) ?_
          refine j_goto (pc := 143) C (tgt := 2) d_Model_onePart_143 (by decide) ?_
          refine j_sub (ws' := [MB mo ma (nI t1) (nI (u1053 + 1)) (nI t3) z510 u1560.1 u1560.2.1 i7 i8 i42 i49 (nI cd) (nI u1560.2.2.1) u1560.2.2.2.1 (nI bs) i61 i64 i66 (nI t67) i76 i78, (ma 0, .inl (y 0, 1600, .inl g0)), (ma 37, .inl (y 3, 3, .inl g37)), (ma 38, .inl (y 3, 5, .inl g38)), (ma 39, .inl (y 3, 5, .inl g39)), (ma 40, .inl (y 3, 3, .inl g40)), (ma 41, .inl (y 3, 3, .inl g41)), (ma 50, .inl (y 0, 3200, .inl g50)), (ma 52, .inl (y 0, 1700, .inl u1560.2.2.2.2))]) [7, 6, 0, 1, 2, 3, 4, 5, 8] rfl (by decide) ?_
          refine j_locs (lv' := [(1, .int (nI mz)), (0, .ref mo)]) [1, 2] rfl ?_
          have hz1 := bz_e c1050
          have hz0 := bz_le u1560.1
          have hz2 : bz1 u1560.1 = 0 ∨ az + 1 ≤ (u1053 + 1) := by
            by_cases e : u1560.1 = 0
            · right; have f0 := xh1564 e; omega
            · exact Or.inl (bz_0 e)
          exact ih1023 (mz, (u1053 + 1), u1560.1, u1560.2.2.2.2, u1560.2.2.1, z510, u1560.2.1, u1560.2.2.2.1) ⟨hmz_, (show (u1053 + 1) ≤ t3 by omega), (show t2 ≤ (u1053 + 1) by omega), (show RS kq s0 f0 xx u1560.1 g50 u1560.2.2.2.2 cd u1560.2.2.1 (u1053 + 1) from (rs_at xh1565 (by omega))), xh1567, xh1568, (show bs ≤ u1560.2.2.1 by omega)⟩ (show 2 * (t3 - (u1053 + 1)) + bz1 u1560.1 + mz < 2 * (t3 - az) + bz1 bz + mz by omega)
