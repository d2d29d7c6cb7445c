theorem top_s {w : Nat → Int32} {b n : Nat} {v : Int32} (hT : ITm w b) (e : w (n - 1) = v) (h1 : 1 ≤ n) (hb : b ≤ n) (hv : ¬ TIt v) : b < n := by
  rcases Nat.lt_or_ge b n with q | q
  · exact q
  · exact absurd (e ▸ hT (n - 1) (by omega)) hv
theorem d_Model_dropsToMark_0 : decode prog_13_method_37_code 0 = .ok (.aload_n 0, 1) := by decide +kernel
theorem d_Model_dropsToMark_1 : decode prog_13_method_37_code 1 = .ok (.getfield 292, 3) := by decide +kernel
theorem d_Model_dropsToMark_4 : decode prog_13_method_37_code 4 = .ok (.aload_n 0, 1) := by decide +kernel
theorem d_Model_dropsToMark_5 : decode prog_13_method_37_code 5 = .ok (.getfield 298, 3) := by decide +kernel
theorem d_Model_dropsToMark_8 : decode prog_13_method_37_code 8 = .ok (.if_icmp .le 28, 3) := by decide +kernel
theorem d_Model_dropsToMark_36 : decode prog_13_method_37_code 36 = .ok (.return_, 1) := by decide +kernel
theorem d_Model_dropsToMark_11 : decode prog_13_method_37_code 11 = .ok (.aload_n 0, 1) := by decide +kernel
theorem d_Model_dropsToMark_12 : decode prog_13_method_37_code 12 = .ok (.aload_n 0, 1) := by decide +kernel
theorem d_Model_dropsToMark_13 : decode prog_13_method_37_code 13 = .ok (.getfield 139, 3) := by decide +kernel
theorem d_Model_dropsToMark_16 : decode prog_13_method_37_code 16 = .ok (.aload_n 0, 1) := by decide +kernel
theorem d_Model_dropsToMark_17 : decode prog_13_method_37_code 17 = .ok (.getfield 292, 3) := by decide +kernel
theorem d_Model_dropsToMark_20 : decode prog_13_method_37_code 20 = .ok (.iconst 1, 1) := by decide +kernel
theorem d_Model_dropsToMark_21 : decode prog_13_method_37_code 21 = .ok (.isub, 1) := by decide +kernel
theorem d_Model_dropsToMark_22 : decode prog_13_method_37_code 22 = .ok (.iaload, 1) := by decide +kernel
theorem d_Model_dropsToMark_23 : decode prog_13_method_37_code 23 = .ok (.invokevirtual 347, 3) := by decide +kernel
theorem d_Model_dropsToMark_26 : decode prog_13_method_37_code 26 = .ok (.ifCond .ne 10, 3) := by decide +kernel
theorem d_Model_dropsToMark_29 : decode prog_13_method_37_code 29 = .ok (.aload_n 0, 1) := by decide +kernel
theorem d_Model_dropsToMark_30 : decode prog_13_method_37_code 30 = .ok (.invokevirtual 350, 3) := by decide +kernel
theorem kw_Model_350 : KW "NineBoardsModel" 350 ⟨"NineBoardsModel", "drops", "()V"⟩ prog_13_method_34_code 1 none 0 := ⟨(mt_6 (List.mem_of_getElem? (i := 231) rfl) rfl), (mt_1 (List.mem_of_getElem? (i := 16) rfl) rfl), (mt_6 (List.mem_of_getElem? (i := 234) rfl) rfl), by decide +kernel⟩
theorem kv_Model_drops : Cond.instanceMethod ⟨"NineBoardsModel", "drops", "()V"⟩ ∈ TB ∧ Cond.selects "NineBoardsModel" ⟨"NineBoardsModel", "drops", "()V"⟩ ⟨"NineBoardsModel", "drops", "()V"⟩ ∈ TB := ⟨(mt_6 (List.mem_of_getElem? (i := 233) rfl) rfl), (ms_0 (List.mem_map.mpr ⟨(⟨"NineBoardsModel", "drops", "()V"⟩, 79), List.mem_of_getElem? (i := 79) (by decide +kernel), rfl⟩) rfl)⟩
theorem d_Model_dropsToMark_33 : decode prog_13_method_37_code 33 = .ok (.goto (-33), 3) := by decide +kernel
set_option maxHeartbeats 4000000 in
set_option maxRecDepth 100000 in
theorem c_M_dropsToMark (l : Launch) (D : va_G) (y : Nat → ClassId) (mo : Nat) (ma : Nat → Nat) (t1 : Nat) (t2 : Nat) (t3 : Nat) (i4 : Int32) (i6 : Int32) (i7 : Int32) (i8 : Int32) (i42 : Int32) (i49 : Int32) (cd : Nat) (wn : Nat) (i54 : Int32) (bs : Nat) (i61 : Int32) (i64 : Int32) (i66 : Int32) (t67 : Nat) (i76 : Int64) (i78 : Int32) (g50 : Nat → Int32) (g52 : Nat → Int32) (s0 : Nat) (xx : Nat) (sk : List Nat) (cs : List Nat) (kq : Nat) (f0 : Nat → Int32) (he : t3 ≤ 1600) (ha : t2 ≤ t3) (hR : RS kq s0 f0 (xx + 1) 0 g50 g52 cd wn t2) (hT : ITm g52 bs) (hS : ISm g52 bs wn) (hbw : bs ≤ wn) (hwb : WB sk g52 bs wn) (hcd : CD cs g50 cd) (hK : 1 ≤ kq) : CT l D y ⟨"NineBoardsModel", "dropsToMark", "()V"⟩ prog_13_method_37_code 1 none ({ frames := 2, cells := 0, slots := 0, locals := 41 } : Room) [.ref mo] [MB mo ma (nI t1) (nI t2) (nI t3) i4 0 i6 i7 i8 i42 i49 (nI cd) (nI wn) i54 (nI bs) i61 i64 i66 (nI t67) i76 i78, (ma 50, .inl (y 0, 3200, .inl g50)), (ma 52, .inl (y 0, 1700, .inl g52))] (QV D [MB mo ma (nI t1) (nI t2) (nI t3) i4 0 i6 i7 i8 i42 i49 (nI cd) (nI wn) i54 (nI bs) i61 i64 i66 (nI t67) i76 i78, (ma 50, .inl (y 0, 3200, .inl g50)), (ma 52, .inl (y 0, 1700, .inl g52))] (fun (u : Nat × Nat × (Nat → Int32) × List Nat × List Nat) => bs ≤ u.2.1 ∧ u.2.1 ≤ wn ∧ u.1 + u.2.1 = cd + wn ∧ RS kq s0 f0 (xx + 1) 0 u.2.2.1 g52 u.1 u.2.1 t2 ∧ (u.2.1 = bs ∨ MK (g52 (u.2.1 - 1))) ∧ NMk g52 u.2.1 wn ∧ WB u.2.2.2.2 g52 bs u.2.1 ∧ CD u.2.2.2.1 u.2.2.1 u.1 ∧ drp nMk sk cs = (u.2.2.2.2, u.2.2.2.1)) (fun u => [MB mo ma (nI t1) (nI t2) (nI t3) i4 0 i6 i7 i8 i42 i49 (nI u.1) (nI u.2.1) i54 (nI bs) i61 i64 i66 (nI t67) i76 i78, (ma 50, .inl (y 0, 3200, .inl u.2.2.1)), (ma 52, .inl (y 0, 1700, .inl g52))])) := by
  refine CT.of (by decide) (nb rfl) ?_
  intro p e s m args below meth c C hr
  refine j_lv (lv' := [(0, .ref mo)]) rfl ?_
  refine j_loop (α := Nat × Nat × (Nat → Int32) × List Nat × List Nat) (fun a => a.1) (fun a => (bs ≤ a.1) ∧ (a.1 ≤ wn) ∧ (a.2.1 + a.1 = cd + wn) ∧ (RS kq s0 f0 (xx + 1) 0 a.2.2.1 g52 a.2.1 a.1 t2) ∧ (NMk g52 a.1 wn) ∧ (WB a.2.2.2.1 g52 bs a.1) ∧ (CD a.2.2.2.2 a.2.2.1 a.2.1) ∧ (drp nMk a.2.2.2.1 a.2.2.2.2 = drp nMk sk cs)) (fun a => [MB mo ma (nI t1) (nI t2) (nI t3) i4 0 i6 i7 i8 i42 i49 (nI a.2.1) (nI a.1) i54 (nI bs) i61 i64 i66 (nI t67) i76 i78, (ma 50, .inl (y 0, 3200, .inl a.2.2.1)), (ma 52, .inl (y 0, 1700, .inl g52))]) (fun a => [(0, .ref mo)]) (wn, cd, g50, sk, cs) rfl rfl ⟨hbw, (show wn ≤ wn by omega), (show cd + wn = cd + wn by omega), hR, nm_nil, hwb, hcd, rfl⟩ ?_
  rintro ⟨zn, zc, zf, sz, cz⟩ hP12 ih13
  obtain ⟨hb__, hn__, hsum__, hR__, hm__, hwz__, hcz__, hdz__⟩ := hP12
  have hb_ : bs ≤ zn := hb__
  have hn_ : zn ≤ wn := hn__
  have hsum_ : zc + zn = cd + wn := hsum__
  have hR_ : RS kq s0 f0 (xx + 1) 0 zf g52 zc zn t2 := hR__
  have hm_ : NMk g52 zn wn := hm__
  have hwz_ : WB sz g52 bs zn := hwz__
  have hcz_ : CD cz zf zc := hcz__
  have hdz_ : drp nMk sz cz = drp nMk sk cs := hdz__
  refine j_ws (ws' := [MB mo ma (nI t1) (nI t2) (nI t3) i4 0 i6 i7 i8 i42 i49 (nI zc) (nI zn) i54 (nI bs) i61 i64 i66 (nI t67) i76 i78, (ma 50, .inl (y 0, 3200, .inl zf)), (ma 52, .inl (y 0, 1700, .inl g52))]) rfl ?_
  refine j_lv (lv' := [(0, .ref mo)]) rfl ?_
  have hac := rs_ac3 hR_
  refine j_aload_n (pc := 0) C d_Model_dropsToMark_0 rfl 0 rfl ?_
  refine j_get (pc := 1) C gf_Model_292 0 rfl rfl d_Model_dropsToMark_1 ?_
  refine j_aload_n (pc := 4) C d_Model_dropsToMark_4 rfl 0 rfl ?_
  refine j_get (pc := 5) C gf_Model_298 0 rfl rfl d_Model_dropsToMark_5 ?_
  by_cases c14 : zn ≤ bs
  · refine j_icmp_leT (pc := 8) C (tgt := 36) d_Model_dropsToMark_8 (by decide) (show nI zn ≤ nI bs from nI_le (by omega) (by omega)) ?_
    exact j_vret (pc := 36) C hr (zc, zn, zf, cz, sz) ⟨(show bs ≤ zn by omega), (show zn ≤ wn by omega), (show zc + zn = cd + wn by omega), hR_, (Or.inl (show zn = bs by omega)), hm_, (show WB sz g52 bs zn from hwz_), hcz_, (by rw [← hdz_, wb_nil hwz_ (by omega)]; rfl)⟩ [0, 1, 2] rfl (by decide) (by decide) (by decide) d_Model_dropsToMark_36
  · refine j_icmp_leF (pc := 8) C (tgt := 36) d_Model_dropsToMark_8 (by decide) (show ¬ nI zn ≤ nI bs from nI_ge (by omega) (by omega)) ?_
    obtain ⟨vq15, sq16, xh17, xh18, xh19, xh20⟩ := wb_top hwz_ (show bs < zn by omega)
    refine j_aload_n (pc := 11) C d_Model_dropsToMark_11 rfl 0 rfl ?_
    refine j_aload_n (pc := 12) C d_Model_dropsToMark_12 rfl 0 rfl ?_
    refine j_get (pc := 13) C gf_Model_139 0 rfl rfl d_Model_dropsToMark_13 ?_
    refine j_aload_n (pc := 16) C d_Model_dropsToMark_16 rfl 0 rfl ?_
    refine j_get (pc := 17) C gf_Model_292 0 rfl rfl d_Model_dropsToMark_17 ?_
    refine j_iconst (pc := 20) C (v := 1) d_Model_dropsToMark_20 (by decide) ?_
    refine j_isub (pc := 21) C (v := nI (zn - 1)) d_Model_dropsToMark_21 (pk_sub (a := zn) (b := 1) (by omega)) ?_
    refine j_iald (pc := 22) C 2 rfl (v := g52 (zn - 1)) (vp_in_nI (by omega) (by decide)) (by rw [nI_clamp (by omega)]) d_Model_dropsToMark_22 ?_
    refine j_callVi (pc := 23) C (c_M_isMark l D y mo ma t1 t2 t3 i4 0 i6 i7 i8 i42 i49 (nI zc) (nI zn) i54 (nI bs) i61 i64 i66 t67 i76 i78 (g52 (zn - 1))) kw_Model_347 kv_Model_isMark 0 10 rfl rfl ⟨by decide, by decide⟩ ⟨by decide, by decide⟩ (wr := [(ma 50, .inl (y 0, 3200, .inl zf)), (ma 52, .inl (y 0, 1700, .inl g52))]) [0] [1, 2] rfl rfl (by decide) (by decide) (by decide) (As := [.int (g52 (zn - 1))]) (rest := []) rfl (nb rfl) rfl d_Model_dropsToMark_23 (fun r21 _ hr21 => ?_)
    refine j_ws (ws' := [(ma 50, .inl (y 0, 3200, .inl zf)), (ma 52, .inl (y 0, 1700, .inl g52)), MB mo ma (nI t1) (nI t2) (nI t3) i4 0 i6 i7 i8 i42 i49 (nI zc) (nI zn) i54 (nI bs) i61 i64 i66 (nI t67) i76 i78]) rfl ?_
    rcases hr21 with ⟨rfl, xh23⟩ | ⟨rfl, xh24⟩
    · refine j_if_neF (pc := 26) C (tgt := 36) d_Model_dropsToMark_26 (by decide) (by decide) ?_
      refine j_aload_n (pc := 29) C d_Model_dropsToMark_29 rfl 0 rfl ?_
      refine j_callVv (pc := 30) C (c_M_drops l D y mo ma t1 t2 t3 i4 0 i6 i7 i8 i42 i49 zc zn i54 (nI bs) i61 i64 i66 t67 i76 i78 zf g52 (by omega) (by omega) (by omega)) kw_Model_350 kv_Model_drops 0 10 rfl rfl ⟨by decide, by decide⟩ ⟨by decide, by decide⟩ (wr := []) [2, 0, 1] [] rfl rfl (by decide) (by decide) (by decide) (As := []) (rest := []) rfl (nb rfl) rfl d_Model_dropsToMark_30 (fun _ _ => ?_)
      refine j_ws (ws' := [MB mo ma (nI t1) (nI t2) (nI t3) i4 0 i6 i7 i8 i42 i49 (nI (zc + 1)) (nI (zn - 1)) i54 (nI bs) i61 i64 i66 (nI t67) i76 i78, (ma 50, .inl (y 0, 3200, .inl (upd zf zc (g52 (zn - 1))))), (ma 52, .inl (y 0, 1700, .inl g52))]) rfl ?_
      refine j_goto (pc := 33) C (tgt := 0) d_Model_dropsToMark_33 (by decide) ?_
      exact ih13 ((zn - 1), (zc + 1), (upd zf zc (g52 (zn - 1))), sq16, (putS vq15 cz)) ⟨(show bs ≤ (zn - 1) by omega), (show (zn - 1) ≤ wn by omega), (show (zc + 1) + (zn - 1) = cd + wn by omega), (show RS kq s0 f0 (xx + 1) 0 (upd zf zc (g52 (zn - 1))) g52 (zc + 1) (zn - 1) t2 from rs_drop hR_ (by omega) (show zn = zn - 1 + 1 by omega) (Or.inl (si_nm (hS (zn - 1) (by omega) (by omega)) xh23))), (nm_dn hm_ (by omega) xh23), xh20, (show CD (putS vq15 cz) (upd zf zc (g52 (zn - 1))) (zc + 1) from cd_put hcz_ (by omega) xh18 (by omega)), (show drp nMk sq16 (putS vq15 cz) = drp nMk sk cs by rw [← hdz_, xh17]; exact (drp_go (nmk_iff.mpr (fun q => xh23 (by rw [xh18]; exact (mk_iff xh19).mpr q)))).symm)⟩ (show (zn - 1) < zn by omega)
    · refine j_if_neT (pc := 26) C (tgt := 36) d_Model_dropsToMark_26 (by decide) (by decide) ?_
      exact j_vret (pc := 36) C hr (zc, zn, zf, cz, sz) ⟨(show bs ≤ zn by omega), (show zn ≤ wn by omega), (show zc + zn = cd + wn by omega), hR_, (Or.inr xh24), hm_, (show WB sz g52 bs zn from hwz_), hcz_, (by rw [← hdz_, xh17]; exact drp_hd (fun q => nmk_iff.mp q ((mk_iff xh19).mp (by rw [← xh18]; exact xh24))))⟩ [2, 0, 1] rfl (by decide) (by decide) (by decide) d_Model_dropsToMark_36
theorem d_Model_onePart_0 : decode prog_13_method_38_code 0 = .ok (.iconst 1, 1) := by decide +kernel
theorem d_Model_onePart_1 : decode prog_13_method_38_code 1 = .ok (.istore_n 1, 1) := by decide +kernel
theorem d_Model_onePart_2 : decode prog_13_method_38_code 2 = .ok (.iload_n 1, 1) := by decide +kernel
theorem d_Model_onePart_3 : decode prog_13_method_38_code 3 = .ok (.ifCond .eq 143, 3) := by decide +kernel
theorem d_Model_onePart_146 : decode prog_13_method_38_code 146 = .ok (.aload_n 0, 1) := by decide +kernel
theorem d_Model_onePart_147 : decode prog_13_method_38_code 147 = .ok (.getfield 201, 3) := by decide +kernel
theorem d_Model_onePart_150 : decode prog_13_method_38_code 150 = .ok (.ifCond .eq 4, 3) := by decide +kernel
theorem d_Model_onePart_154 : decode prog_13_method_38_code 154 = .ok (.aload_n 0, 1) := by decide +kernel
theorem d_Model_onePart_155 : decode prog_13_method_38_code 155 = .ok (.aload_n 0, 1) := by decide +kernel
theorem d_Model_onePart_156 : decode prog_13_method_38_code 156 = .ok (.getfield 102, 3) := by decide +kernel
theorem d_Model_onePart_159 : decode prog_13_method_38_code 159 = .ok (.invokevirtual 228, 3) := by decide +kernel
theorem d_Model_onePart_162 : decode prog_13_method_38_code 162 = .ok (.ifCond .eq 8, 3) := by decide +kernel
theorem d_Model_onePart_170 : decode prog_13_method_38_code 170 = .ok (.aload_n 0, 1) := by decide +kernel
theorem d_Model_onePart_171 : decode prog_13_method_38_code 171 = .ok (.aload_n 0, 1) := by decide +kernel
theorem d_Model_onePart_172 : decode prog_13_method_38_code 172 = .ok (.getfield 105, 3) := by decide +kernel
theorem d_Model_onePart_175 : decode prog_13_method_38_code 175 = .ok (.invokevirtual 228, 3) := by decide +kernel
theorem d_Model_onePart_178 : decode prog_13_method_38_code 178 = .ok (.ifCond .eq 8, 3) := by decide +kernel
theorem d_Model_onePart_186 : decode prog_13_method_38_code 186 = .ok (.aload_n 0, 1) := by decide +kernel
theorem d_Model_onePart_187 : decode prog_13_method_38_code 187 = .ok (.aload_n 0, 1) := by decide +kernel
theorem d_Model_onePart_188 : decode prog_13_method_38_code 188 = .ok (.getfield 108, 3) := by decide +kernel
theorem d_Model_onePart_191 : decode prog_13_method_38_code 191 = .ok (.invokevirtual 228, 3) := by decide +kernel
theorem d_Model_onePart_194 : decode prog_13_method_38_code 194 = .ok (.ifCond .eq 8, 3) := by decide +kernel
theorem d_Model_onePart_202 : decode prog_13_method_38_code 202 = .ok (.iconst (-1), 1) := by decide +kernel
theorem d_Model_onePart_203 : decode prog_13_method_38_code 203 = .ok (.istore_n 2, 1) := by decide +kernel
theorem d_Model_onePart_204 : decode prog_13_method_38_code 204 = .ok (.aload_n 0, 1) := by decide +kernel
theorem d_Model_onePart_205 : decode prog_13_method_38_code 205 = .ok (.iload_n 2, 1) := by decide +kernel
theorem d_Model_onePart_206 : decode prog_13_method_38_code 206 = .ok (.iconst (-1), 1) := by decide +kernel
theorem d_Model_onePart_207 : decode prog_13_method_38_code 207 = .ok (.if_icmp .eq 7, 3) := by decide +kernel
theorem d_Model_onePart_214 : decode prog_13_method_38_code 214 = .ok (.sipush 1000, 3) := by decide +kernel
theorem d_Model_onePart_217 : decode prog_13_method_38_code 217 = .ok (.aload_n 0, 1) := by decide +kernel
theorem d_Model_onePart_218 : decode prog_13_method_38_code 218 = .ok (.iconst 0, 1) := by decide +kernel
theorem d_Model_onePart_219 : decode prog_13_method_38_code 219 = .ok (.sipush 9999, 3) := by decide +kernel
theorem d_Model_onePart_222 : decode prog_13_method_38_code 222 = .ok (.invokevirtual 267, 3) := by decide +kernel
theorem kw_Model_267 : KW "NineBoardsModel" 267 ⟨"NineBoardsModel", "number", "(II)I"⟩ prog_13_method_14_code 5 (some .int) 2 := ⟨(mt_6 (List.mem_of_getElem? (i := 127) rfl) rfl), (mt_1 (List.mem_of_getElem? (i := 16) rfl) rfl), (mt_6 (List.mem_of_getElem? (i := 130) rfl) rfl), by decide +kernel⟩
theorem kv_Model_number : Cond.instanceMethod ⟨"NineBoardsModel", "number", "(II)I"⟩ ∈ TB ∧ Cond.selects "NineBoardsModel" ⟨"NineBoardsModel", "number", "(II)I"⟩ ⟨"NineBoardsModel", "number", "(II)I"⟩ ∈ TB := ⟨(mt_6 (List.mem_of_getElem? (i := 129) rfl) rfl), (ms_0 (List.mem_map.mpr ⟨(⟨"NineBoardsModel", "number", "(II)I"⟩, 79), List.mem_of_getElem? (i := 55) (by decide +kernel), rfl⟩) rfl)⟩
theorem d_Model_onePart_225 : decode prog_13_method_38_code 225 = .ok (.iadd, 1) := by decide +kernel
theorem d_Model_onePart_226 : decode prog_13_method_38_code 226 = .ok (.invokevirtual 344, 3) := by decide +kernel
theorem d_Model_onePart_229 : decode prog_13_method_38_code 229 = .ok (.return_, 1) := by decide +kernel
theorem d_Model_onePart_197 : decode prog_13_method_38_code 197 = .ok (.bipush 9, 2) := by decide +kernel
theorem d_Model_onePart_199 : decode prog_13_method_38_code 199 = .ok (.goto 4, 3) := by decide +kernel
theorem d_Model_onePart_210 : decode prog_13_method_38_code 210 = .ok (.iload_n 2, 1) := by decide +kernel
theorem d_Model_onePart_211 : decode prog_13_method_38_code 211 = .ok (.goto 15, 3) := by decide +kernel
theorem d_Model_onePart_181 : decode prog_13_method_38_code 181 = .ok (.bipush 8, 2) := by decide +kernel
theorem d_Model_onePart_183 : decode prog_13_method_38_code 183 = .ok (.goto 20, 3) := by decide +kernel
theorem d_Model_onePart_165 : decode prog_13_method_38_code 165 = .ok (.bipush 7, 2) := by decide +kernel
theorem d_Model_onePart_167 : decode prog_13_method_38_code 167 = .ok (.goto 36, 3) := by decide +kernel
theorem d_Model_onePart_153 : decode prog_13_method_38_code 153 = .ok (.return_, 1) := by decide +kernel
theorem d_Model_onePart_6 : decode prog_13_method_38_code 6 = .ok (.aload_n 0, 1) := by decide +kernel
theorem d_Model_onePart_7 : decode prog_13_method_38_code 7 = .ok (.getfield 201, 3) := by decide +kernel
theorem d_Model_onePart_10 : decode prog_13_method_38_code 10 = .ok (.ifCond .ne 136, 3) := by decide +kernel
theorem d_Model_onePart_13 : decode prog_13_method_38_code 13 = .ok (.aload_n 0, 1) := by decide +kernel
theorem d_Model_onePart_14 : decode prog_13_method_38_code 14 = .ok (.invokevirtual 213, 3) := by decide +kernel
theorem d_Model_onePart_17 : decode prog_13_method_38_code 17 = .ok (.istore_n 2, 1) := by decide +kernel
theorem d_Model_onePart_18 : decode prog_13_method_38_code 18 = .ok (.iload_n 2, 1) := by decide +kernel
theorem d_Model_onePart_19 : decode prog_13_method_38_code 19 = .ok (.bipush 40, 2) := by decide +kernel
theorem d_Model_onePart_21 : decode prog_13_method_38_code 21 = .ok (.if_icmp .ne 26, 3) := by decide +kernel
theorem d_Model_onePart_47 : decode prog_13_method_38_code 47 = .ok (.aload_n 0, 1) := by decide +kernel
theorem d_Model_onePart_48 : decode prog_13_method_38_code 48 = .ok (.aload_n 0, 1) := by decide +kernel
theorem d_Model_onePart_49 : decode prog_13_method_38_code 49 = .ok (.getfield 111, 3) := by decide +kernel
theorem d_Model_onePart_52 : decode prog_13_method_38_code 52 = .ok (.invokevirtual 224, 3) := by decide +kernel
theorem d_Model_onePart_55 : decode prog_13_method_38_code 55 = .ok (.ifCond .ne 14, 3) := by decide +kernel
theorem d_Model_onePart_58 : decode prog_13_method_38_code 58 = .ok (.aload_n 0, 1) := by decide +kernel
theorem d_Model_onePart_59 : decode prog_13_method_38_code 59 = .ok (.aload_n 0, 1) := by decide +kernel
theorem d_Model_onePart_60 : decode prog_13_method_38_code 60 = .ok (.getfield 114, 3) := by decide +kernel
theorem d_Model_onePart_63 : decode prog_13_method_38_code 63 = .ok (.invokevirtual 224, 3) := by decide +kernel
theorem d_Model_onePart_66 : decode prog_13_method_38_code 66 = .ok (.ifCond .eq 75, 3) := by decide +kernel
theorem d_Model_onePart_141 : decode prog_13_method_38_code 141 = .ok (.iconst 0, 1) := by decide +kernel
theorem d_Model_onePart_142 : decode prog_13_method_38_code 142 = .ok (.istore_n 1, 1) := by decide +kernel
theorem d_Model_onePart_143 : decode prog_13_method_38_code 143 = .ok (.goto (-141), 3) := by decide +kernel
theorem d_Model_onePart_69 : decode prog_13_method_38_code 69 = .ok (.aload_n 0, 1) := by decide +kernel
theorem d_Model_onePart_70 : decode prog_13_method_38_code 70 = .ok (.aload_n 0, 1) := by decide +kernel
theorem d_Model_onePart_71 : decode prog_13_method_38_code 71 = .ok (.getfield 111, 3) := by decide +kernel
theorem d_Model_onePart_74 : decode prog_13_method_38_code 74 = .ok (.invokevirtual 228, 3) := by decide +kernel
theorem d_Model_onePart_77 : decode prog_13_method_38_code 77 = .ok (.istore_n 3, 1) := by decide +kernel
theorem d_Model_onePart_78 : decode prog_13_method_38_code 78 = .ok (.iload_n 3, 1) := by decide +kernel
theorem d_Model_onePart_79 : decode prog_13_method_38_code 79 = .ok (.ifCond .ne 11, 3) := by decide +kernel
theorem d_Model_onePart_82 : decode prog_13_method_38_code 82 = .ok (.aload_n 0, 1) := by decide +kernel
theorem d_Model_onePart_83 : decode prog_13_method_38_code 83 = .ok (.aload_n 0, 1) := by decide +kernel
theorem d_Model_onePart_84 : decode prog_13_method_38_code 84 = .ok (.getfield 114, 3) := by decide +kernel
theorem d_Model_onePart_87 : decode prog_13_method_38_code 87 = .ok (.invokevirtual 263, 3) := by decide +kernel
theorem kw_Model_263 : KW "NineBoardsModel" 263 ⟨"NineBoardsModel", "asks", "([C)V"⟩ prog_13_method_11_code 2 none 1 := ⟨(mt_6 (List.mem_of_getElem? (i := 104) rfl) rfl), (mt_1 (List.mem_of_getElem? (i := 16) rfl) rfl), (mt_6 (List.mem_of_getElem? (i := 107) rfl) rfl), by decide +kernel⟩
theorem kv_Model_asks : Cond.instanceMethod ⟨"NineBoardsModel", "asks", "([C)V"⟩ ∈ TB ∧ Cond.selects "NineBoardsModel" ⟨"NineBoardsModel", "asks", "([C)V"⟩ ⟨"NineBoardsModel", "asks", "([C)V"⟩ ∈ TB := ⟨(mt_6 (List.mem_of_getElem? (i := 106) rfl) rfl), (ms_0 (List.mem_map.mpr ⟨(⟨"NineBoardsModel", "asks", "([C)V"⟩, 79), List.mem_of_getElem? (i := 50) (by decide +kernel), rfl⟩) rfl)⟩
theorem d_Model_onePart_90 : decode prog_13_method_38_code 90 = .ok (.aload_n 0, 1) := by decide +kernel
theorem d_Model_onePart_91 : decode prog_13_method_38_code 91 = .ok (.invokevirtual 213, 3) := by decide +kernel
theorem d_Model_onePart_94 : decode prog_13_method_38_code 94 = .ok (.bipush 40, 2) := by decide +kernel
theorem d_Model_onePart_96 : decode prog_13_method_38_code 96 = .ok (.if_icmp .ne 10, 3) := by decide +kernel
theorem d_Model_onePart_106 : decode prog_13_method_38_code 106 = .ok (.iconst (-1), 1) := by decide +kernel
theorem d_Model_onePart_107 : decode prog_13_method_38_code 107 = .ok (.istore 4, 2) := by decide +kernel
theorem d_Model_onePart_109 : decode prog_13_method_38_code 109 = .ok (.iload 4, 2) := by decide +kernel
theorem d_Model_onePart_111 : decode prog_13_method_38_code 111 = .ok (.iconst (-1), 1) := by decide +kernel
theorem d_Model_onePart_112 : decode prog_13_method_38_code 112 = .ok (.if_icmp .eq 20, 3) := by decide +kernel
theorem d_Model_onePart_132 : decode prog_13_method_38_code 132 = .ok (.aload_n 0, 1) := by decide +kernel
theorem d_Model_onePart_133 : decode prog_13_method_38_code 133 = .ok (.bipush 40, 2) := by decide +kernel
theorem d_Model_onePart_135 : decode prog_13_method_38_code 135 = .ok (.invokevirtual 271, 3) := by decide +kernel
theorem kw_Model_271 : KW "NineBoardsModel" 271 ⟨"NineBoardsModel", "asksSign", "(I)V"⟩ prog_13_method_13_code 2 none 1 := ⟨(mt_6 (List.mem_of_getElem? (i := 137) rfl) rfl), (mt_1 (List.mem_of_getElem? (i := 16) rfl) rfl), (mt_6 (List.mem_of_getElem? (i := 140) rfl) rfl), by decide +kernel⟩
theorem kv_Model_asksSign : Cond.instanceMethod ⟨"NineBoardsModel", "asksSign", "(I)V"⟩ ∈ TB ∧ Cond.selects "NineBoardsModel" ⟨"NineBoardsModel", "asksSign", "(I)V"⟩ ⟨"NineBoardsModel", "asksSign", "(I)V"⟩ ∈ TB := ⟨(mt_6 (List.mem_of_getElem? (i := 139) rfl) rfl), (ms_0 (List.mem_map.mpr ⟨(⟨"NineBoardsModel", "asksSign", "(I)V"⟩, 79), List.mem_of_getElem? (i := 56) (by decide +kernel), rfl⟩) rfl)⟩
theorem d_Model_onePart_138 : decode prog_13_method_38_code 138 = .ok (.goto 5, 3) := by decide +kernel
theorem d_Model_onePart_99 : decode prog_13_method_38_code 99 = .ok (.aload_n 0, 1) := by decide +kernel
theorem d_Model_onePart_100 : decode prog_13_method_38_code 100 = .ok (.getfield 207, 3) := by decide +kernel
theorem d_Model_onePart_103 : decode prog_13_method_38_code 103 = .ok (.goto 4, 3) := by decide +kernel
theorem d_Model_onePart_115 : decode prog_13_method_38_code 115 = .ok (.aload_n 0, 1) := by decide +kernel
theorem d_Model_onePart_116 : decode prog_13_method_38_code 116 = .ok (.iload_n 3, 1) := by decide +kernel
theorem d_Model_onePart_117 : decode prog_13_method_38_code 117 = .ok (.ifCond .eq 8, 3) := by decide +kernel
theorem d_Model_onePart_125 : decode prog_13_method_38_code 125 = .ok (.bipush 22, 2) := by decide +kernel
theorem d_Model_onePart_127 : decode prog_13_method_38_code 127 = .ok (.iload 4, 2) := by decide +kernel
theorem d_Model_onePart_129 : decode prog_13_method_38_code 129 = .ok (.invokevirtual 353, 3) := by decide +kernel
theorem kw_Model_353 : KW "NineBoardsModel" 353 ⟨"NineBoardsModel", "opens", "(II)V"⟩ prog_13_method_32_code 3 none 2 := ⟨(mt_6 (List.mem_of_getElem? (i := 207) rfl) rfl), (mt_1 (List.mem_of_getElem? (i := 16) rfl) rfl), (mt_6 (List.mem_of_getElem? (i := 210) rfl) rfl), by decide +kernel⟩
theorem kv_Model_opens : Cond.instanceMethod ⟨"NineBoardsModel", "opens", "(II)V"⟩ ∈ TB ∧ Cond.selects "NineBoardsModel" ⟨"NineBoardsModel", "opens", "(II)V"⟩ ⟨"NineBoardsModel", "opens", "(II)V"⟩ ∈ TB := ⟨(mt_6 (List.mem_of_getElem? (i := 209) rfl) rfl), (ms_0 (List.mem_map.mpr ⟨(⟨"NineBoardsModel", "opens", "(II)V"⟩, 79), List.mem_of_getElem? (i := 73) (by decide +kernel), rfl⟩) rfl)⟩
theorem d_Model_onePart_120 : decode prog_13_method_38_code 120 = .ok (.bipush 21, 2) := by decide +kernel
theorem d_Model_onePart_122 : decode prog_13_method_38_code 122 = .ok (.goto 5, 3) := by decide +kernel
theorem d_Model_onePart_24 : decode prog_13_method_38_code 24 = .ok (.aload_n 0, 1) := by decide +kernel
theorem d_Model_onePart_25 : decode prog_13_method_38_code 25 = .ok (.bipush 20, 2) := by decide +kernel
theorem d_Model_onePart_27 : decode prog_13_method_38_code 27 = .ok (.aload_n 0, 1) := by decide +kernel
theorem d_Model_onePart_28 : decode prog_13_method_38_code 28 = .ok (.getfield 207, 3) := by decide +kernel
theorem d_Model_onePart_31 : decode prog_13_method_38_code 31 = .ok (.invokevirtual 353, 3) := by decide +kernel
theorem d_Model_onePart_34 : decode prog_13_method_38_code 34 = .ok (.aload_n 0, 1) := by decide +kernel
theorem d_Model_onePart_35 : decode prog_13_method_38_code 35 = .ok (.dup, 1) := by decide +kernel
theorem d_Model_onePart_36 : decode prog_13_method_38_code 36 = .ok (.getfield 207, 3) := by decide +kernel
theorem d_Model_onePart_39 : decode prog_13_method_38_code 39 = .ok (.iconst 1, 1) := by decide +kernel
theorem d_Model_onePart_40 : decode prog_13_method_38_code 40 = .ok (.iadd, 1) := by decide +kernel
theorem d_Model_onePart_41 : decode prog_13_method_38_code 41 = .ok (.putfield 207, 3) := by decide +kernel
theorem d_Model_onePart_44 : decode prog_13_method_38_code 44 = .ok (.goto 99, 3) := by decide +kernel
set_option maxHeartbeats 4000000 in
set_option maxRecDepth 100000 in
theorem c_M_onePart (l : Launch) (D : va_G) (y : Nat → ClassId) (mo : Nat) (ma : Nat → Nat) (t1 : Nat) (t2 : Nat) (t3 : Nat) (i4 : Int32) (i6 : Int32) (i7 : Int32) (i8 : Int32) (i42 : Int32) (i49 : Int32) (cd : Nat) (wn : Nat) (oo : Nat) (bs : Nat) (i61 : Int32) (i64 : Int32) (i66 : Int32) (t67 : Nat) (i76 : Int64) (i78 : Int32) (tx : Nat → Nat) (g50 : Nat → Int32) (g52 : Nat → Int32) (gs : PS) (s0 : Nat) (xx : Nat) (sk : List Nat) (cs : List Nat) (kq : Nat) (f0 : Nat → Int32) (ha : t2 ≤ t3) (he : t3 ≤ 1600) (hB : ∀ j, tx j < 256) (hx : RR tx t3 gs t2 i4 0 i6) (hR : RS kq s0 f0 xx 0 g50 g52 cd wn t2) (hT : ITm g52 bs) (hS : ISm g52 bs wn) (hbw : bs ≤ wn) (hwb : WB sk g52 bs wn) (hcd : CD cs g50 cd) (hop : opn sk ≤ oo) (ho6 : oo ≤ 6) (hK : 1 ≤ kq) : CT l D y ⟨"NineBoardsModel", "onePart", "()V"⟩ prog_13_method_38_code 5 none ({ frames := 4, cells := 0, slots := 0, locals := 85 } : Room) [.ref mo] [MB mo ma (nI t1) (nI t2) (nI t3) i4 0 i6 i7 i8 i42 i49 (nI cd) (nI wn) (nI oo) (nI bs) i61 i64 i66 (nI t67) i76 i78, (ma 0, .inl (y 0, 1600, .inl (tby tx))), (ma 37, .inl (y 3, 3, .inl (WD 28))), (ma 38, .inl (y 3, 5, .inl (WD 29))), (ma 39, .inl (y 3, 5, .inl (WD 30))), (ma 40, .inl (y 3, 3, .inl (WD 31))), (ma 41, .inl (y 3, 3, .inl (WD 32))), (ma 50, .inl (y 0, 3200, .inl g50)), (ma 52, .inl (y 0, 1700, .inl g52))] (QV D [MB mo ma (nI t1) (nI t2) (nI t3) i4 0 i6 i7 i8 i42 i49 (nI cd) (nI wn) (nI oo) (nI bs) i61 i64 i66 (nI t67) i76 i78, (ma 0, .inl (y 0, 1600, .inl (tby tx))), (ma 37, .inl (y 3, 3, .inl (WD 28))), (ma 38, .inl (y 3, 5, .inl (WD 29))), (ma 39, .inl (y 3, 5, .inl (WD 30))), (ma 40, .inl (y 3, 3, .inl (WD 31))), (ma 41, .inl (y 3, 3, .inl (WD 32))), (ma 50, .inl (y 0, 3200, .inl g50)), (ma 52, .inl (y 0, 1700, .inl g52))] (fun (u : Nat × Int32 × Int32 × Int32 × Nat × Nat × Nat × (Nat → Int32) × (Nat → Int32) × PS × List Nat × List Nat) => t2 ≤ u.1 ∧ u.1 ≤ t3 ∧ (u.2.2.1 = 0 → 0 = 0 ∧ t2 < u.1) ∧ RS kq s0 f0 (xx + 1) u.2.2.1 u.2.2.2.2.2.2.2.1 u.2.2.2.2.2.2.2.2.1 u.2.2.2.2.1 u.2.2.2.2.2.1 u.1 ∧ ITm u.2.2.2.2.2.2.2.2.1 bs ∧ ISm u.2.2.2.2.2.2.2.2.1 bs u.2.2.2.2.2.1 ∧ bs ≤ u.2.2.2.2.2.1 ∧ RR tx t3 u.2.2.2.2.2.2.2.2.2.1 u.1 u.2.1 u.2.2.1 u.2.2.2.1 ∧ (∀ j, j < bs → u.2.2.2.2.2.2.2.2.1 j = g52 j) ∧ u.2.2.2.2.2.2.1 ≤ 6 ∧ (u.2.2.1 = 0 → Rch tx t3 (0, (gs, cs, sk, oo)) (1, (u.2.2.2.2.2.2.2.2.2.1, u.2.2.2.2.2.2.2.2.2.2.1, u.2.2.2.2.2.2.2.2.2.2.2, u.2.2.2.2.2.2.1)) ∧ CD u.2.2.2.2.2.2.2.2.2.2.1 u.2.2.2.2.2.2.2.1 u.2.2.2.2.1 ∧ WB u.2.2.2.2.2.2.2.2.2.2.2 u.2.2.2.2.2.2.2.2.1 bs u.2.2.2.2.2.1 ∧ opn u.2.2.2.2.2.2.2.2.2.2.2 ≤ u.2.2.2.2.2.2.1) ∧ (¬ u.2.2.1 = 0 → ∃ c3 s3 o3, Rch tx t3 (0, (gs, cs, sk, oo)) (2, (u.2.2.2.2.2.2.2.2.2.1, c3, s3, o3)))) (fun u => [MB mo ma (nI t1) (nI u.1) (nI t3) u.2.1 u.2.2.1 u.2.2.2.1 i7 i8 i42 i49 (nI u.2.2.2.2.1) (nI u.2.2.2.2.2.1) (nI u.2.2.2.2.2.2.1) (nI bs) i61 i64 i66 (nI t67) i76 i78, (ma 0, .inl (y 0, 1600, .inl (tby tx))), (ma 37, .inl (y 3, 3, .inl (WD 28))), (ma 38, .inl (y 3, 5, .inl (WD 29))), (ma 39, .inl (y 3, 5, .inl (WD 30))), (ma 40, .inl (y 3, 3, .inl (WD 31))), (ma 41, .inl (y 3, 3, .inl (WD 32))), (ma 50, .inl (y 0, 3200, .inl u.2.2.2.2.2.2.2.1)), (ma 52, .inl (y 0, 1700, .inl u.2.2.2.2.2.2.2.2.1))])) := by
  refine CT.of (by decide) (nb rfl) ?_
  intro p e s m args below meth c C hr
  refine j_lv (lv' := [(0, .ref mo)]) rfl ?_
  refine j_iconst (pc := 0) C (v := 1) d_Model_onePart_0 (by decide) ?_
  refine j_istore_n (pc := 1) C (lv' := [(1, .int 1), (0, .ref mo)]) d_Model_onePart_1 rfl (by decide) rfl ?_
  refine j_loop (α := Nat × Nat × Int32 × (Nat → Int32) × Nat × Int32 × Int32 × Nat × PS × List Nat) (fun a => 2 * (t3 - a.2.1) + bz1 a.2.2.1 + a.1) (fun a => (a.1 ≤ 1) ∧ (a.2.1 ≤ t3) ∧ (t2 ≤ a.2.1) ∧ (RS kq s0 f0 xx a.2.2.1 g50 a.2.2.2.1 cd a.2.2.2.2.1 a.2.1) ∧ (ITm a.2.2.2.1 bs) ∧ (ISm a.2.2.2.1 bs a.2.2.2.2.1) ∧ (bs ≤ a.2.2.2.2.1) ∧ (RR tx t3 a.2.2.2.2.2.2.2.2.1 a.2.1 a.2.2.2.2.2.1 a.2.2.1 a.2.2.2.2.2.2.1) ∧ ((a.2.2.1 = 0 → Rch tx t3 (0, (gs, cs, sk, oo)) (0, (a.2.2.2.2.2.2.2.2.1, cs, a.2.2.2.2.2.2.2.2.2, a.2.2.2.2.2.2.2.1)) ∧ WB a.2.2.2.2.2.2.2.2.2 a.2.2.2.1 bs a.2.2.2.2.1 ∧ opn a.2.2.2.2.2.2.2.2.2 ≤ a.2.2.2.2.2.2.2.1)) ∧ (a.2.2.2.2.2.2.2.1 ≤ 6) ∧ ((¬ a.2.2.1 = 0 → ∃ c3 s3 o3, Rch tx t3 (0, (gs, cs, sk, oo)) (2, (a.2.2.2.2.2.2.2.2.1, c3, s3, o3)))) ∧ ((a.1 = 0 → a.2.2.1 = 0 → ¬ issS tx t3 40 a.2.2.2.2.2.2.2.2.1 = true ∧ ¬ iswS tx t3 31 a.2.2.2.2.2.2.2.2.1 = true ∧ ¬ iswS tx t3 32 a.2.2.2.2.2.2.2.2.1 = true)) ∧ ((∀ j, j < bs → a.2.2.2.1 j = g52 j))) (fun a => [MB mo ma (nI t1) (nI a.2.1) (nI t3) a.2.2.2.2.2.1 a.2.2.1 a.2.2.2.2.2.2.1 i7 i8 i42 i49 (nI cd) (nI a.2.2.2.2.1) (nI a.2.2.2.2.2.2.2.1) (nI bs) i61 i64 i66 (nI t67) i76 i78, (ma 0, .inl (y 0, 1600, .inl (tby tx))), (ma 37, .inl (y 3, 3, .inl (WD 28))), (ma 38, .inl (y 3, 5, .inl (WD 29))), (ma 39, .inl (y 3, 5, .inl (WD 30))), (ma 40, .inl (y 3, 3, .inl (WD 31))), (ma 41, .inl (y 3, 3, .inl (WD 32))), (ma 50, .inl (y 0, 3200, .inl g50)), (ma 52, .inl (y 0, 1700, .inl a.2.2.2.1))]) (fun a => [(1, .int (nI a.1)), (0, .ref mo)]) (1, t2, 0, g52, wn, i4, i6, oo, gs, sk) rfl rfl ⟨(show 1 ≤ 1 by omega), ha, (show t2 ≤ t2 by omega), (show RS kq s0 f0 xx 0 g50 g52 cd wn t2 from (rs_at hR (by omega))), hT, hS, hbw, (show RR tx t3 gs t2 i4 0 i6 from hx), (fun _ => ⟨Rch.rf _, hwb, hop⟩), ho6, (fun e => absurd rfl e), (fun e => absurd (show (1 : Nat) = 0 from e) (by decide)), (fun _ _ => rfl)⟩ ?_
  rintro ⟨mz, az, bz, zw, zn, ez, pz, oz, gz, sz⟩ hP455 ih456
  obtain ⟨hmz__, hz__, hy__, hR__, hT__, hS__, hb__, hrr__, hal__, ho__, hde__, hlf__, hF__⟩ := hP455
  have hmz_ : mz ≤ 1 := hmz__
  have hz_ : az ≤ t3 := hz__
  have hy_ : t2 ≤ az := hy__
  have hR_ : RS kq s0 f0 xx bz g50 zw cd zn az := hR__
  have hT_ : ITm zw bs := hT__
  have hS_ : ISm zw bs zn := hS__
  have hb_ : bs ≤ zn := hb__
  have hrr_ : RR tx t3 gz az ez bz pz := hrr__
  have hal_ : (bz = 0 → Rch tx t3 (0, (gs, cs, sk, oo)) (0, (gz, cs, sz, oz)) ∧ WB sz zw bs zn ∧ opn sz ≤ oz) := hal__
  have ho_ : oz ≤ 6 := ho__
  have hde_ : (¬ bz = 0 → ∃ c3 s3 o3, Rch tx t3 (0, (gs, cs, sk, oo)) (2, (gz, c3, s3, o3))) := hde__
  have hlf_ : (mz = 0 → bz = 0 → ¬ issS tx t3 40 gz = true ∧ ¬ iswS tx t3 31 gz = true ∧ ¬ iswS tx t3 32 gz = true) := hlf__
  have hF_ : (∀ j, j < bs → zw j = g52 j) := hF__
  refine j_ws (ws' := [MB mo ma (nI t1) (nI az) (nI t3) ez bz pz i7 i8 i42 i49 (nI cd) (nI zn) (nI oz) (nI bs) i61 i64 i66 (nI t67) i76 i78, (ma 0, .inl (y 0, 1600, .inl (tby tx))), (ma 37, .inl (y 3, 3, .inl (WD 28))), (ma 38, .inl (y 3, 5, .inl (WD 29))), (ma 39, .inl (y 3, 5, .inl (WD 30))), (ma 40, .inl (y 3, 3, .inl (WD 31))), (ma 41, .inl (y 3, 3, .inl (WD 32))), (ma 50, .inl (y 0, 3200, .inl g50)), (ma 52, .inl (y 0, 1700, .inl zw))]) rfl ?_
  refine j_lv (lv' := [(1, .int (nI mz)), (0, .ref mo)]) rfl ?_
  have hac := rs_acc hR_
  refine j_iload_n (pc := 2) C d_Model_onePart_2 rfl 0 rfl ?_
  by_cases c457 : mz = 0
  · refine j_if_eqT (pc := 3) C (tgt := 146) d_Model_onePart_3 (by decide) (show nI mz = nI 0 from (nI_eq (by omega) (by omega)).mpr (by omega)) ?_
    refine j_aload_n (pc := 146) C d_Model_onePart_146 rfl 1 rfl ?_
    refine j_get (pc := 147) C gf_Model_201 0 rfl rfl d_Model_onePart_147 ?_
    refine j_if_eq (pc := 150) C (tgt := 154) d_Model_onePart_150 (by decide) (fun c458 => ?_) (fun c458 => ?_)
    · refine j_ws (ws' := [MB mo ma (nI t1) (nI az) (nI t3) ez 0 pz i7 i8 i42 i49 (nI cd) (nI zn) (nI oz) (nI bs) i61 i64 i66 (nI t67) i76 i78, (ma 0, .inl (y 0, 1600, .inl (tby tx))), (ma 37, .inl (y 3, 3, .inl (WD 28))), (ma 38, .inl (y 3, 5, .inl (WD 29))), (ma 39, .inl (y 3, 5, .inl (WD 30))), (ma 40, .inl (y 3, 3, .inl (WD 31))), (ma 41, .inl (y 3, 3, .inl (WD 32))), (ma 50, .inl (y 0, 3200, .inl g50)), (ma 52, .inl (y 0, 1700, .inl zw))]) (by rw [c458]) ?_
      have xh459 : RS kq s0 f0 xx 0 g50 zw cd zn az := rs_z hR_ c458
      have xh460 : RR tx t3 gz az ez 0 pz := by have hq := hrr_; rw [c458] at hq; exact hq
      have hac4 := rs_ac3 xh459
      obtain ⟨xh461, xh462, xh463⟩ := hal_ c458
      obtain ⟨xh464, xh465, xh466⟩ := hlf_ (by omega) c458
      have xh467 : gz.1 = 0 := ((rr_z xh460).mp rfl)
      refine j_aload_n (pc := 154) C d_Model_onePart_154 rfl 1 rfl ?_
      refine j_aload_n (pc := 155) C d_Model_onePart_155 rfl 1 rfl ?_
      refine j_get (pc := 156) C gf_Model_102 0 rfl rfl d_Model_onePart_156 ?_
      refine j_callVi (pc := 159) C (c_M_takes_3 l D y mo (ma 37) ma t1 az t3 ez 0 pz i7 i8 i42 i49 (nI cd) (nI zn) (nI oz) (nI bs) i61 i64 i66 t67 i76 i78 tx 28 gz hz_ he hB xh460 (by omega) (by decide)) kw_Model_228 kv_Model_takes 0 10 rfl rfl ⟨by decide, by decide⟩ ⟨by decide, by decide⟩ (wr := [(ma 38, .inl (y 3, 5, .inl (WD 29))), (ma 39, .inl (y 3, 5, .inl (WD 30))), (ma 40, .inl (y 3, 3, .inl (WD 31))), (ma 41, .inl (y 3, 3, .inl (WD 32))), (ma 50, .inl (y 0, 3200, .inl g50)), (ma 52, .inl (y 0, 1700, .inl zw))]) [0, 1, 2] [3, 4, 5, 6, 7, 8] rfl rfl (by decide +kernel) (by decide +kernel) (by decide +kernel) (As := [.ref (ma 37)]) (rest := []) rfl (nb rfl) rfl d_Model_onePart_159 (fun r468 u469 hr468 => ?_)
      refine j_ws (ws' := [(ma 38, .inl (y 3, 5, .inl (WD 29))), (ma 39, .inl (y 3, 5, .inl (WD 30))), (ma 40, .inl (y 3, 3, .inl (WD 31))), (ma 41, .inl (y 3, 3, .inl (WD 32))), (ma 50, .inl (y 0, 3200, .inl g50)), (ma 52, .inl (y 0, 1700, .inl zw)), MB mo ma (nI t1) (nI u469.1) (nI t3) u469.2 0 pz i7 i8 i42 i49 (nI cd) (nI zn) (nI oz) (nI bs) i61 i64 i66 (nI t67) i76 i78, (ma 0, .inl (y 0, 1600, .inl (tby tx))), (ma 37, .inl (y 3, 3, .inl (WD 28)))]) rfl ?_
      obtain ⟨xh470, xh471, xh472⟩ := hr468
      rcases xh472 with ⟨rfl, xh473, xh474, xh475⟩ | ⟨rfl, xh476, xh477, xh478⟩
      · refine j_if_eqT (pc := 162) C (tgt := 170) d_Model_onePart_162 (by decide) (by decide) ?_
        refine j_aload_n (pc := 170) C d_Model_onePart_170 rfl 1 rfl ?_
        refine j_aload_n (pc := 171) C d_Model_onePart_171 rfl 1 rfl ?_
        refine j_get (pc := 172) C gf_Model_105 6 rfl rfl d_Model_onePart_172 ?_
        refine j_callVi (pc := 175) C (c_M_takes_5 l D y mo (ma 38) ma t1 u469.1 t3 u469.2 0 pz i7 i8 i42 i49 (nI cd) (nI zn) (nI oz) (nI bs) i61 i64 i66 t67 i76 i78 tx 29 gz xh471 he hB xh473 (by omega) (by decide)) kw_Model_228 kv_Model_takes 0 10 rfl rfl ⟨by decide, by decide⟩ ⟨by decide, by decide⟩ (wr := [(ma 39, .inl (y 3, 5, .inl (WD 30))), (ma 40, .inl (y 3, 3, .inl (WD 31))), (ma 41, .inl (y 3, 3, .inl (WD 32))), (ma 50, .inl (y 0, 3200, .inl g50)), (ma 52, .inl (y 0, 1700, .inl zw)), (ma 37, .inl (y 3, 3, .inl (WD 28)))]) [6, 7, 0] [1, 2, 3, 4, 5, 8] rfl rfl (by decide +kernel) (by decide +kernel) (by decide +kernel) (As := [.ref (ma 38)]) (rest := []) rfl (nb rfl) rfl d_Model_onePart_175 (fun r479 u480 hr479 => ?_)
        refine j_ws (ws' := [(ma 39, .inl (y 3, 5, .inl (WD 30))), (ma 40, .inl (y 3, 3, .inl (WD 31))), (ma 41, .inl (y 3, 3, .inl (WD 32))), (ma 50, .inl (y 0, 3200, .inl g50)), (ma 52, .inl (y 0, 1700, .inl zw)), (ma 37, .inl (y 3, 3, .inl (WD 28))), MB mo ma (nI t1) (nI u480.1) (nI t3) u480.2 0 pz i7 i8 i42 i49 (nI cd) (nI zn) (nI oz) (nI bs) i61 i64 i66 (nI t67) i76 i78, (ma 0, .inl (y 0, 1600, .inl (tby tx))), (ma 38, .inl (y 3, 5, .inl (WD 29)))]) rfl ?_
        obtain ⟨xh481, xh482, xh483⟩ := hr479
        rcases xh483 with ⟨rfl, xh484, xh485, xh486⟩ | ⟨rfl, xh487, xh488, xh489⟩
        · refine j_if_eqT (pc := 178) C (tgt := 186) d_Model_onePart_178 (by decide) (by decide) ?_
          refine j_aload_n (pc := 186) C d_Model_onePart_186 rfl 1 rfl ?_
          refine j_aload_n (pc := 187) C d_Model_onePart_187 rfl 1 rfl ?_
          refine j_get (pc := 188) C gf_Model_108 6 rfl rfl d_Model_onePart_188 ?_
          refine j_callVi (pc := 191) C (c_M_takes_5 l D y mo (ma 39) ma t1 u480.1 t3 u480.2 0 pz i7 i8 i42 i49 (nI cd) (nI zn) (nI oz) (nI bs) i61 i64 i66 t67 i76 i78 tx 30 gz xh482 he hB xh484 (by omega) (by decide)) kw_Model_228 kv_Model_takes 0 10 rfl rfl ⟨by decide, by decide⟩ ⟨by decide, by decide⟩ (wr := [(ma 40, .inl (y 3, 3, .inl (WD 31))), (ma 41, .inl (y 3, 3, .inl (WD 32))), (ma 50, .inl (y 0, 3200, .inl g50)), (ma 52, .inl (y 0, 1700, .inl zw)), (ma 37, .inl (y 3, 3, .inl (WD 28))), (ma 38, .inl (y 3, 5, .inl (WD 29)))]) [6, 7, 0] [1, 2, 3, 4, 5, 8] rfl rfl (by decide +kernel) (by decide +kernel) (by decide +kernel) (As := [.ref (ma 39)]) (rest := []) rfl (nb rfl) rfl d_Model_onePart_191 (fun r490 u491 hr490 => ?_)
          refine j_ws (ws' := [(ma 40, .inl (y 3, 3, .inl (WD 31))), (ma 41, .inl (y 3, 3, .inl (WD 32))), (ma 50, .inl (y 0, 3200, .inl g50)), (ma 52, .inl (y 0, 1700, .inl zw)), (ma 37, .inl (y 3, 3, .inl (WD 28))), (ma 38, .inl (y 3, 5, .inl (WD 29))), MB mo ma (nI t1) (nI u491.1) (nI t3) u491.2 0 pz i7 i8 i42 i49 (nI cd) (nI zn) (nI oz) (nI bs) i61 i64 i66 (nI t67) i76 i78, (ma 0, .inl (y 0, 1600, .inl (tby tx))), (ma 39, .inl (y 3, 5, .inl (WD 30)))]) rfl ?_
          obtain ⟨xh492, xh493, xh494⟩ := hr490
          rcases xh494 with ⟨rfl, xh495, xh496, xh497⟩ | ⟨rfl, xh498, xh499, xh500⟩
          · refine j_if_eqT (pc := 194) C (tgt := 202) d_Model_onePart_194 (by decide) (by decide) ?_
            refine j_iconst (pc := 202) C (v := (-1)) d_Model_onePart_202 (by decide) ?_
            refine j_istore_n (pc := 203) C (lv' := [(2, .int (-1)), (1, .int (nI mz)), (0, .ref mo)]) d_Model_onePart_203 rfl (by decide) rfl ?_
            refine j_aload_n (pc := 204) C d_Model_onePart_204 rfl 2 rfl ?_
            refine j_iload_n (pc := 205) C d_Model_onePart_205 rfl 0 rfl ?_
            refine j_iconst (pc := 206) C (v := (-1)) d_Model_onePart_206 (by decide) ?_
            refine j_icmp_eqT (pc := 207) C (tgt := 214) d_Model_onePart_207 (by decide) (by decide) ?_
            refine j_sipush (pc := 214) C (v := 1000) d_Model_onePart_214 (by decide) ?_
            refine j_aload_n (pc := 217) C d_Model_onePart_217 rfl 2 rfl ?_
            refine j_iconst (pc := 218) C (v := 0) d_Model_onePart_218 (by decide) ?_
            refine j_sipush (pc := 219) C (v := 9999) d_Model_onePart_219 (by decide) ?_
            refine j_callVi (pc := 222) C (c_M_number l D y mo ma t1 u491.1 t3 u491.2 0 pz i7 i8 i42 i49 (nI cd) (nI zn) (nI oz) (nI bs) i61 i64 i66 t67 i76 i78 tx 0 9999 gz xh493 he hB xh495 (by omega) (by omega)) kw_Model_267 kv_Model_number 0 10 rfl rfl ⟨by decide, by decide⟩ ⟨by decide, by decide⟩ (wr := [(ma 40, .inl (y 3, 3, .inl (WD 31))), (ma 41, .inl (y 3, 3, .inl (WD 32))), (ma 50, .inl (y 0, 3200, .inl g50)), (ma 52, .inl (y 0, 1700, .inl zw)), (ma 37, .inl (y 3, 3, .inl (WD 28))), (ma 38, .inl (y 3, 5, .inl (WD 29))), (ma 39, .inl (y 3, 5, .inl (WD 30)))]) [6, 7] [0, 1, 2, 3, 4, 5, 8] rfl rfl (by decide +kernel) (by decide +kernel) (by decide +kernel) (As := [.int 0, .int 9999]) (rest := [.int 1000, .ref mo]) rfl (nb rfl) rfl d_Model_onePart_222 (fun r501 u502 hr501 => ?_)
            refine j_ws (ws' := [(ma 40, .inl (y 3, 3, .inl (WD 31))), (ma 41, .inl (y 3, 3, .inl (WD 32))), (ma 50, .inl (y 0, 3200, .inl g50)), (ma 52, .inl (y 0, 1700, .inl zw)), (ma 37, .inl (y 3, 3, .inl (WD 28))), (ma 38, .inl (y 3, 5, .inl (WD 29))), (ma 39, .inl (y 3, 5, .inl (WD 30))), MB mo ma (nI t1) (nI u502.1) (nI t3) u502.2.1 u502.2.2.1 u502.2.2.2 i7 i8 i42 i49 (nI cd) (nI zn) (nI oz) (nI bs) i61 i64 i66 (nI t67) i76 i78, (ma 0, .inl (y 0, 1600, .inl (tby tx)))]) rfl ?_
            obtain ⟨xh503, xh504, xh505, xh506, xh507⟩ := hr501
            rcases xh507 with ⟨q508, xh509, rfl, xh510⟩
            · refine j_iadd (pc := 225) C (v := nI (1000 + q508)) d_Model_onePart_225 (nI_add _ _) ?_
              refine j_callVv (pc := 226) C (c_M_code l D y mo ma t1 u502.1 t3 u502.2.1 u502.2.2.1 u502.2.2.2 i7 i8 i42 i49 cd zn (nI oz) (nI bs) i61 i64 i66 t67 i76 i78 g50 (nI (1000 + q508)) (by omega)) kw_Model_344 kv_Model_code 0 10 rfl rfl ⟨by decide, by decide⟩ ⟨by decide, by decide⟩ (wr := [(ma 40, .inl (y 3, 3, .inl (WD 31))), (ma 41, .inl (y 3, 3, .inl (WD 32))), (ma 52, .inl (y 0, 1700, .inl zw)), (ma 37, .inl (y 3, 3, .inl (WD 28))), (ma 38, .inl (y 3, 5, .inl (WD 29))), (ma 39, .inl (y 3, 5, .inl (WD 30))), (ma 0, .inl (y 0, 1600, .inl (tby tx)))]) [7, 2] [0, 1, 3, 4, 5, 6, 8] rfl rfl (by decide +kernel) (by decide +kernel) (by decide +kernel) (As := [.int (nI (1000 + q508))]) (rest := []) rfl (nb rfl) rfl d_Model_onePart_226 (fun _ _ => ?_)
              refine j_ws (ws' := [(ma 40, .inl (y 3, 3, .inl (WD 31))), (ma 41, .inl (y 3, 3, .inl (WD 32))), (ma 52, .inl (y 0, 1700, .inl zw)), (ma 37, .inl (y 3, 3, .inl (WD 28))), (ma 38, .inl (y 3, 5, .inl (WD 29))), (ma 39, .inl (y 3, 5, .inl (WD 30))), (ma 0, .inl (y 0, 1600, .inl (tby tx))), MB mo ma (nI t1) (nI u502.1) (nI t3) u502.2.1 u502.2.2.1 u502.2.2.2 i7 i8 i42 i49 (nI (cd + 1)) (nI zn) (nI oz) (nI bs) i61 i64 i66 (nI t67) i76 i78, (ma 50, .inl (y 0, 3200, .inl (upd g50 cd (nI (1000 + q508)))))]) rfl ?_
              exact j_vret (pc := 229) C hr (u502.1, u502.2.1, u502.2.2.1, u502.2.2.2, (cd + 1), zn, oz, (upd g50 cd (nI (1000 + q508))), zw, (rnS tx t3 0 9999 gz), (putS (1000 + rnV tx t3 0 9999 gz) cs), sz) ⟨(show t2 ≤ u502.1 by omega), (show u502.1 ≤ t3 by omega), (fun e => ⟨rfl, by have f1 := (xh505 e).2; omega⟩), (rs_leaf xh459 (by omega) (by omega) (fun e => ⟨by have f1 := (xh505 e).2; omega, Or.inl (nI_le (a := 1000) (by omega) (by omega))⟩)), hT_, hS_, (show bs ≤ zn by omega), xh506, hF_, (show oz ≤ 6 by omega), (fun e => ⟨xh461.tr (Rch.st ((stP _ _ _ _).trans (sP_el xh467 xh464 xh465 xh466 xh474 xh485 xh496)) (Rch.rf _)), cd_put hcd (by omega) (by rw [(xh510 e).1]) (by have f1 := rnV_le (tx := tx) (k := t3) (lo := 0) (hi := 9999) (x := gz) (by decide) (by decide); omega), xh462, xh463⟩), (fun e => ⟨_, _, _, xh461.tr (Rch.st ((stP _ _ _ _).trans (sP_el xh467 xh464 xh465 xh466 xh474 xh485 xh496)) (Rch.st ((stA _ _ _ _).trans (sA_d (fun f => e ((rr_z xh506).mpr f)))) (Rch.rf _)))⟩)⟩ [7, 6, 3, 4, 5, 0, 1, 8, 2] rfl (by decide) (by decide) (by decide) d_Model_onePart_229
          · refine j_if_eqF (pc := 194) C (tgt := 202) d_Model_onePart_194 (by decide) (by decide) ?_
            refine j_bipush (pc := 197) C (v := 9) d_Model_onePart_197 (by decide) ?_
            refine j_goto (pc := 199) C (tgt := 203) d_Model_onePart_199 (by decide) ?_
            refine j_istore_n (pc := 203) C (lv' := [(2, .int 9), (1, .int (nI mz)), (0, .ref mo)]) d_Model_onePart_203 rfl (by decide) rfl ?_
            refine j_aload_n (pc := 204) C d_Model_onePart_204 rfl 2 rfl ?_
            refine j_iload_n (pc := 205) C d_Model_onePart_205 rfl 0 rfl ?_
            refine j_iconst (pc := 206) C (v := (-1)) d_Model_onePart_206 (by decide) ?_
            refine j_icmp_eqF (pc := 207) C (tgt := 214) d_Model_onePart_207 (by decide) (by decide) ?_
            refine j_iload_n (pc := 210) C d_Model_onePart_210 rfl 0 rfl ?_
            refine j_goto (pc := 211) C (tgt := 226) d_Model_onePart_211 (by decide) ?_
            refine j_callVv (pc := 226) C (c_M_code l D y mo ma t1 u491.1 t3 u491.2 0 pz i7 i8 i42 i49 cd zn (nI oz) (nI bs) i61 i64 i66 t67 i76 i78 g50 9 (by omega)) kw_Model_344 kv_Model_code 0 10 rfl rfl ⟨by decide, by decide⟩ ⟨by decide, by decide⟩ (wr := [(ma 40, .inl (y 3, 3, .inl (WD 31))), (ma 41, .inl (y 3, 3, .inl (WD 32))), (ma 52, .inl (y 0, 1700, .inl zw)), (ma 37, .inl (y 3, 3, .inl (WD 28))), (ma 38, .inl (y 3, 5, .inl (WD 29))), (ma 0, .inl (y 0, 1600, .inl (tby tx))), (ma 39, .inl (y 3, 5, .inl (WD 30)))]) [6, 2] [0, 1, 3, 4, 5, 7, 8] rfl rfl (by decide +kernel) (by decide +kernel) (by decide +kernel) (As := [.int 9]) (rest := []) rfl (nb rfl) rfl d_Model_onePart_226 (fun _ _ => ?_)
            refine j_ws (ws' := [(ma 40, .inl (y 3, 3, .inl (WD 31))), (ma 41, .inl (y 3, 3, .inl (WD 32))), (ma 52, .inl (y 0, 1700, .inl zw)), (ma 37, .inl (y 3, 3, .inl (WD 28))), (ma 38, .inl (y 3, 5, .inl (WD 29))), (ma 0, .inl (y 0, 1600, .inl (tby tx))), (ma 39, .inl (y 3, 5, .inl (WD 30))), MB mo ma (nI t1) (nI u491.1) (nI t3) u491.2 0 pz i7 i8 i42 i49 (nI (cd + 1)) (nI zn) (nI oz) (nI bs) i61 i64 i66 (nI t67) i76 i78, (ma 50, .inl (y 0, 3200, .inl (upd g50 cd 9)))]) rfl ?_
            exact j_vret (pc := 229) C hr (u491.1, u491.2, 0, pz, (cd + 1), zn, oz, (upd g50 cd 9), zw, (advS tx t3 gz), (putS 9 cs), sz) ⟨(show t2 ≤ u491.1 by omega), (show u491.1 ≤ t3 by omega), (fun _ => ⟨rfl, by omega⟩), (rs_leaf xh459 (by omega) (by omega) (fun _ => ⟨by omega, by decide⟩)), hT_, hS_, (show bs ≤ zn by omega), xh498, hF_, (show oz ≤ 6 by omega), (fun _ => ⟨xh461.tr (Rch.st ((stP _ _ _ _).trans (sP_30 xh499)) (Rch.rf _)), cd_put hcd (by omega) rfl (by decide), xh462, xh463⟩), (fun e => absurd rfl e)⟩ [7, 5, 3, 4, 6, 0, 1, 8, 2] rfl (by decide) (by decide) (by decide) d_Model_onePart_229
        · refine j_if_eqF (pc := 178) C (tgt := 186) d_Model_onePart_178 (by decide) (by decide) ?_
          refine j_bipush (pc := 181) C (v := 8) d_Model_onePart_181 (by decide) ?_
          refine j_goto (pc := 183) C (tgt := 203) d_Model_onePart_183 (by decide) ?_
          refine j_istore_n (pc := 203) C (lv' := [(2, .int 8), (1, .int (nI mz)), (0, .ref mo)]) d_Model_onePart_203 rfl (by decide) rfl ?_
          refine j_aload_n (pc := 204) C d_Model_onePart_204 rfl 2 rfl ?_
          refine j_iload_n (pc := 205) C d_Model_onePart_205 rfl 0 rfl ?_
          refine j_iconst (pc := 206) C (v := (-1)) d_Model_onePart_206 (by decide) ?_
          refine j_icmp_eqF (pc := 207) C (tgt := 214) d_Model_onePart_207 (by decide) (by decide) ?_
          refine j_iload_n (pc := 210) C d_Model_onePart_210 rfl 0 rfl ?_
          refine j_goto (pc := 211) C (tgt := 226) d_Model_onePart_211 (by decide) ?_
          refine j_callVv (pc := 226) C (c_M_code l D y mo ma t1 u480.1 t3 u480.2 0 pz i7 i8 i42 i49 cd zn (nI oz) (nI bs) i61 i64 i66 t67 i76 i78 g50 8 (by omega)) kw_Model_344 kv_Model_code 0 10 rfl rfl ⟨by decide, by decide⟩ ⟨by decide, by decide⟩ (wr := [(ma 39, .inl (y 3, 5, .inl (WD 30))), (ma 40, .inl (y 3, 3, .inl (WD 31))), (ma 41, .inl (y 3, 3, .inl (WD 32))), (ma 52, .inl (y 0, 1700, .inl zw)), (ma 37, .inl (y 3, 3, .inl (WD 28))), (ma 0, .inl (y 0, 1600, .inl (tby tx))), (ma 38, .inl (y 3, 5, .inl (WD 29)))]) [6, 3] [0, 1, 2, 4, 5, 7, 8] rfl rfl (by decide +kernel) (by decide +kernel) (by decide +kernel) (As := [.int 8]) (rest := []) rfl (nb rfl) rfl d_Model_onePart_226 (fun _ _ => ?_)
          refine j_ws (ws' := [(ma 39, .inl (y 3, 5, .inl (WD 30))), (ma 40, .inl (y 3, 3, .inl (WD 31))), (ma 41, .inl (y 3, 3, .inl (WD 32))), (ma 52, .inl (y 0, 1700, .inl zw)), (ma 37, .inl (y 3, 3, .inl (WD 28))), (ma 0, .inl (y 0, 1600, .inl (tby tx))), (ma 38, .inl (y 3, 5, .inl (WD 29))), MB mo ma (nI t1) (nI u480.1) (nI t3) u480.2 0 pz i7 i8 i42 i49 (nI (cd + 1)) (nI zn) (nI oz) (nI bs) i61 i64 i66 (nI t67) i76 i78, (ma 50, .inl (y 0, 3200, .inl (upd g50 cd 8)))]) rfl ?_
          exact j_vret (pc := 229) C hr (u480.1, u480.2, 0, pz, (cd + 1), zn, oz, (upd g50 cd 8), zw, (advS tx t3 gz), (putS 8 cs), sz) ⟨(show t2 ≤ u480.1 by omega), (show u480.1 ≤ t3 by omega), (fun _ => ⟨rfl, by omega⟩), (rs_leaf xh459 (by omega) (by omega) (fun _ => ⟨by omega, by decide⟩)), hT_, hS_, (show bs ≤ zn by omega), xh487, hF_, (show oz ≤ 6 by omega), (fun _ => ⟨xh461.tr (Rch.st ((stP _ _ _ _).trans (sP_29 xh488)) (Rch.rf _)), cd_put hcd (by omega) rfl (by decide), xh462, xh463⟩), (fun e => absurd rfl e)⟩ [7, 5, 4, 6, 0, 1, 2, 8, 3] rfl (by decide) (by decide) (by decide) d_Model_onePart_229
      · refine j_if_eqF (pc := 162) C (tgt := 170) d_Model_onePart_162 (by decide) (by decide) ?_
        refine j_bipush (pc := 165) C (v := 7) d_Model_onePart_165 (by decide) ?_
        refine j_goto (pc := 167) C (tgt := 203) d_Model_onePart_167 (by decide) ?_
        refine j_istore_n (pc := 203) C (lv' := [(2, .int 7), (1, .int (nI mz)), (0, .ref mo)]) d_Model_onePart_203 rfl (by decide) rfl ?_
        refine j_aload_n (pc := 204) C d_Model_onePart_204 rfl 2 rfl ?_
        refine j_iload_n (pc := 205) C d_Model_onePart_205 rfl 0 rfl ?_
        refine j_iconst (pc := 206) C (v := (-1)) d_Model_onePart_206 (by decide) ?_
        refine j_icmp_eqF (pc := 207) C (tgt := 214) d_Model_onePart_207 (by decide) (by decide) ?_
        refine j_iload_n (pc := 210) C d_Model_onePart_210 rfl 0 rfl ?_
        refine j_goto (pc := 211) C (tgt := 226) d_Model_onePart_211 (by decide) ?_
        refine j_callVv (pc := 226) C (c_M_code l D y mo ma t1 u469.1 t3 u469.2 0 pz i7 i8 i42 i49 cd zn (nI oz) (nI bs) i61 i64 i66 t67 i76 i78 g50 7 (by omega)) kw_Model_344 kv_Model_code 0 10 rfl rfl ⟨by decide, by decide⟩ ⟨by decide, by decide⟩ (wr := [(ma 38, .inl (y 3, 5, .inl (WD 29))), (ma 39, .inl (y 3, 5, .inl (WD 30))), (ma 40, .inl (y 3, 3, .inl (WD 31))), (ma 41, .inl (y 3, 3, .inl (WD 32))), (ma 52, .inl (y 0, 1700, .inl zw)), (ma 0, .inl (y 0, 1600, .inl (tby tx))), (ma 37, .inl (y 3, 3, .inl (WD 28)))]) [6, 4] [0, 1, 2, 3, 5, 7, 8] rfl rfl (by decide +kernel) (by decide +kernel) (by decide +kernel) (As := [.int 7]) (rest := []) rfl (nb rfl) rfl d_Model_onePart_226 (fun _ _ => ?_)
        refine j_ws (ws' := [(ma 38, .inl (y 3, 5, .inl (WD 29))), (ma 39, .inl (y 3, 5, .inl (WD 30))), (ma 40, .inl (y 3, 3, .inl (WD 31))), (ma 41, .inl (y 3, 3, .inl (WD 32))), (ma 52, .inl (y 0, 1700, .inl zw)), (ma 0, .inl (y 0, 1600, .inl (tby tx))), (ma 37, .inl (y 3, 3, .inl (WD 28))), MB mo ma (nI t1) (nI u469.1) (nI t3) u469.2 0 pz i7 i8 i42 i49 (nI (cd + 1)) (nI zn) (nI oz) (nI bs) i61 i64 i66 (nI t67) i76 i78, (ma 50, .inl (y 0, 3200, .inl (upd g50 cd 7)))]) rfl ?_
        exact j_vret (pc := 229) C hr (u469.1, u469.2, 0, pz, (cd + 1), zn, oz, (upd g50 cd 7), zw, (advS tx t3 gz), (putS 7 cs), sz) ⟨(show t2 ≤ u469.1 by omega), (show u469.1 ≤ t3 by omega), (fun _ => ⟨rfl, by omega⟩), (rs_leaf xh459 (by omega) (by omega) (fun _ => ⟨by omega, by decide⟩)), hT_, hS_, (show bs ≤ zn by omega), xh476, hF_, (show oz ≤ 6 by omega), (fun _ => ⟨xh461.tr (Rch.st ((stP _ _ _ _).trans (sP_28 xh477)) (Rch.rf _)), cd_put hcd (by omega) rfl (by decide), xh462, xh463⟩), (fun e => absurd rfl e)⟩ [7, 5, 6, 0, 1, 2, 3, 8, 4] rfl (by decide) (by decide) (by decide) d_Model_onePart_229
    · exact j_vret (pc := 153) C hr (az, ez, bz, pz, cd, zn, oz, g50, zw, gz, cs, sz) ⟨(show t2 ≤ az by omega), (show az ≤ t3 by omega), (fun e => absurd e c458), (rs_at (rs_bad hR_ c458) (by omega)), hT_, hS_, (show bs ≤ zn by omega), hrr_, hF_, (show oz ≤ 6 by omega), (fun e => absurd e c458), hde_⟩ [0, 1, 2, 3, 4, 5, 6, 7, 8] rfl (by decide) (by decide) (by decide) d_Model_onePart_153
  · refine j_if_eqF (pc := 3) C (tgt := 146) d_Model_onePart_3 (by decide) (show ¬ nI mz = nI 0 from fun e => absurd ((nI_eq (by omega) (by omega)).mp e) (by omega)) ?_
    refine j_aload_n (pc := 6) C d_Model_onePart_6 rfl 1 rfl ?_
    refine j_get (pc := 7) C gf_Model_201 0 rfl rfl d_Model_onePart_7 ?_
    refine j_if_ne (pc := 10) C (tgt := 146) d_Model_onePart_10 (by decide) (fun c511 => ?_) (fun c511 => ?_)
    · refine j_aload_n (pc := 146) C d_Model_onePart_146 rfl 1 rfl ?_
      refine j_get (pc := 147) C gf_Model_201 0 rfl rfl d_Model_onePart_147 ?_
      refine j_if_eqF (pc := 150) C (tgt := 154) d_Model_onePart_150 (by decide) c511 ?_
      exact j_vret (pc := 153) C hr (az, ez, bz, pz, cd, zn, oz, g50, zw, gz, cs, sz) ⟨(show t2 ≤ az by omega), (show az ≤ t3 by omega), (fun e => absurd e c511), (rs_at (rs_bad hR_ c511) (by omega)), hT_, hS_, (show bs ≤ zn by omega), hrr_, hF_, (show oz ≤ 6 by omega), (fun e => absurd e c511), hde_⟩ [0, 1, 2, 3, 4, 5, 6, 7, 8] rfl (by decide) (by decide) (by decide) d_Model_onePart_153
    · refine j_ws (ws' := [MB mo ma (nI t1) (nI az) (nI t3) ez 0 pz i7 i8 i42 i49 (nI cd) (nI zn) (nI oz) (nI bs) i61 i64 i66 (nI t67) i76 i78, (ma 0, .inl (y 0, 1600, .inl (tby tx))), (ma 37, .inl (y 3, 3, .inl (WD 28))), (ma 38, .inl (y 3, 5, .inl (WD 29))), (ma 39, .inl (y 3, 5, .inl (WD 30))), (ma 40, .inl (y 3, 3, .inl (WD 31))), (ma 41, .inl (y 3, 3, .inl (WD 32))), (ma 50, .inl (y 0, 3200, .inl g50)), (ma 52, .inl (y 0, 1700, .inl zw))]) (by rw [c511]) ?_
      have xh512 : RS kq s0 f0 xx 0 g50 zw cd zn az := rs_z hR_ c511
      have xh513 : RR tx t3 gz az ez 0 pz := by have hq := hrr_; rw [c511] at hq; exact hq
      obtain ⟨xh514, xh515, xh516⟩ := hal_ c511
      refine j_aload_n (pc := 13) C d_Model_onePart_13 rfl 1 rfl ?_
      refine j_callVi (pc := 14) C (c_M_look l D y mo ma t1 az t3 ez 0 pz i7 i8 i42 i49 (nI cd) (nI zn) (nI oz) (nI bs) i61 i64 i66 t67 i76 i78 tx gz hz_ he hB xh513 rfl) kw_Model_213 kv_Model_look 0 10 rfl rfl ⟨by decide, by decide⟩ ⟨by decide, by decide⟩ (wr := [(ma 37, .inl (y 3, 3, .inl (WD 28))), (ma 38, .inl (y 3, 5, .inl (WD 29))), (ma 39, .inl (y 3, 5, .inl (WD 30))), (ma 40, .inl (y 3, 3, .inl (WD 31))), (ma 41, .inl (y 3, 3, .inl (WD 32))), (ma 50, .inl (y 0, 3200, .inl g50)), (ma 52, .inl (y 0, 1700, .inl zw))]) [0, 1] [2, 3, 4, 5, 6, 7, 8] rfl rfl (by decide +kernel) (by decide +kernel) (by decide +kernel) (As := []) (rest := []) rfl (nb rfl) rfl d_Model_onePart_14 (fun r517 u518 hr517 => ?_)
      refine j_ws (ws' := [(ma 37, .inl (y 3, 3, .inl (WD 28))), (ma 38, .inl (y 3, 5, .inl (WD 29))), (ma 39, .inl (y 3, 5, .inl (WD 30))), (ma 40, .inl (y 3, 3, .inl (WD 31))), (ma 41, .inl (y 3, 3, .inl (WD 32))), (ma 50, .inl (y 0, 3200, .inl g50)), (ma 52, .inl (y 0, 1700, .inl zw)), MB mo ma (nI t1) (nI u518) (nI t3) ez 0 pz i7 i8 i42 i49 (nI cd) (nI zn) (nI oz) (nI bs) i61 i64 i66 (nI t67) i76 i78, (ma 0, .inl (y 0, 1600, .inl (tby tx)))]) rfl ?_
      obtain ⟨xh519, xh520, xh521, xh522, xh523⟩ := hr517
      rcases xh523 with ⟨rfl, xh524⟩ | ⟨rfl, xh525⟩
      · refine j_istore_n (pc := 17) C (lv' := [(2, .int (-1)), (1, .int (nI mz)), (0, .ref mo)]) d_Model_onePart_17 rfl (by decide) rfl ?_
        refine j_iload_n (pc := 18) C d_Model_onePart_18 rfl 0 rfl ?_
        refine j_bipush (pc := 19) C (v := 40) d_Model_onePart_19 (by decide) ?_
        refine j_icmp_neT (pc := 21) C (tgt := 47) d_Model_onePart_21 (by decide) (by decide) ?_
        refine j_aload_n (pc := 47) C d_Model_onePart_47 rfl 2 rfl ?_
        refine j_aload_n (pc := 48) C d_Model_onePart_48 rfl 2 rfl ?_
        refine j_get (pc := 49) C gf_Model_111 7 rfl rfl d_Model_onePart_49 ?_
        refine j_callVi (pc := 52) C (c_M_isHere_3 l D y mo (ma 40) ma t1 u518 t3 ez 0 pz i7 i8 i42 i49 (nI cd) (nI zn) (nI oz) (nI bs) i61 i64 i66 t67 i76 i78 tx 31 gz xh520 he hB xh522 (by omega) (by decide)) kw_Model_224 kv_Model_isHere 0 10 rfl rfl ⟨by decide, by decide⟩ ⟨by decide, by decide⟩ (wr := [(ma 37, .inl (y 3, 3, .inl (WD 28))), (ma 38, .inl (y 3, 5, .inl (WD 29))), (ma 39, .inl (y 3, 5, .inl (WD 30))), (ma 41, .inl (y 3, 3, .inl (WD 32))), (ma 50, .inl (y 0, 3200, .inl g50)), (ma 52, .inl (y 0, 1700, .inl zw))]) [7, 8, 3] [0, 1, 2, 4, 5, 6] rfl rfl (by decide +kernel) (by decide +kernel) (by decide +kernel) (As := [.ref (ma 40)]) (rest := []) rfl (nb rfl) rfl d_Model_onePart_52 (fun r526 u527 hr526 => ?_)
        refine j_ws (ws' := [(ma 37, .inl (y 3, 3, .inl (WD 28))), (ma 38, .inl (y 3, 5, .inl (WD 29))), (ma 39, .inl (y 3, 5, .inl (WD 30))), (ma 41, .inl (y 3, 3, .inl (WD 32))), (ma 50, .inl (y 0, 3200, .inl g50)), (ma 52, .inl (y 0, 1700, .inl zw)), MB mo ma (nI t1) (nI u527) (nI t3) ez 0 pz i7 i8 i42 i49 (nI cd) (nI zn) (nI oz) (nI bs) i61 i64 i66 (nI t67) i76 i78, (ma 0, .inl (y 0, 1600, .inl (tby tx))), (ma 40, .inl (y 3, 3, .inl (WD 31)))]) rfl ?_
        obtain ⟨xh528, xh529, xh530, xh531, xh532⟩ := hr526
        rcases xh532 with ⟨rfl, xh533⟩ | ⟨rfl, xh534, xh535⟩
        · refine j_if_neF (pc := 55) C (tgt := 69) d_Model_onePart_55 (by decide) (by decide) ?_
          refine j_aload_n (pc := 58) C d_Model_onePart_58 rfl 2 rfl ?_
          refine j_aload_n (pc := 59) C d_Model_onePart_59 rfl 2 rfl ?_
          refine j_get (pc := 60) C gf_Model_114 6 rfl rfl d_Model_onePart_60 ?_
          refine j_callVi (pc := 63) C (c_M_isHere_3 l D y mo (ma 41) ma t1 u527 t3 ez 0 pz i7 i8 i42 i49 (nI cd) (nI zn) (nI oz) (nI bs) i61 i64 i66 t67 i76 i78 tx 32 gz xh529 he hB xh531 (by omega) (by decide)) kw_Model_224 kv_Model_isHere 0 10 rfl rfl ⟨by decide, by decide⟩ ⟨by decide, by decide⟩ (wr := [(ma 37, .inl (y 3, 3, .inl (WD 28))), (ma 38, .inl (y 3, 5, .inl (WD 29))), (ma 39, .inl (y 3, 5, .inl (WD 30))), (ma 50, .inl (y 0, 3200, .inl g50)), (ma 52, .inl (y 0, 1700, .inl zw)), (ma 40, .inl (y 3, 3, .inl (WD 31)))]) [6, 7, 3] [0, 1, 2, 4, 5, 8] rfl rfl (by decide +kernel) (by decide +kernel) (by decide +kernel) (As := [.ref (ma 41)]) (rest := []) rfl (nb rfl) rfl d_Model_onePart_63 (fun r536 u537 hr536 => ?_)
          refine j_ws (ws' := [(ma 37, .inl (y 3, 3, .inl (WD 28))), (ma 38, .inl (y 3, 5, .inl (WD 29))), (ma 39, .inl (y 3, 5, .inl (WD 30))), (ma 50, .inl (y 0, 3200, .inl g50)), (ma 52, .inl (y 0, 1700, .inl zw)), (ma 40, .inl (y 3, 3, .inl (WD 31))), MB mo ma (nI t1) (nI u537) (nI t3) ez 0 pz i7 i8 i42 i49 (nI cd) (nI zn) (nI oz) (nI bs) i61 i64 i66 (nI t67) i76 i78, (ma 0, .inl (y 0, 1600, .inl (tby tx))), (ma 41, .inl (y 3, 3, .inl (WD 32)))]) rfl ?_
          obtain ⟨xh538, xh539, xh540, xh541, xh542⟩ := hr536
          rcases xh542 with ⟨rfl, xh543⟩ | ⟨rfl, xh544, xh545⟩
          · refine j_if_eqT (pc := 66) C (tgt := 141) d_Model_onePart_66 (by decide) (by decide) ?_
            refine j_iconst (pc := 141) C (v := 0) d_Model_onePart_141 (by decide) ?_
            refine j_istore_n (pc := 142) C (lv' := [(1, .int 0), (2, .int (-1)), (0, .ref mo)]) d_Model_onePart_142 rfl (by decide) rfl ?_
            refine j_goto (pc := 143) C (tgt := 2) d_Model_onePart_143 (by decide) ?_
            refine j_sub (ws' := [MB mo ma (nI t1) (nI u537) (nI t3) ez 0 pz i7 i8 i42 i49 (nI cd) (nI zn) (nI oz) (nI bs) i61 i64 i66 (nI t67) i76 i78, (ma 0, .inl (y 0, 1600, .inl (tby tx))), (ma 37, .inl (y 3, 3, .inl (WD 28))), (ma 38, .inl (y 3, 5, .inl (WD 29))), (ma 39, .inl (y 3, 5, .inl (WD 30))), (ma 40, .inl (y 3, 3, .inl (WD 31))), (ma 41, .inl (y 3, 3, .inl (WD 32))), (ma 50, .inl (y 0, 3200, .inl g50)), (ma 52, .inl (y 0, 1700, .inl zw))]) [6, 7, 0, 1, 2, 5, 8, 3, 4] rfl (by decide +kernel) ?_
            refine j_locs (lv' := [(1, .int 0), (0, .ref mo)]) [0, 2] rfl ?_
            have hz1 := bz_e c511
            have hz0 := bz_1
            exact ih456 (0, u537, 0, zw, zn, ez, pz, oz, gz, sz) ⟨(show 0 ≤ 1 by omega), xh539, (show t2 ≤ u537 by omega), (show RS kq s0 f0 xx 0 g50 zw cd zn u537 from (rs_at xh512 (by omega))), hT_, hS_, hb_, (show RR tx t3 gz u537 ez 0 pz from xh541), (fun _ => ⟨xh514, xh515, xh516⟩), ho_, (fun e => absurd rfl e), (fun _ _ => ⟨(sg_no1 ((rr_z xh541).mp rfl) xh521 xh524), xh533, xh543⟩), hF_⟩ (show 2 * (t3 - u537) + bz1 0 + 0 < 2 * (t3 - az) + bz1 bz + mz by omega)
          · refine j_if_eqF (pc := 66) C (tgt := 141) d_Model_onePart_66 (by decide) (by decide) ?_
            have xh546 : (advS tx t3 gz).1 = 0 := adv_ok ((rr_z xh541).mp rfl)
            refine j_aload_n (pc := 69) C d_Model_onePart_69 rfl 2 rfl ?_
            refine j_aload_n (pc := 70) C d_Model_onePart_70 rfl 2 rfl ?_
            refine j_get (pc := 71) C gf_Model_111 6 rfl rfl d_Model_onePart_71 ?_
            refine j_callVi (pc := 74) C (c_M_takes_3 l D y mo (ma 40) ma t1 u537 t3 ez 0 pz i7 i8 i42 i49 (nI cd) (nI zn) (nI oz) (nI bs) i61 i64 i66 t67 i76 i78 tx 31 gz xh539 he hB xh541 (by omega) (by decide)) kw_Model_228 kv_Model_takes 0 10 rfl rfl ⟨by decide, by decide⟩ ⟨by decide, by decide⟩ (wr := [(ma 37, .inl (y 3, 3, .inl (WD 28))), (ma 38, .inl (y 3, 5, .inl (WD 29))), (ma 39, .inl (y 3, 5, .inl (WD 30))), (ma 50, .inl (y 0, 3200, .inl g50)), (ma 52, .inl (y 0, 1700, .inl zw)), (ma 41, .inl (y 3, 3, .inl (WD 32)))]) [6, 7, 5] [0, 1, 2, 3, 4, 8] rfl rfl (by decide +kernel) (by decide +kernel) (by decide +kernel) (As := [.ref (ma 40)]) (rest := []) rfl (nb rfl) rfl d_Model_onePart_74 (fun r547 u548 hr547 => ?_)
            refine j_ws (ws' := [(ma 37, .inl (y 3, 3, .inl (WD 28))), (ma 38, .inl (y 3, 5, .inl (WD 29))), (ma 39, .inl (y 3, 5, .inl (WD 30))), (ma 50, .inl (y 0, 3200, .inl g50)), (ma 52, .inl (y 0, 1700, .inl zw)), (ma 41, .inl (y 3, 3, .inl (WD 32))), MB mo ma (nI t1) (nI u548.1) (nI t3) u548.2 0 pz i7 i8 i42 i49 (nI cd) (nI zn) (nI oz) (nI bs) i61 i64 i66 (nI t67) i76 i78, (ma 0, .inl (y 0, 1600, .inl (tby tx))), (ma 40, .inl (y 3, 3, .inl (WD 31)))]) rfl ?_
            obtain ⟨xh549, xh550, xh551⟩ := hr547
            rcases xh551 with ⟨rfl, xh552, xh553, xh554⟩ | ⟨rfl, xh555, xh556, xh557⟩
            · refine j_istore_n (pc := 77) C (lv' := [(3, .int 0), (2, .int (-1)), (1, .int (nI mz)), (0, .ref mo)]) d_Model_onePart_77 rfl (by decide) rfl ?_
              refine j_iload_n (pc := 78) C d_Model_onePart_78 rfl 0 rfl ?_
              refine j_if_neF (pc := 79) C (tgt := 90) d_Model_onePart_79 (by decide) (by decide) ?_
              refine j_aload_n (pc := 82) C d_Model_onePart_82 rfl 3 rfl ?_
              refine j_aload_n (pc := 83) C d_Model_onePart_83 rfl 3 rfl ?_
              refine j_get (pc := 84) C gf_Model_114 6 rfl rfl d_Model_onePart_84 ?_
              refine j_callVv (pc := 87) C (c_M_asks_3 l D y mo (ma 41) ma t1 u548.1 t3 u548.2 0 pz i7 i8 i42 i49 (nI cd) (nI zn) (nI oz) (nI bs) i61 i64 i66 t67 i76 i78 tx 32 gz xh550 he hB xh552 (by omega) (by decide)) kw_Model_263 kv_Model_asks 0 10 rfl rfl ⟨by decide, by decide⟩ ⟨by decide, by decide⟩ (wr := [(ma 37, .inl (y 3, 3, .inl (WD 28))), (ma 38, .inl (y 3, 5, .inl (WD 29))), (ma 39, .inl (y 3, 5, .inl (WD 30))), (ma 50, .inl (y 0, 3200, .inl g50)), (ma 52, .inl (y 0, 1700, .inl zw)), (ma 40, .inl (y 3, 3, .inl (WD 31)))]) [6, 7, 5] [0, 1, 2, 3, 4, 8] rfl rfl (by decide +kernel) (by decide +kernel) (by decide +kernel) (As := [.ref (ma 41)]) (rest := []) rfl (nb rfl) rfl d_Model_onePart_87 (fun u558 hu559 => ?_)
              obtain ⟨xh560, xh561, xh562, xh563⟩ := hu559
              refine j_ws (ws' := [(ma 37, .inl (y 3, 3, .inl (WD 28))), (ma 38, .inl (y 3, 5, .inl (WD 29))), (ma 39, .inl (y 3, 5, .inl (WD 30))), (ma 50, .inl (y 0, 3200, .inl g50)), (ma 52, .inl (y 0, 1700, .inl zw)), (ma 40, .inl (y 3, 3, .inl (WD 31))), MB mo ma (nI t1) (nI u558.1) (nI t3) u558.2.1 u558.2.2.1 u558.2.2.2 i7 i8 i42 i49 (nI cd) (nI zn) (nI oz) (nI bs) i61 i64 i66 (nI t67) i76 i78, (ma 0, .inl (y 0, 1600, .inl (tby tx))), (ma 41, .inl (y 3, 3, .inl (WD 32)))]) rfl ?_
              have xh564 : RR tx t3 (advS tx t3 gz) u558.1 u558.2.1 u558.2.2.1 u558.2.2.2 := (rr_of xh563 (if_pos xh544).symm)
              have xh565 : u558.2.2.1 = 0 := (rr_z xh564).mpr xh546
              have hp566 := (xh562 xh565).2
              have xh567 : RS kq s0 f0 xx u558.2.2.1 g50 zw cd zn az := rs_mono xh512 (fun _ => rfl)
              refine j_ws (ws' := [(ma 37, .inl (y 3, 3, .inl (WD 28))), (ma 38, .inl (y 3, 5, .inl (WD 29))), (ma 39, .inl (y 3, 5, .inl (WD 30))), (ma 50, .inl (y 0, 3200, .inl g50)), (ma 52, .inl (y 0, 1700, .inl zw)), (ma 40, .inl (y 3, 3, .inl (WD 31))), MB mo ma (nI t1) (nI u558.1) (nI t3) u558.2.1 0 u558.2.2.2 i7 i8 i42 i49 (nI cd) (nI zn) (nI oz) (nI bs) i61 i64 i66 (nI t67) i76 i78, (ma 0, .inl (y 0, 1600, .inl (tby tx))), (ma 41, .inl (y 3, 3, .inl (WD 32)))]) (by rw [xh565]) ?_
              have xh568 : RR tx t3 (advS tx t3 gz) u558.1 u558.2.1 0 u558.2.2.2 := by have hq := xh564; rw [xh565] at hq; exact hq
              refine j_aload_n (pc := 90) C d_Model_onePart_90 rfl 3 rfl ?_
              refine j_callVi (pc := 91) C (c_M_look l D y mo ma t1 u558.1 t3 u558.2.1 0 u558.2.2.2 i7 i8 i42 i49 (nI cd) (nI zn) (nI oz) (nI bs) i61 i64 i66 t67 i76 i78 tx (advS tx t3 gz) xh561 he hB xh568 rfl) kw_Model_213 kv_Model_look 0 10 rfl rfl ⟨by decide, by decide⟩ ⟨by decide, by decide⟩ (wr := [(ma 37, .inl (y 3, 3, .inl (WD 28))), (ma 38, .inl (y 3, 5, .inl (WD 29))), (ma 39, .inl (y 3, 5, .inl (WD 30))), (ma 50, .inl (y 0, 3200, .inl g50)), (ma 52, .inl (y 0, 1700, .inl zw)), (ma 40, .inl (y 3, 3, .inl (WD 31))), (ma 41, .inl (y 3, 3, .inl (WD 32)))]) [6, 7] [0, 1, 2, 3, 4, 5, 8] rfl rfl (by decide +kernel) (by decide +kernel) (by decide +kernel) (As := []) (rest := []) rfl (nb rfl) rfl d_Model_onePart_91 (fun r569 u570 hr569 => ?_)
              refine j_ws (ws' := [(ma 37, .inl (y 3, 3, .inl (WD 28))), (ma 38, .inl (y 3, 5, .inl (WD 29))), (ma 39, .inl (y 3, 5, .inl (WD 30))), (ma 50, .inl (y 0, 3200, .inl g50)), (ma 52, .inl (y 0, 1700, .inl zw)), (ma 40, .inl (y 3, 3, .inl (WD 31))), (ma 41, .inl (y 3, 3, .inl (WD 32))), MB mo ma (nI t1) (nI u570) (nI t3) u558.2.1 0 u558.2.2.2 i7 i8 i42 i49 (nI cd) (nI zn) (nI oz) (nI bs) i61 i64 i66 (nI t67) i76 i78, (ma 0, .inl (y 0, 1600, .inl (tby tx)))]) rfl ?_
              obtain ⟨xh571, xh572, xh573, xh574, xh575⟩ := hr569
              rcases xh575 with ⟨rfl, xh576⟩ | ⟨rfl, xh577⟩
              · refine j_bipush (pc := 94) C (v := 40) d_Model_onePart_94 (by decide) ?_
                refine j_icmp_neT (pc := 96) C (tgt := 106) d_Model_onePart_96 (by decide) (by decide) ?_
                refine j_iconst (pc := 106) C (v := (-1)) d_Model_onePart_106 (by decide) ?_
                refine j_istore (pc := 107) C (lv' := [(4, .int (-1)), (3, .int 0), (2, .int (-1)), (1, .int (nI mz)), (0, .ref mo)]) d_Model_onePart_107 (by decide) rfl ?_
                refine j_iload (pc := 109) C d_Model_onePart_109 0 rfl ?_
                refine j_iconst (pc := 111) C (v := (-1)) d_Model_onePart_111 (by decide) ?_
                refine j_icmp_eqT (pc := 112) C (tgt := 132) d_Model_onePart_112 (by decide) (by decide) ?_
                have xh578 : ¬ issS tx t3 40 (advS tx t3 gz) = true := (sg_no1 ((rr_z xh574).mp rfl) xh573 xh576)
                refine j_aload_n (pc := 132) C d_Model_onePart_132 rfl 4 rfl ?_
                refine j_bipush (pc := 133) C (v := 40) d_Model_onePart_133 (by decide) ?_
                refine j_callVv (pc := 135) C (c_M_asksSign l D y mo ma t1 u570 t3 u558.2.1 0 u558.2.2.2 i7 i8 i42 i49 (nI cd) (nI zn) (nI oz) (nI bs) i61 i64 i66 t67 i76 i78 tx 40 (advS tx t3 gz) xh572 he hB xh574 (by omega) (by decide)) kw_Model_271 kv_Model_asksSign 0 10 rfl rfl ⟨by decide, by decide⟩ ⟨by decide, by decide⟩ (wr := [(ma 37, .inl (y 3, 3, .inl (WD 28))), (ma 38, .inl (y 3, 5, .inl (WD 29))), (ma 39, .inl (y 3, 5, .inl (WD 30))), (ma 50, .inl (y 0, 3200, .inl g50)), (ma 52, .inl (y 0, 1700, .inl zw)), (ma 40, .inl (y 3, 3, .inl (WD 31))), (ma 41, .inl (y 3, 3, .inl (WD 32)))]) [7, 8] [0, 1, 2, 3, 4, 5, 6] rfl rfl (by decide +kernel) (by decide +kernel) (by decide +kernel) (As := [.int 40]) (rest := []) rfl (nb rfl) rfl d_Model_onePart_135 (fun u579 hu580 => ?_)
                obtain ⟨xh581, xh582, xh583, xh584⟩ := hu580
                refine j_ws (ws' := [(ma 37, .inl (y 3, 3, .inl (WD 28))), (ma 38, .inl (y 3, 5, .inl (WD 29))), (ma 39, .inl (y 3, 5, .inl (WD 30))), (ma 50, .inl (y 0, 3200, .inl g50)), (ma 52, .inl (y 0, 1700, .inl zw)), (ma 40, .inl (y 3, 3, .inl (WD 31))), (ma 41, .inl (y 3, 3, .inl (WD 32))), MB mo ma (nI t1) (nI u579.1) (nI t3) u558.2.1 u579.2.1 u579.2.2 i7 i8 i42 i49 (nI cd) (nI zn) (nI oz) (nI bs) i61 i64 i66 (nI t67) i76 i78, (ma 0, .inl (y 0, 1600, .inl (tby tx)))]) rfl ?_
                have xh585 : RR tx t3 (failS 1 (stS tx t3 (advS tx t3 gz)) (advS tx t3 gz)) u579.1 u558.2.1 u579.2.1 u579.2.2 := (rr_of xh584 (if_neg xh578).symm)
                have xh586 : ¬ u579.2.1 = 0 := fun e => (fail_nz (by decide)) ((rr_z xh585).mp e)
                have xh587 : Rch tx t3 (0, (gs, cs, sk, oo)) (2, ((failS 1 (stS tx t3 (advS tx t3 gz)) (advS tx t3 gz)), cs, sz, oz)) := xh514.tr (Rch.st ((stP _ _ _ _).trans ((sP_mm (Or.inr xh544)).trans (if_neg xh578))) (Rch.rf _))
                refine j_goto (pc := 138) C (tgt := 143) d_Model_onePart_138 (by decide) ?_
                refine j_goto (pc := 143) C (tgt := 2) d_Model_onePart_143 (by decide) ?_
                refine j_sub (ws' := [MB mo ma (nI t1) (nI u579.1) (nI t3) u558.2.1 u579.2.1 u579.2.2 i7 i8 i42 i49 (nI cd) (nI zn) (nI oz) (nI bs) i61 i64 i66 (nI t67) i76 i78, (ma 0, .inl (y 0, 1600, .inl (tby tx))), (ma 37, .inl (y 3, 3, .inl (WD 28))), (ma 38, .inl (y 3, 5, .inl (WD 29))), (ma 39, .inl (y 3, 5, .inl (WD 30))), (ma 40, .inl (y 3, 3, .inl (WD 31))), (ma 41, .inl (y 3, 3, .inl (WD 32))), (ma 50, .inl (y 0, 3200, .inl g50)), (ma 52, .inl (y 0, 1700, .inl zw))]) [7, 8, 0, 1, 2, 5, 6, 3, 4] rfl (by decide +kernel) ?_
                refine j_locs (lv' := [(1, .int (nI mz)), (0, .ref mo)]) [3, 4] rfl ?_
                have hz1 := bz_e c511
                have hz0 := bz_le u579.2.1
                have hz2 : bz1 u579.2.1 = 0 ∨ az + 1 ≤ u579.1 := Or.inl (bz_0 xh586)
                have xh588 : RS kq s0 f0 xx u579.2.1 g50 zw cd zn az := rs_bad xh567 xh586
                exact ih456 (mz, u579.1, u579.2.1, zw, zn, u558.2.1, u579.2.2, oz, (failS 1 (stS tx t3 (advS tx t3 gz)) (advS tx t3 gz)), sz) ⟨hmz_, xh582, (show t2 ≤ u579.1 by omega), (show RS kq s0 f0 xx u579.2.1 g50 zw cd zn u579.1 from (rs_at xh588 (by omega))), hT_, hS_, hb_, (show RR tx t3 (failS 1 (stS tx t3 (advS tx t3 gz)) (advS tx t3 gz)) u579.1 u558.2.1 u579.2.1 u579.2.2 from xh585), (fun e => absurd e xh586), ho_, (fun _ => ⟨_, _, _, xh587⟩), (fun e => absurd (show mz = 0 from e) (by omega)), hF_⟩ (show 2 * (t3 - u579.1) + bz1 u579.2.1 + mz < 2 * (t3 - az) + bz1 bz + mz by omega)
              · have hb589 : tx u570 < 256 := hB u570
                refine j_bipush (pc := 94) C (v := 40) d_Model_onePart_94 (by decide) ?_
                by_cases c590 : ¬ (tx u570) = 40
                · refine j_icmp_neT (pc := 96) C (tgt := 106) d_Model_onePart_96 (by decide) (show ¬ nI (tx u570) = nI 40 from fun e => absurd ((nI_eq (by omega) (by omega)).mp e) (by omega)) ?_
                  refine j_iconst (pc := 106) C (v := (-1)) d_Model_onePart_106 (by decide) ?_
                  refine j_istore (pc := 107) C (lv' := [(4, .int (-1)), (3, .int 0), (2, .int (-1)), (1, .int (nI mz)), (0, .ref mo)]) d_Model_onePart_107 (by decide) rfl ?_
                  refine j_iload (pc := 109) C d_Model_onePart_109 0 rfl ?_
                  refine j_iconst (pc := 111) C (v := (-1)) d_Model_onePart_111 (by decide) ?_
                  refine j_icmp_eqT (pc := 112) C (tgt := 132) d_Model_onePart_112 (by decide) (by decide) ?_
                  have xh591 : ¬ issS tx t3 40 (advS tx t3 gz) = true := (sg_no2 xh573 (show ¬ tx u570 = 40 by omega))
                  refine j_aload_n (pc := 132) C d_Model_onePart_132 rfl 4 rfl ?_
                  refine j_bipush (pc := 133) C (v := 40) d_Model_onePart_133 (by decide) ?_
                  refine j_callVv (pc := 135) C (c_M_asksSign l D y mo ma t1 u570 t3 u558.2.1 0 u558.2.2.2 i7 i8 i42 i49 (nI cd) (nI zn) (nI oz) (nI bs) i61 i64 i66 t67 i76 i78 tx 40 (advS tx t3 gz) xh572 he hB xh574 (by omega) (by decide)) kw_Model_271 kv_Model_asksSign 0 10 rfl rfl ⟨by decide, by decide⟩ ⟨by decide, by decide⟩ (wr := [(ma 37, .inl (y 3, 3, .inl (WD 28))), (ma 38, .inl (y 3, 5, .inl (WD 29))), (ma 39, .inl (y 3, 5, .inl (WD 30))), (ma 50, .inl (y 0, 3200, .inl g50)), (ma 52, .inl (y 0, 1700, .inl zw)), (ma 40, .inl (y 3, 3, .inl (WD 31))), (ma 41, .inl (y 3, 3, .inl (WD 32)))]) [7, 8] [0, 1, 2, 3, 4, 5, 6] rfl rfl (by decide +kernel) (by decide +kernel) (by decide +kernel) (As := [.int 40]) (rest := []) rfl (nb rfl) rfl d_Model_onePart_135 (fun u592 hu593 => ?_)
                  obtain ⟨xh594, xh595, xh596, xh597⟩ := hu593
                  refine j_ws (ws' := [(ma 37, .inl (y 3, 3, .inl (WD 28))), (ma 38, .inl (y 3, 5, .inl (WD 29))), (ma 39, .inl (y 3, 5, .inl (WD 30))), (ma 50, .inl (y 0, 3200, .inl g50)), (ma 52, .inl (y 0, 1700, .inl zw)), (ma 40, .inl (y 3, 3, .inl (WD 31))), (ma 41, .inl (y 3, 3, .inl (WD 32))), MB mo ma (nI t1) (nI u592.1) (nI t3) u558.2.1 u592.2.1 u592.2.2 i7 i8 i42 i49 (nI cd) (nI zn) (nI oz) (nI bs) i61 i64 i66 (nI t67) i76 i78, (ma 0, .inl (y 0, 1600, .inl (tby tx)))]) rfl ?_
                  have xh598 : RR tx t3 (failS 1 (stS tx t3 (advS tx t3 gz)) (advS tx t3 gz)) u592.1 u558.2.1 u592.2.1 u592.2.2 := (rr_of xh597 (if_neg xh591).symm)
                  have xh599 : ¬ u592.2.1 = 0 := fun e => (fail_nz (by decide)) ((rr_z xh598).mp e)
                  have xh600 : Rch tx t3 (0, (gs, cs, sk, oo)) (2, ((failS 1 (stS tx t3 (advS tx t3 gz)) (advS tx t3 gz)), cs, sz, oz)) := xh514.tr (Rch.st ((stP _ _ _ _).trans ((sP_mm (Or.inr xh544)).trans (if_neg xh591))) (Rch.rf _))
                  refine j_goto (pc := 138) C (tgt := 143) d_Model_onePart_138 (by decide) ?_
                  refine j_goto (pc := 143) C (tgt := 2) d_Model_onePart_143 (by decide) ?_
                  refine j_sub (ws' := [MB mo ma (nI t1) (nI u592.1) (nI t3) u558.2.1 u592.2.1 u592.2.2 i7 i8 i42 i49 (nI cd) (nI zn) (nI oz) (nI bs) i61 i64 i66 (nI t67) i76 i78, (ma 0, .inl (y 0, 1600, .inl (tby tx))), (ma 37, .inl (y 3, 3, .inl (WD 28))), (ma 38, .inl (y 3, 5, .inl (WD 29))), (ma 39, .inl (y 3, 5, .inl (WD 30))), (ma 40, .inl (y 3, 3, .inl (WD 31))), (ma 41, .inl (y 3, 3, .inl (WD 32))), (ma 50, .inl (y 0, 3200, .inl g50)), (ma 52, .inl (y 0, 1700, .inl zw))]) [7, 8, 0, 1, 2, 5, 6, 3, 4] rfl (by decide +kernel) ?_
                  refine j_locs (lv' := [(1, .int (nI mz)), (0, .ref mo)]) [3, 4] rfl ?_
                  have hz1 := bz_e c511
                  have hz0 := bz_le u592.2.1
                  have hz2 : bz1 u592.2.1 = 0 ∨ az + 1 ≤ u592.1 := Or.inl (bz_0 xh599)
                  have xh601 : RS kq s0 f0 xx u592.2.1 g50 zw cd zn az := rs_bad xh567 xh599
                  exact ih456 (mz, u592.1, u592.2.1, zw, zn, u558.2.1, u592.2.2, oz, (failS 1 (stS tx t3 (advS tx t3 gz)) (advS tx t3 gz)), sz) ⟨hmz_, xh595, (show t2 ≤ u592.1 by omega), (show RS kq s0 f0 xx u592.2.1 g50 zw cd zn u592.1 from (rs_at xh601 (by omega))), hT_, hS_, hb_, (show RR tx t3 (failS 1 (stS tx t3 (advS tx t3 gz)) (advS tx t3 gz)) u592.1 u558.2.1 u592.2.1 u592.2.2 from xh598), (fun e => absurd e xh599), ho_, (fun _ => ⟨_, _, _, xh600⟩), (fun e => absurd (show mz = 0 from e) (by omega)), hF_⟩ (show 2 * (t3 - u592.1) + bz1 u592.2.1 + mz < 2 * (t3 - az) + bz1 bz + mz by omega)
                · refine j_icmp_neF (pc := 96) C (tgt := 106) d_Model_onePart_96 (by decide) (show nI (tx u570) = nI 40 from (nI_eq (by omega) (by omega)).mpr (by omega)) ?_
                  refine j_aload_n (pc := 99) C d_Model_onePart_99 rfl 3 rfl ?_
                  refine j_get (pc := 100) C gf_Model_207 7 rfl rfl d_Model_onePart_100 ?_
                  refine j_goto (pc := 103) C (tgt := 107) d_Model_onePart_103 (by decide) ?_
                  refine j_istore (pc := 107) C (lv' := [(4, .int (nI u570)), (3, .int 0), (2, .int (-1)), (1, .int (nI mz)), (0, .ref mo)]) d_Model_onePart_107 (by decide) rfl ?_
                  refine j_iload (pc := 109) C d_Model_onePart_109 0 rfl ?_
                  refine j_iconst (pc := 111) C (v := (-1)) d_Model_onePart_111 (by decide) ?_
                  refine j_icmp_eqF (pc := 112) C (tgt := 132) d_Model_onePart_112 (by decide) (nI_nm1 (by omega)) ?_
                  refine j_aload_n (pc := 115) C d_Model_onePart_115 rfl 4 rfl ?_
                  refine j_iload_n (pc := 116) C d_Model_onePart_116 rfl 1 rfl ?_
                  refine j_if_eqT (pc := 117) C (tgt := 125) d_Model_onePart_117 (by decide) (by decide) ?_
                  refine j_bipush (pc := 125) C (v := 22) d_Model_onePart_125 (by decide) ?_
                  refine j_iload (pc := 127) C d_Model_onePart_127 0 rfl ?_
                  have xh602 : issS tx t3 40 (advS tx t3 gz) = true := (sg_yes ((rr_z xh574).mp rfl) xh573 xh577 (show tx u570 = 40 by omega) (by decide)).1
                  by_cases c603 : oz = 6
                  · refine j_callVv (pc := 129) C (c_M_opens_N l D y mo ma t1 u570 t3 u558.2.1 0 u558.2.2.2 i7 i8 i42 i49 (nI cd) zn oz (nI bs) i61 i64 i66 t67 i76 i78 zw 22 u570 (advS tx t3 gz) tx (by omega) ((rr_z xh574).mp rfl) (by omega) rfl) kw_Model_353 kv_Model_opens 0 10 rfl rfl ⟨by decide, by decide⟩ ⟨by decide, by decide⟩ (wr := [(ma 37, .inl (y 3, 3, .inl (WD 28))), (ma 38, .inl (y 3, 5, .inl (WD 29))), (ma 39, .inl (y 3, 5, .inl (WD 30))), (ma 50, .inl (y 0, 3200, .inl g50)), (ma 40, .inl (y 3, 3, .inl (WD 31))), (ma 41, .inl (y 3, 3, .inl (WD 32))), (ma 0, .inl (y 0, 1600, .inl (tby tx)))]) [7, 4] [0, 1, 2, 3, 5, 6, 8] rfl rfl (by decide +kernel) (by decide +kernel) (by decide +kernel) (As := [.int 22, .int (nI u570)]) (rest := []) rfl (nb rfl) rfl d_Model_onePart_129 (fun u604 hu605 => ?_)
                    obtain ⟨xh606, xh607⟩ := hu605
                    refine j_ws (ws' := [(ma 37, .inl (y 3, 3, .inl (WD 28))), (ma 38, .inl (y 3, 5, .inl (WD 29))), (ma 39, .inl (y 3, 5, .inl (WD 30))), (ma 50, .inl (y 0, 3200, .inl g50)), (ma 40, .inl (y 3, 3, .inl (WD 31))), (ma 41, .inl (y 3, 3, .inl (WD 32))), (ma 0, .inl (y 0, 1600, .inl (tby tx))), MB mo ma (nI t1) (nI u570) (nI t3) u558.2.1 u604.1 u604.2 i7 i8 i42 i49 (nI cd) (nI zn) (nI oz) (nI bs) i61 i64 i66 (nI t67) i76 i78, (ma 52, .inl (y 0, 1700, .inl zw))]) rfl ?_
                    have xh608 : RS kq s0 f0 xx u604.1 g50 zw cd zn u570 := rs_bad (rs_at xh512 (show az ≤ u570 by omega)) xh606
                    refine j_aload_n (pc := 132) C d_Model_onePart_132 rfl 4 rfl ?_
                    refine j_bipush (pc := 133) C (v := 40) d_Model_onePart_133 (by decide) ?_
                    refine j_callVv (pc := 135) C (c_M_asksSign l D y mo ma t1 u570 t3 u558.2.1 u604.1 u604.2 i7 i8 i42 i49 (nI cd) (nI zn) (nI oz) (nI bs) i61 i64 i66 t67 i76 i78 tx 40 (failS 4 u570 (advS tx t3 gz)) xh572 he hB xh607 (by omega) (by decide)) kw_Model_271 kv_Model_asksSign 0 10 rfl rfl ⟨by decide, by decide⟩ ⟨by decide, by decide⟩ (wr := [(ma 37, .inl (y 3, 3, .inl (WD 28))), (ma 38, .inl (y 3, 5, .inl (WD 29))), (ma 39, .inl (y 3, 5, .inl (WD 30))), (ma 50, .inl (y 0, 3200, .inl g50)), (ma 40, .inl (y 3, 3, .inl (WD 31))), (ma 41, .inl (y 3, 3, .inl (WD 32))), (ma 52, .inl (y 0, 1700, .inl zw))]) [7, 6] [0, 1, 2, 3, 4, 5, 8] rfl rfl (by decide +kernel) (by decide +kernel) (by decide +kernel) (As := [.int 40]) (rest := []) rfl (nb rfl) rfl d_Model_onePart_135 (fun u609 hu610 => ?_)
                    obtain ⟨xh611, xh612, xh613, xh614⟩ := hu610
                    refine j_ws (ws' := [(ma 37, .inl (y 3, 3, .inl (WD 28))), (ma 38, .inl (y 3, 5, .inl (WD 29))), (ma 39, .inl (y 3, 5, .inl (WD 30))), (ma 50, .inl (y 0, 3200, .inl g50)), (ma 40, .inl (y 3, 3, .inl (WD 31))), (ma 41, .inl (y 3, 3, .inl (WD 32))), (ma 52, .inl (y 0, 1700, .inl zw)), MB mo ma (nI t1) (nI u609.1) (nI t3) u558.2.1 u609.2.1 u609.2.2 i7 i8 i42 i49 (nI cd) (nI zn) (nI oz) (nI bs) i61 i64 i66 (nI t67) i76 i78, (ma 0, .inl (y 0, 1600, .inl (tby tx)))]) rfl ?_
                    have xh615 : RR tx t3 (failS 4 (stS tx t3 (advS tx t3 gz)) (advS tx t3 gz)) u609.1 u558.2.1 u609.2.1 u609.2.2 := (rr_of xh614 ((rs_d (fail_nz (by decide))).trans (by rw [← xh573])).symm)
                    have xh616 : ¬ u609.2.1 = 0 := fun e => (fail_nz (by decide)) ((rr_z xh615).mp e)
                    have xh617 : Rch tx t3 (0, (gs, cs, sk, oo)) (2, ((failS 4 (stS tx t3 (advS tx t3 gz)) (advS tx t3 gz)), cs, sz, oz)) := xh514.tr (Rch.st ((stP _ _ _ _).trans ((sP_mm (Or.inr xh544)).trans ((if_pos xh602).trans (if_pos c603)))) (Rch.rf _))
                    refine j_goto (pc := 138) C (tgt := 143) d_Model_onePart_138 (by decide) ?_
                    refine j_goto (pc := 143) C (tgt := 2) d_Model_onePart_143 (by decide) ?_
                    refine j_sub (ws' := [MB mo ma (nI t1) (nI u609.1) (nI t3) u558.2.1 u609.2.1 u609.2.2 i7 i8 i42 i49 (nI cd) (nI zn) (nI oz) (nI bs) i61 i64 i66 (nI t67) i76 i78, (ma 0, .inl (y 0, 1600, .inl (tby tx))), (ma 37, .inl (y 3, 3, .inl (WD 28))), (ma 38, .inl (y 3, 5, .inl (WD 29))), (ma 39, .inl (y 3, 5, .inl (WD 30))), (ma 40, .inl (y 3, 3, .inl (WD 31))), (ma 41, .inl (y 3, 3, .inl (WD 32))), (ma 50, .inl (y 0, 3200, .inl g50)), (ma 52, .inl (y 0, 1700, .inl zw))]) [7, 8, 0, 1, 2, 4, 5, 3, 6] rfl (by decide +kernel) ?_
                    refine j_locs (lv' := [(1, .int (nI mz)), (0, .ref mo)]) [3, 4] rfl ?_
                    have hz1 := bz_e c511
                    have hz0 := bz_le u609.2.1
                    have hz2 : bz1 u609.2.1 = 0 ∨ az + 1 ≤ u609.1 := Or.inl (bz_0 xh616)
                    have xh618 : RS kq s0 f0 xx u609.2.1 g50 zw cd zn u570 := rs_bad xh608 xh616
                    exact ih456 (mz, u609.1, u609.2.1, zw, zn, u558.2.1, u609.2.2, oz, (failS 4 (stS tx t3 (advS tx t3 gz)) (advS tx t3 gz)), sz) ⟨hmz_, xh612, (show t2 ≤ u609.1 by omega), (show RS kq s0 f0 xx u609.2.1 g50 zw cd zn u609.1 from (rs_at xh618 (by omega))), hT_, hS_, hb_, (show RR tx t3 (failS 4 (stS tx t3 (advS tx t3 gz)) (advS tx t3 gz)) u609.1 u558.2.1 u609.2.1 u609.2.2 from xh615), (fun e => absurd e xh616), ho_, (fun _ => ⟨_, _, _, xh617⟩), (fun e => absurd (show mz = 0 from e) (by omega)), hF_⟩ (show 2 * (t3 - u609.1) + bz1 u609.2.1 + mz < 2 * (t3 - az) + bz1 bz + mz by omega)
                  · refine j_callVv (pc := 129) C (c_M_opens_Y l D y mo ma t1 u570 t3 u558.2.1 0 u558.2.2.2 i7 i8 i42 i49 cd zn oz (nI bs) i61 i64 i66 t67 i76 i78 zw 22 (nI u570) (by omega) (by omega) (by omega)) kw_Model_353 kv_Model_opens 0 10 rfl rfl ⟨by decide, by decide⟩ ⟨by decide, by decide⟩ (wr := [(ma 37, .inl (y 3, 3, .inl (WD 28))), (ma 38, .inl (y 3, 5, .inl (WD 29))), (ma 39, .inl (y 3, 5, .inl (WD 30))), (ma 50, .inl (y 0, 3200, .inl g50)), (ma 40, .inl (y 3, 3, .inl (WD 31))), (ma 41, .inl (y 3, 3, .inl (WD 32))), (ma 0, .inl (y 0, 1600, .inl (tby tx)))]) [7, 4] [0, 1, 2, 3, 5, 6, 8] rfl rfl (by decide +kernel) (by decide +kernel) (by decide +kernel) (As := [.int 22, .int (nI u570)]) (rest := []) rfl (nb rfl) rfl d_Model_onePart_129 (fun _ _ => ?_)
                    refine j_ws (ws' := [(ma 37, .inl (y 3, 3, .inl (WD 28))), (ma 38, .inl (y 3, 5, .inl (WD 29))), (ma 39, .inl (y 3, 5, .inl (WD 30))), (ma 50, .inl (y 0, 3200, .inl g50)), (ma 40, .inl (y 3, 3, .inl (WD 31))), (ma 41, .inl (y 3, 3, .inl (WD 32))), (ma 0, .inl (y 0, 1600, .inl (tby tx))), MB mo ma (nI t1) (nI u570) (nI t3) u558.2.1 0 u558.2.2.2 i7 i8 i42 i49 (nI cd) (nI (zn + 1)) (nI (oz + 1)) (nI bs) i61 i64 i66 (nI t67) i76 i78, (ma 52, .inl (y 0, 1700, .inl (upd zw zn 22)))]) rfl ?_
                    have xh619 : RS kq s0 f0 xx 0 g50 (upd zw zn 22) cd (zn + 1) (u570 + 1) := rs_push (rs_at xh512 (show az ≤ u570 by omega)) (by decide)
                    have xh620 : ITm (upd zw zn 22) bs := (it_up hT_ (by omega))
                    have xh621 : ISm (upd zw zn 22) bs (zn + 1) := (is_up hS_ (by decide))
                    have xh622 : WB (22 :: sz) (upd zw zn 22) bs (zn + 1) := wb_push xh515 (by decide)
                    have xh623 : opn (22 :: sz) ≤ (oz + 1) := opn_push xh516
                    refine j_aload_n (pc := 132) C d_Model_onePart_132 rfl 4 rfl ?_
                    refine j_bipush (pc := 133) C (v := 40) d_Model_onePart_133 (by decide) ?_
                    refine j_callVv (pc := 135) C (c_M_asksSign l D y mo ma t1 u570 t3 u558.2.1 0 u558.2.2.2 i7 i8 i42 i49 (nI cd) (nI (zn + 1)) (nI (oz + 1)) (nI bs) i61 i64 i66 t67 i76 i78 tx 40 (advS tx t3 gz) xh572 he hB xh574 (by omega) (by decide)) kw_Model_271 kv_Model_asksSign 0 10 rfl rfl ⟨by decide, by decide⟩ ⟨by decide, by decide⟩ (wr := [(ma 37, .inl (y 3, 3, .inl (WD 28))), (ma 38, .inl (y 3, 5, .inl (WD 29))), (ma 39, .inl (y 3, 5, .inl (WD 30))), (ma 50, .inl (y 0, 3200, .inl g50)), (ma 40, .inl (y 3, 3, .inl (WD 31))), (ma 41, .inl (y 3, 3, .inl (WD 32))), (ma 52, .inl (y 0, 1700, .inl (upd zw zn 22)))]) [7, 6] [0, 1, 2, 3, 4, 5, 8] rfl rfl (by decide +kernel) (by decide +kernel) (by decide +kernel) (As := [.int 40]) (rest := []) rfl (nb rfl) rfl d_Model_onePart_135 (fun u624 hu625 => ?_)
                    obtain ⟨xh626, xh627, xh628, xh629⟩ := hu625
                    refine j_ws (ws' := [(ma 37, .inl (y 3, 3, .inl (WD 28))), (ma 38, .inl (y 3, 5, .inl (WD 29))), (ma 39, .inl (y 3, 5, .inl (WD 30))), (ma 50, .inl (y 0, 3200, .inl g50)), (ma 40, .inl (y 3, 3, .inl (WD 31))), (ma 41, .inl (y 3, 3, .inl (WD 32))), (ma 52, .inl (y 0, 1700, .inl (upd zw zn 22))), MB mo ma (nI t1) (nI u624.1) (nI t3) u558.2.1 u624.2.1 u624.2.2 i7 i8 i42 i49 (nI cd) (nI (zn + 1)) (nI (oz + 1)) (nI bs) i61 i64 i66 (nI t67) i76 i78, (ma 0, .inl (y 0, 1600, .inl (tby tx)))]) rfl ?_
                    have xh630 : RR tx t3 (advS tx t3 (advS tx t3 gz)) u624.1 u558.2.1 u624.2.1 u624.2.2 := (rr_of xh629 (if_pos xh602).symm)
                    have xh631 : u624.2.1 = 0 := (rr_z xh630).mpr (adv_ok xh546)
                    have hp632 := (xh628 xh631).2
                    have xh633 : RS kq s0 f0 xx u624.2.1 g50 (upd zw zn 22) cd (zn + 1) (u570 + 1) := rs_mono xh619 (fun _ => rfl)
                    refine j_ws (ws' := [(ma 37, .inl (y 3, 3, .inl (WD 28))), (ma 38, .inl (y 3, 5, .inl (WD 29))), (ma 39, .inl (y 3, 5, .inl (WD 30))), (ma 50, .inl (y 0, 3200, .inl g50)), (ma 40, .inl (y 3, 3, .inl (WD 31))), (ma 41, .inl (y 3, 3, .inl (WD 32))), (ma 52, .inl (y 0, 1700, .inl (upd zw zn 22))), MB mo ma (nI t1) (nI u624.1) (nI t3) u558.2.1 0 u624.2.2 i7 i8 i42 i49 (nI cd) (nI (zn + 1)) (nI (oz + 1)) (nI bs) i61 i64 i66 (nI t67) i76 i78, (ma 0, .inl (y 0, 1600, .inl (tby tx)))]) (by rw [xh631]) ?_
                    have xh634 : RR tx t3 (advS tx t3 (advS tx t3 gz)) u624.1 u558.2.1 0 u624.2.2 := by have hq := xh630; rw [xh631] at hq; exact hq
                    have xh635 : Rch tx t3 (0, (gs, cs, sk, oo)) (0, ((advS tx t3 (advS tx t3 gz)), cs, (22 :: sz), (oz + 1))) := xh514.tr (Rch.st ((stP _ _ _ _).trans ((sP_mm (Or.inr xh544)).trans ((if_pos xh602).trans ((if_neg c603).trans (by rw [if_neg xh533]))))) (Rch.rf _))
                    refine j_goto (pc := 138) C (tgt := 143) d_Model_onePart_138 (by decide) ?_
                    refine j_goto (pc := 143) C (tgt := 2) d_Model_onePart_143 (by decide) ?_
                    refine j_sub (ws' := [MB mo ma (nI t1) (nI u624.1) (nI t3) u558.2.1 0 u624.2.2 i7 i8 i42 i49 (nI cd) (nI (zn + 1)) (nI (oz + 1)) (nI bs) i61 i64 i66 (nI t67) i76 i78, (ma 0, .inl (y 0, 1600, .inl (tby tx))), (ma 37, .inl (y 3, 3, .inl (WD 28))), (ma 38, .inl (y 3, 5, .inl (WD 29))), (ma 39, .inl (y 3, 5, .inl (WD 30))), (ma 40, .inl (y 3, 3, .inl (WD 31))), (ma 41, .inl (y 3, 3, .inl (WD 32))), (ma 50, .inl (y 0, 3200, .inl g50)), (ma 52, .inl (y 0, 1700, .inl (upd zw zn 22)))]) [7, 8, 0, 1, 2, 4, 5, 3, 6] rfl (by decide +kernel) ?_
                    refine j_locs (lv' := [(1, .int (nI mz)), (0, .ref mo)]) [3, 4] rfl ?_
                    have hz1 := bz_e c511
                    have hz0 := bz_1
                    have hz2 : bz1 0 = 0 ∨ az + 1 ≤ u624.1 := Or.inr (by omega)
                    exact ih456 (mz, u624.1, 0, (upd zw zn 22), (zn + 1), u558.2.1, u624.2.2, (oz + 1), (advS tx t3 (advS tx t3 gz)), (22 :: sz)) ⟨hmz_, xh627, (show t2 ≤ u624.1 by omega), (show RS kq s0 f0 xx 0 g50 (upd zw zn 22) cd (zn + 1) u624.1 from (rs_at xh619 (by omega))), xh620, xh621, (show bs ≤ (zn + 1) by omega), (show RR tx t3 (advS tx t3 (advS tx t3 gz)) u624.1 u558.2.1 0 u624.2.2 from xh634), (fun _ => ⟨xh635, xh622, xh623⟩), (show (oz + 1) ≤ 6 by omega), (fun e => absurd rfl e), (fun e => absurd (show mz = 0 from e) (by omega)), (fun j hj => (pk_un (show j ≠ zn by omega)).trans (hF_ j hj))⟩ (show 2 * (t3 - u624.1) + bz1 0 + mz < 2 * (t3 - az) + bz1 bz + mz by omega)
            · exact absurd xh556 xh533
        · refine j_if_neT (pc := 55) C (tgt := 69) d_Model_onePart_55 (by decide) (by decide) ?_
          have xh636 : (advS tx t3 gz).1 = 0 := adv_ok ((rr_z xh531).mp rfl)
          refine j_aload_n (pc := 69) C d_Model_onePart_69 rfl 2 rfl ?_
          refine j_aload_n (pc := 70) C d_Model_onePart_70 rfl 2 rfl ?_
          refine j_get (pc := 71) C gf_Model_111 6 rfl rfl d_Model_onePart_71 ?_
          refine j_callVi (pc := 74) C (c_M_takes_3 l D y mo (ma 40) ma t1 u527 t3 ez 0 pz i7 i8 i42 i49 (nI cd) (nI zn) (nI oz) (nI bs) i61 i64 i66 t67 i76 i78 tx 31 gz xh529 he hB xh531 (by omega) (by decide)) kw_Model_228 kv_Model_takes 0 10 rfl rfl ⟨by decide, by decide⟩ ⟨by decide, by decide⟩ (wr := [(ma 37, .inl (y 3, 3, .inl (WD 28))), (ma 38, .inl (y 3, 5, .inl (WD 29))), (ma 39, .inl (y 3, 5, .inl (WD 30))), (ma 41, .inl (y 3, 3, .inl (WD 32))), (ma 50, .inl (y 0, 3200, .inl g50)), (ma 52, .inl (y 0, 1700, .inl zw))]) [6, 7, 8] [0, 1, 2, 3, 4, 5] rfl rfl (by decide +kernel) (by decide +kernel) (by decide +kernel) (As := [.ref (ma 40)]) (rest := []) rfl (nb rfl) rfl d_Model_onePart_74 (fun r637 u638 hr637 => ?_)
          refine j_ws (ws' := [(ma 37, .inl (y 3, 3, .inl (WD 28))), (ma 38, .inl (y 3, 5, .inl (WD 29))), (ma 39, .inl (y 3, 5, .inl (WD 30))), (ma 41, .inl (y 3, 3, .inl (WD 32))), (ma 50, .inl (y 0, 3200, .inl g50)), (ma 52, .inl (y 0, 1700, .inl zw)), MB mo ma (nI t1) (nI u638.1) (nI t3) u638.2 0 pz i7 i8 i42 i49 (nI cd) (nI zn) (nI oz) (nI bs) i61 i64 i66 (nI t67) i76 i78, (ma 0, .inl (y 0, 1600, .inl (tby tx))), (ma 40, .inl (y 3, 3, .inl (WD 31)))]) rfl ?_
          obtain ⟨xh639, xh640, xh641⟩ := hr637
          rcases xh641 with ⟨rfl, xh642, xh643, xh644⟩ | ⟨rfl, xh645, xh646, xh647⟩
          · exact absurd xh534 xh643
          · refine j_istore_n (pc := 77) C (lv' := [(3, .int 1), (2, .int (-1)), (1, .int (nI mz)), (0, .ref mo)]) d_Model_onePart_77 rfl (by decide) rfl ?_
            refine j_iload_n (pc := 78) C d_Model_onePart_78 rfl 0 rfl ?_
            refine j_if_neT (pc := 79) C (tgt := 90) d_Model_onePart_79 (by decide) (by decide) ?_
            refine j_aload_n (pc := 90) C d_Model_onePart_90 rfl 3 rfl ?_
            refine j_callVi (pc := 91) C (c_M_look l D y mo ma t1 u638.1 t3 u638.2 0 pz i7 i8 i42 i49 (nI cd) (nI zn) (nI oz) (nI bs) i61 i64 i66 t67 i76 i78 tx (advS tx t3 gz) xh640 he hB xh645 rfl) kw_Model_213 kv_Model_look 0 10 rfl rfl ⟨by decide, by decide⟩ ⟨by decide, by decide⟩ (wr := [(ma 37, .inl (y 3, 3, .inl (WD 28))), (ma 38, .inl (y 3, 5, .inl (WD 29))), (ma 39, .inl (y 3, 5, .inl (WD 30))), (ma 41, .inl (y 3, 3, .inl (WD 32))), (ma 50, .inl (y 0, 3200, .inl g50)), (ma 52, .inl (y 0, 1700, .inl zw)), (ma 40, .inl (y 3, 3, .inl (WD 31)))]) [6, 7] [0, 1, 2, 3, 4, 5, 8] rfl rfl (by decide +kernel) (by decide +kernel) (by decide +kernel) (As := []) (rest := []) rfl (nb rfl) rfl d_Model_onePart_91 (fun r648 u649 hr648 => ?_)
            refine j_ws (ws' := [(ma 37, .inl (y 3, 3, .inl (WD 28))), (ma 38, .inl (y 3, 5, .inl (WD 29))), (ma 39, .inl (y 3, 5, .inl (WD 30))), (ma 41, .inl (y 3, 3, .inl (WD 32))), (ma 50, .inl (y 0, 3200, .inl g50)), (ma 52, .inl (y 0, 1700, .inl zw)), (ma 40, .inl (y 3, 3, .inl (WD 31))), MB mo ma (nI t1) (nI u649) (nI t3) u638.2 0 pz i7 i8 i42 i49 (nI cd) (nI zn) (nI oz) (nI bs) i61 i64 i66 (nI t67) i76 i78, (ma 0, .inl (y 0, 1600, .inl (tby tx)))]) rfl ?_
            obtain ⟨xh650, xh651, xh652, xh653, xh654⟩ := hr648
            rcases xh654 with ⟨rfl, xh655⟩ | ⟨rfl, xh656⟩
            · refine j_bipush (pc := 94) C (v := 40) d_Model_onePart_94 (by decide) ?_
              refine j_icmp_neT (pc := 96) C (tgt := 106) d_Model_onePart_96 (by decide) (by decide) ?_
              refine j_iconst (pc := 106) C (v := (-1)) d_Model_onePart_106 (by decide) ?_
              refine j_istore (pc := 107) C (lv' := [(4, .int (-1)), (3, .int 1), (2, .int (-1)), (1, .int (nI mz)), (0, .ref mo)]) d_Model_onePart_107 (by decide) rfl ?_
              refine j_iload (pc := 109) C d_Model_onePart_109 0 rfl ?_
              refine j_iconst (pc := 111) C (v := (-1)) d_Model_onePart_111 (by decide) ?_
              refine j_icmp_eqT (pc := 112) C (tgt := 132) d_Model_onePart_112 (by decide) (by decide) ?_
              have xh657 : ¬ issS tx t3 40 (advS tx t3 gz) = true := (sg_no1 ((rr_z xh653).mp rfl) xh652 xh655)
              refine j_aload_n (pc := 132) C d_Model_onePart_132 rfl 4 rfl ?_
              refine j_bipush (pc := 133) C (v := 40) d_Model_onePart_133 (by decide) ?_
              refine j_callVv (pc := 135) C (c_M_asksSign l D y mo ma t1 u649 t3 u638.2 0 pz i7 i8 i42 i49 (nI cd) (nI zn) (nI oz) (nI bs) i61 i64 i66 t67 i76 i78 tx 40 (advS tx t3 gz) xh651 he hB xh653 (by omega) (by decide)) kw_Model_271 kv_Model_asksSign 0 10 rfl rfl ⟨by decide, by decide⟩ ⟨by decide, by decide⟩ (wr := [(ma 37, .inl (y 3, 3, .inl (WD 28))), (ma 38, .inl (y 3, 5, .inl (WD 29))), (ma 39, .inl (y 3, 5, .inl (WD 30))), (ma 41, .inl (y 3, 3, .inl (WD 32))), (ma 50, .inl (y 0, 3200, .inl g50)), (ma 52, .inl (y 0, 1700, .inl zw)), (ma 40, .inl (y 3, 3, .inl (WD 31)))]) [7, 8] [0, 1, 2, 3, 4, 5, 6] rfl rfl (by decide +kernel) (by decide +kernel) (by decide +kernel) (As := [.int 40]) (rest := []) rfl (nb rfl) rfl d_Model_onePart_135 (fun u658 hu659 => ?_)
              obtain ⟨xh660, xh661, xh662, xh663⟩ := hu659
              refine j_ws (ws' := [(ma 37, .inl (y 3, 3, .inl (WD 28))), (ma 38, .inl (y 3, 5, .inl (WD 29))), (ma 39, .inl (y 3, 5, .inl (WD 30))), (ma 41, .inl (y 3, 3, .inl (WD 32))), (ma 50, .inl (y 0, 3200, .inl g50)), (ma 52, .inl (y 0, 1700, .inl zw)), (ma 40, .inl (y 3, 3, .inl (WD 31))), MB mo ma (nI t1) (nI u658.1) (nI t3) u638.2 u658.2.1 u658.2.2 i7 i8 i42 i49 (nI cd) (nI zn) (nI oz) (nI bs) i61 i64 i66 (nI t67) i76 i78, (ma 0, .inl (y 0, 1600, .inl (tby tx)))]) rfl ?_
              have xh664 : RR tx t3 (failS 1 (stS tx t3 (advS tx t3 gz)) (advS tx t3 gz)) u658.1 u638.2 u658.2.1 u658.2.2 := (rr_of xh663 (if_neg xh657).symm)
              have xh665 : ¬ u658.2.1 = 0 := fun e => (fail_nz (by decide)) ((rr_z xh664).mp e)
              have xh666 : Rch tx t3 (0, (gs, cs, sk, oo)) (2, ((failS 1 (stS tx t3 (advS tx t3 gz)) (advS tx t3 gz)), cs, sz, oz)) := xh514.tr (Rch.st ((stP _ _ _ _).trans ((sP_mm (Or.inl xh534)).trans (if_neg xh657))) (Rch.rf _))
              refine j_goto (pc := 138) C (tgt := 143) d_Model_onePart_138 (by decide) ?_
              refine j_goto (pc := 143) C (tgt := 2) d_Model_onePart_143 (by decide) ?_
              refine j_sub (ws' := [MB mo ma (nI t1) (nI u658.1) (nI t3) u638.2 u658.2.1 u658.2.2 i7 i8 i42 i49 (nI cd) (nI zn) (nI oz) (nI bs) i61 i64 i66 (nI t67) i76 i78, (ma 0, .inl (y 0, 1600, .inl (tby tx))), (ma 37, .inl (y 3, 3, .inl (WD 28))), (ma 38, .inl (y 3, 5, .inl (WD 29))), (ma 39, .inl (y 3, 5, .inl (WD 30))), (ma 40, .inl (y 3, 3, .inl (WD 31))), (ma 41, .inl (y 3, 3, .inl (WD 32))), (ma 50, .inl (y 0, 3200, .inl g50)), (ma 52, .inl (y 0, 1700, .inl zw))]) [7, 8, 0, 1, 2, 6, 3, 4, 5] rfl (by decide +kernel) ?_
              refine j_locs (lv' := [(1, .int (nI mz)), (0, .ref mo)]) [3, 4] rfl ?_
              have hz1 := bz_e c511
              have hz0 := bz_le u658.2.1
              have hz2 : bz1 u658.2.1 = 0 ∨ az + 1 ≤ u658.1 := Or.inl (bz_0 xh665)
              have xh667 : RS kq s0 f0 xx u658.2.1 g50 zw cd zn az := rs_bad xh512 xh665
              exact ih456 (mz, u658.1, u658.2.1, zw, zn, u638.2, u658.2.2, oz, (failS 1 (stS tx t3 (advS tx t3 gz)) (advS tx t3 gz)), sz) ⟨hmz_, xh661, (show t2 ≤ u658.1 by omega), (show RS kq s0 f0 xx u658.2.1 g50 zw cd zn u658.1 from (rs_at xh667 (by omega))), hT_, hS_, hb_, (show RR tx t3 (failS 1 (stS tx t3 (advS tx t3 gz)) (advS tx t3 gz)) u658.1 u638.2 u658.2.1 u658.2.2 from xh664), (fun e => absurd e xh665), ho_, (fun _ => ⟨_, _, _, xh666⟩), (fun e => absurd (show mz = 0 from e) (by omega)), hF_⟩ (show 2 * (t3 - u658.1) + bz1 u658.2.1 + mz < 2 * (t3 - az) + bz1 bz + mz by omega)
            · have hb668 : tx u649 < 256 := hB u649
              refine j_bipush (pc := 94) C (v := 40) d_Model_onePart_94 (by decide) ?_
              by_cases c669 : ¬ (tx u649) = 40
              · refine j_icmp_neT (pc := 96) C (tgt := 106) d_Model_onePart_96 (by decide) (show ¬ nI (tx u649) = nI 40 from fun e => absurd ((nI_eq (by omega) (by omega)).mp e) (by omega)) ?_
                refine j_iconst (pc := 106) C (v := (-1)) d_Model_onePart_106 (by decide) ?_
                refine j_istore (pc := 107) C (lv' := [(4, .int (-1)), (3, .int 1), (2, .int (-1)), (1, .int (nI mz)), (0, .ref mo)]) d_Model_onePart_107 (by decide) rfl ?_
                refine j_iload (pc := 109) C d_Model_onePart_109 0 rfl ?_
                refine j_iconst (pc := 111) C (v := (-1)) d_Model_onePart_111 (by decide) ?_
                refine j_icmp_eqT (pc := 112) C (tgt := 132) d_Model_onePart_112 (by decide) (by decide) ?_
                have xh670 : ¬ issS tx t3 40 (advS tx t3 gz) = true := (sg_no2 xh652 (show ¬ tx u649 = 40 by omega))
                refine j_aload_n (pc := 132) C d_Model_onePart_132 rfl 4 rfl ?_
                refine j_bipush (pc := 133) C (v := 40) d_Model_onePart_133 (by decide) ?_
                refine j_callVv (pc := 135) C (c_M_asksSign l D y mo ma t1 u649 t3 u638.2 0 pz i7 i8 i42 i49 (nI cd) (nI zn) (nI oz) (nI bs) i61 i64 i66 t67 i76 i78 tx 40 (advS tx t3 gz) xh651 he hB xh653 (by omega) (by decide)) kw_Model_271 kv_Model_asksSign 0 10 rfl rfl ⟨by decide, by decide⟩ ⟨by decide, by decide⟩ (wr := [(ma 37, .inl (y 3, 3, .inl (WD 28))), (ma 38, .inl (y 3, 5, .inl (WD 29))), (ma 39, .inl (y 3, 5, .inl (WD 30))), (ma 41, .inl (y 3, 3, .inl (WD 32))), (ma 50, .inl (y 0, 3200, .inl g50)), (ma 52, .inl (y 0, 1700, .inl zw)), (ma 40, .inl (y 3, 3, .inl (WD 31)))]) [7, 8] [0, 1, 2, 3, 4, 5, 6] rfl rfl (by decide +kernel) (by decide +kernel) (by decide +kernel) (As := [.int 40]) (rest := []) rfl (nb rfl) rfl d_Model_onePart_135 (fun u671 hu672 => ?_)
                obtain ⟨xh673, xh674, xh675, xh676⟩ := hu672
                refine j_ws (ws' := [(ma 37, .inl (y 3, 3, .inl (WD 28))), (ma 38, .inl (y 3, 5, .inl (WD 29))), (ma 39, .inl (y 3, 5, .inl (WD 30))), (ma 41, .inl (y 3, 3, .inl (WD 32))), (ma 50, .inl (y 0, 3200, .inl g50)), (ma 52, .inl (y 0, 1700, .inl zw)), (ma 40, .inl (y 3, 3, .inl (WD 31))), MB mo ma (nI t1) (nI u671.1) (nI t3) u638.2 u671.2.1 u671.2.2 i7 i8 i42 i49 (nI cd) (nI zn) (nI oz) (nI bs) i61 i64 i66 (nI t67) i76 i78, (ma 0, .inl (y 0, 1600, .inl (tby tx)))]) rfl ?_
                have xh677 : RR tx t3 (failS 1 (stS tx t3 (advS tx t3 gz)) (advS tx t3 gz)) u671.1 u638.2 u671.2.1 u671.2.2 := (rr_of xh676 (if_neg xh670).symm)
                have xh678 : ¬ u671.2.1 = 0 := fun e => (fail_nz (by decide)) ((rr_z xh677).mp e)
                have xh679 : Rch tx t3 (0, (gs, cs, sk, oo)) (2, ((failS 1 (stS tx t3 (advS tx t3 gz)) (advS tx t3 gz)), cs, sz, oz)) := xh514.tr (Rch.st ((stP _ _ _ _).trans ((sP_mm (Or.inl xh534)).trans (if_neg xh670))) (Rch.rf _))
                refine j_goto (pc := 138) C (tgt := 143) d_Model_onePart_138 (by decide) ?_
                refine j_goto (pc := 143) C (tgt := 2) d_Model_onePart_143 (by decide) ?_
                refine j_sub (ws' := [MB mo ma (nI t1) (nI u671.1) (nI t3) u638.2 u671.2.1 u671.2.2 i7 i8 i42 i49 (nI cd) (nI zn) (nI oz) (nI bs) i61 i64 i66 (nI t67) i76 i78, (ma 0, .inl (y 0, 1600, .inl (tby tx))), (ma 37, .inl (y 3, 3, .inl (WD 28))), (ma 38, .inl (y 3, 5, .inl (WD 29))), (ma 39, .inl (y 3, 5, .inl (WD 30))), (ma 40, .inl (y 3, 3, .inl (WD 31))), (ma 41, .inl (y 3, 3, .inl (WD 32))), (ma 50, .inl (y 0, 3200, .inl g50)), (ma 52, .inl (y 0, 1700, .inl zw))]) [7, 8, 0, 1, 2, 6, 3, 4, 5] rfl (by decide +kernel) ?_
                refine j_locs (lv' := [(1, .int (nI mz)), (0, .ref mo)]) [3, 4] rfl ?_
                have hz1 := bz_e c511
                have hz0 := bz_le u671.2.1
                have hz2 : bz1 u671.2.1 = 0 ∨ az + 1 ≤ u671.1 := Or.inl (bz_0 xh678)
                have xh680 : RS kq s0 f0 xx u671.2.1 g50 zw cd zn az := rs_bad xh512 xh678
                exact ih456 (mz, u671.1, u671.2.1, zw, zn, u638.2, u671.2.2, oz, (failS 1 (stS tx t3 (advS tx t3 gz)) (advS tx t3 gz)), sz) ⟨hmz_, xh674, (show t2 ≤ u671.1 by omega), (show RS kq s0 f0 xx u671.2.1 g50 zw cd zn u671.1 from (rs_at xh680 (by omega))), hT_, hS_, hb_, (show RR tx t3 (failS 1 (stS tx t3 (advS tx t3 gz)) (advS tx t3 gz)) u671.1 u638.2 u671.2.1 u671.2.2 from xh677), (fun e => absurd e xh678), ho_, (fun _ => ⟨_, _, _, xh679⟩), (fun e => absurd (show mz = 0 from e) (by omega)), hF_⟩ (show 2 * (t3 - u671.1) + bz1 u671.2.1 + mz < 2 * (t3 - az) + bz1 bz + mz by omega)
              · refine j_icmp_neF (pc := 96) C (tgt := 106) d_Model_onePart_96 (by decide) (show nI (tx u649) = nI 40 from (nI_eq (by omega) (by omega)).mpr (by omega)) ?_
                refine j_aload_n (pc := 99) C d_Model_onePart_99 rfl 3 rfl ?_
                refine j_get (pc := 100) C gf_Model_207 7 rfl rfl d_Model_onePart_100 ?_
                refine j_goto (pc := 103) C (tgt := 107) d_Model_onePart_103 (by decide) ?_
                refine j_istore (pc := 107) C (lv' := [(4, .int (nI u649)), (3, .int 1), (2, .int (-1)), (1, .int (nI mz)), (0, .ref mo)]) d_Model_onePart_107 (by decide) rfl ?_
                refine j_iload (pc := 109) C d_Model_onePart_109 0 rfl ?_
                refine j_iconst (pc := 111) C (v := (-1)) d_Model_onePart_111 (by decide) ?_
                refine j_icmp_eqF (pc := 112) C (tgt := 132) d_Model_onePart_112 (by decide) (nI_nm1 (by omega)) ?_
                refine j_aload_n (pc := 115) C d_Model_onePart_115 rfl 4 rfl ?_
                refine j_iload_n (pc := 116) C d_Model_onePart_116 rfl 1 rfl ?_
                refine j_if_eqF (pc := 117) C (tgt := 125) d_Model_onePart_117 (by decide) (by decide) ?_
                refine j_bipush (pc := 120) C (v := 21) d_Model_onePart_120 (by decide) ?_
                refine j_goto (pc := 122) C (tgt := 127) d_Model_onePart_122 (by decide) ?_
                refine j_iload (pc := 127) C d_Model_onePart_127 0 rfl ?_
                have xh681 : issS tx t3 40 (advS tx t3 gz) = true := (sg_yes ((rr_z xh653).mp rfl) xh652 xh656 (show tx u649 = 40 by omega) (by decide)).1
                by_cases c682 : oz = 6
                · refine j_callVv (pc := 129) C (c_M_opens_N l D y mo ma t1 u649 t3 u638.2 0 pz i7 i8 i42 i49 (nI cd) zn oz (nI bs) i61 i64 i66 t67 i76 i78 zw 21 u649 (advS tx t3 gz) tx (by omega) ((rr_z xh653).mp rfl) (by omega) rfl) kw_Model_353 kv_Model_opens 0 10 rfl rfl ⟨by decide, by decide⟩ ⟨by decide, by decide⟩ (wr := [(ma 37, .inl (y 3, 3, .inl (WD 28))), (ma 38, .inl (y 3, 5, .inl (WD 29))), (ma 39, .inl (y 3, 5, .inl (WD 30))), (ma 41, .inl (y 3, 3, .inl (WD 32))), (ma 50, .inl (y 0, 3200, .inl g50)), (ma 40, .inl (y 3, 3, .inl (WD 31))), (ma 0, .inl (y 0, 1600, .inl (tby tx)))]) [7, 5] [0, 1, 2, 3, 4, 6, 8] rfl rfl (by decide +kernel) (by decide +kernel) (by decide +kernel) (As := [.int 21, .int (nI u649)]) (rest := []) rfl (nb rfl) rfl d_Model_onePart_129 (fun u683 hu684 => ?_)
                  obtain ⟨xh685, xh686⟩ := hu684
                  refine j_ws (ws' := [(ma 37, .inl (y 3, 3, .inl (WD 28))), (ma 38, .inl (y 3, 5, .inl (WD 29))), (ma 39, .inl (y 3, 5, .inl (WD 30))), (ma 41, .inl (y 3, 3, .inl (WD 32))), (ma 50, .inl (y 0, 3200, .inl g50)), (ma 40, .inl (y 3, 3, .inl (WD 31))), (ma 0, .inl (y 0, 1600, .inl (tby tx))), MB mo ma (nI t1) (nI u649) (nI t3) u638.2 u683.1 u683.2 i7 i8 i42 i49 (nI cd) (nI zn) (nI oz) (nI bs) i61 i64 i66 (nI t67) i76 i78, (ma 52, .inl (y 0, 1700, .inl zw))]) rfl ?_
                  have xh687 : RS kq s0 f0 xx u683.1 g50 zw cd zn u649 := rs_bad (rs_at xh512 (show az ≤ u649 by omega)) xh685
                  refine j_aload_n (pc := 132) C d_Model_onePart_132 rfl 4 rfl ?_
                  refine j_bipush (pc := 133) C (v := 40) d_Model_onePart_133 (by decide) ?_
                  refine j_callVv (pc := 135) C (c_M_asksSign l D y mo ma t1 u649 t3 u638.2 u683.1 u683.2 i7 i8 i42 i49 (nI cd) (nI zn) (nI oz) (nI bs) i61 i64 i66 t67 i76 i78 tx 40 (failS 4 u649 (advS tx t3 gz)) xh651 he hB xh686 (by omega) (by decide)) kw_Model_271 kv_Model_asksSign 0 10 rfl rfl ⟨by decide, by decide⟩ ⟨by decide, by decide⟩ (wr := [(ma 37, .inl (y 3, 3, .inl (WD 28))), (ma 38, .inl (y 3, 5, .inl (WD 29))), (ma 39, .inl (y 3, 5, .inl (WD 30))), (ma 41, .inl (y 3, 3, .inl (WD 32))), (ma 50, .inl (y 0, 3200, .inl g50)), (ma 40, .inl (y 3, 3, .inl (WD 31))), (ma 52, .inl (y 0, 1700, .inl zw))]) [7, 6] [0, 1, 2, 3, 4, 5, 8] rfl rfl (by decide +kernel) (by decide +kernel) (by decide +kernel) (As := [.int 40]) (rest := []) rfl (nb rfl) rfl d_Model_onePart_135 (fun u688 hu689 => ?_)
                  obtain ⟨xh690, xh691, xh692, xh693⟩ := hu689
                  refine j_ws (ws' := [(ma 37, .inl (y 3, 3, .inl (WD 28))), (ma 38, .inl (y 3, 5, .inl (WD 29))), (ma 39, .inl (y 3, 5, .inl (WD 30))), (ma 41, .inl (y 3, 3, .inl (WD 32))), (ma 50, .inl (y 0, 3200, .inl g50)), (ma 40, .inl (y 3, 3, .inl (WD 31))), (ma 52, .inl (y 0, 1700, .inl zw)), MB mo ma (nI t1) (nI u688.1) (nI t3) u638.2 u688.2.1 u688.2.2 i7 i8 i42 i49 (nI cd) (nI zn) (nI oz) (nI bs) i61 i64 i66 (nI t67) i76 i78, (ma 0, .inl (y 0, 1600, .inl (tby tx)))]) rfl ?_
                  have xh694 : RR tx t3 (failS 4 (stS tx t3 (advS tx t3 gz)) (advS tx t3 gz)) u688.1 u638.2 u688.2.1 u688.2.2 := (rr_of xh693 ((rs_d (fail_nz (by decide))).trans (by rw [← xh652])).symm)
                  have xh695 : ¬ u688.2.1 = 0 := fun e => (fail_nz (by decide)) ((rr_z xh694).mp e)
                  have xh696 : Rch tx t3 (0, (gs, cs, sk, oo)) (2, ((failS 4 (stS tx t3 (advS tx t3 gz)) (advS tx t3 gz)), cs, sz, oz)) := xh514.tr (Rch.st ((stP _ _ _ _).trans ((sP_mm (Or.inl xh534)).trans ((if_pos xh681).trans (if_pos c682)))) (Rch.rf _))
                  refine j_goto (pc := 138) C (tgt := 143) d_Model_onePart_138 (by decide) ?_
                  refine j_goto (pc := 143) C (tgt := 2) d_Model_onePart_143 (by decide) ?_
                  refine j_sub (ws' := [MB mo ma (nI t1) (nI u688.1) (nI t3) u638.2 u688.2.1 u688.2.2 i7 i8 i42 i49 (nI cd) (nI zn) (nI oz) (nI bs) i61 i64 i66 (nI t67) i76 i78, (ma 0, .inl (y 0, 1600, .inl (tby tx))), (ma 37, .inl (y 3, 3, .inl (WD 28))), (ma 38, .inl (y 3, 5, .inl (WD 29))), (ma 39, .inl (y 3, 5, .inl (WD 30))), (ma 40, .inl (y 3, 3, .inl (WD 31))), (ma 41, .inl (y 3, 3, .inl (WD 32))), (ma 50, .inl (y 0, 3200, .inl g50)), (ma 52, .inl (y 0, 1700, .inl zw))]) [7, 8, 0, 1, 2, 5, 3, 4, 6] rfl (by decide +kernel) ?_
                  refine j_locs (lv' := [(1, .int (nI mz)), (0, .ref mo)]) [3, 4] rfl ?_
                  have hz1 := bz_e c511
                  have hz0 := bz_le u688.2.1
                  have hz2 : bz1 u688.2.1 = 0 ∨ az + 1 ≤ u688.1 := Or.inl (bz_0 xh695)
                  have xh697 : RS kq s0 f0 xx u688.2.1 g50 zw cd zn u649 := rs_bad xh687 xh695
                  exact ih456 (mz, u688.1, u688.2.1, zw, zn, u638.2, u688.2.2, oz, (failS 4 (stS tx t3 (advS tx t3 gz)) (advS tx t3 gz)), sz) ⟨hmz_, xh691, (show t2 ≤ u688.1 by omega), (show RS kq s0 f0 xx u688.2.1 g50 zw cd zn u688.1 from (rs_at xh697 (by omega))), hT_, hS_, hb_, (show RR tx t3 (failS 4 (stS tx t3 (advS tx t3 gz)) (advS tx t3 gz)) u688.1 u638.2 u688.2.1 u688.2.2 from xh694), (fun e => absurd e xh695), ho_, (fun _ => ⟨_, _, _, xh696⟩), (fun e => absurd (show mz = 0 from e) (by omega)), hF_⟩ (show 2 * (t3 - u688.1) + bz1 u688.2.1 + mz < 2 * (t3 - az) + bz1 bz + mz by omega)
                · refine j_callVv (pc := 129) C (c_M_opens_Y l D y mo ma t1 u649 t3 u638.2 0 pz i7 i8 i42 i49 cd zn oz (nI bs) i61 i64 i66 t67 i76 i78 zw 21 (nI u649) (by omega) (by omega) (by omega)) kw_Model_353 kv_Model_opens 0 10 rfl rfl ⟨by decide, by decide⟩ ⟨by decide, by decide⟩ (wr := [(ma 37, .inl (y 3, 3, .inl (WD 28))), (ma 38, .inl (y 3, 5, .inl (WD 29))), (ma 39, .inl (y 3, 5, .inl (WD 30))), (ma 41, .inl (y 3, 3, .inl (WD 32))), (ma 50, .inl (y 0, 3200, .inl g50)), (ma 40, .inl (y 3, 3, .inl (WD 31))), (ma 0, .inl (y 0, 1600, .inl (tby tx)))]) [7, 5] [0, 1, 2, 3, 4, 6, 8] rfl rfl (by decide +kernel) (by decide +kernel) (by decide +kernel) (As := [.int 21, .int (nI u649)]) (rest := []) rfl (nb rfl) rfl d_Model_onePart_129 (fun _ _ => ?_)
                  refine j_ws (ws' := [(ma 37, .inl (y 3, 3, .inl (WD 28))), (ma 38, .inl (y 3, 5, .inl (WD 29))), (ma 39, .inl (y 3, 5, .inl (WD 30))), (ma 41, .inl (y 3, 3, .inl (WD 32))), (ma 50, .inl (y 0, 3200, .inl g50)), (ma 40, .inl (y 3, 3, .inl (WD 31))), (ma 0, .inl (y 0, 1600, .inl (tby tx))), MB mo ma (nI t1) (nI u649) (nI t3) u638.2 0 pz i7 i8 i42 i49 (nI cd) (nI (zn + 1)) (nI (oz + 1)) (nI bs) i61 i64 i66 (nI t67) i76 i78, (ma 52, .inl (y 0, 1700, .inl (upd zw zn 21)))]) rfl ?_
                  have xh698 : RS kq s0 f0 xx 0 g50 (upd zw zn 21) cd (zn + 1) (u649 + 1) := rs_push (rs_at xh512 (show az ≤ u649 by omega)) (by decide)
                  have xh699 : ITm (upd zw zn 21) bs := (it_up hT_ (by omega))
                  have xh700 : ISm (upd zw zn 21) bs (zn + 1) := (is_up hS_ (by decide))
                  have xh701 : WB (21 :: sz) (upd zw zn 21) bs (zn + 1) := wb_push xh515 (by decide)
                  have xh702 : opn (21 :: sz) ≤ (oz + 1) := opn_push xh516
                  refine j_aload_n (pc := 132) C d_Model_onePart_132 rfl 4 rfl ?_
                  refine j_bipush (pc := 133) C (v := 40) d_Model_onePart_133 (by decide) ?_
                  refine j_callVv (pc := 135) C (c_M_asksSign l D y mo ma t1 u649 t3 u638.2 0 pz i7 i8 i42 i49 (nI cd) (nI (zn + 1)) (nI (oz + 1)) (nI bs) i61 i64 i66 t67 i76 i78 tx 40 (advS tx t3 gz) xh651 he hB xh653 (by omega) (by decide)) kw_Model_271 kv_Model_asksSign 0 10 rfl rfl ⟨by decide, by decide⟩ ⟨by decide, by decide⟩ (wr := [(ma 37, .inl (y 3, 3, .inl (WD 28))), (ma 38, .inl (y 3, 5, .inl (WD 29))), (ma 39, .inl (y 3, 5, .inl (WD 30))), (ma 41, .inl (y 3, 3, .inl (WD 32))), (ma 50, .inl (y 0, 3200, .inl g50)), (ma 40, .inl (y 3, 3, .inl (WD 31))), (ma 52, .inl (y 0, 1700, .inl (upd zw zn 21)))]) [7, 6] [0, 1, 2, 3, 4, 5, 8] rfl rfl (by decide +kernel) (by decide +kernel) (by decide +kernel) (As := [.int 40]) (rest := []) rfl (nb rfl) rfl d_Model_onePart_135 (fun u703 hu704 => ?_)
                  obtain ⟨xh705, xh706, xh707, xh708⟩ := hu704
                  refine j_ws (ws' := [(ma 37, .inl (y 3, 3, .inl (WD 28))), (ma 38, .inl (y 3, 5, .inl (WD 29))), (ma 39, .inl (y 3, 5, .inl (WD 30))), (ma 41, .inl (y 3, 3, .inl (WD 32))), (ma 50, .inl (y 0, 3200, .inl g50)), (ma 40, .inl (y 3, 3, .inl (WD 31))), (ma 52, .inl (y 0, 1700, .inl (upd zw zn 21))), MB mo ma (nI t1) (nI u703.1) (nI t3) u638.2 u703.2.1 u703.2.2 i7 i8 i42 i49 (nI cd) (nI (zn + 1)) (nI (oz + 1)) (nI bs) i61 i64 i66 (nI t67) i76 i78, (ma 0, .inl (y 0, 1600, .inl (tby tx)))]) rfl ?_
                  have xh709 : RR tx t3 (advS tx t3 (advS tx t3 gz)) u703.1 u638.2 u703.2.1 u703.2.2 := (rr_of xh708 (if_pos xh681).symm)
                  have xh710 : u703.2.1 = 0 := (rr_z xh709).mpr (adv_ok xh636)
                  have hp711 := (xh707 xh710).2
                  have xh712 : RS kq s0 f0 xx u703.2.1 g50 (upd zw zn 21) cd (zn + 1) (u649 + 1) := rs_mono xh698 (fun _ => rfl)
                  refine j_ws (ws' := [(ma 37, .inl (y 3, 3, .inl (WD 28))), (ma 38, .inl (y 3, 5, .inl (WD 29))), (ma 39, .inl (y 3, 5, .inl (WD 30))), (ma 41, .inl (y 3, 3, .inl (WD 32))), (ma 50, .inl (y 0, 3200, .inl g50)), (ma 40, .inl (y 3, 3, .inl (WD 31))), (ma 52, .inl (y 0, 1700, .inl (upd zw zn 21))), MB mo ma (nI t1) (nI u703.1) (nI t3) u638.2 0 u703.2.2 i7 i8 i42 i49 (nI cd) (nI (zn + 1)) (nI (oz + 1)) (nI bs) i61 i64 i66 (nI t67) i76 i78, (ma 0, .inl (y 0, 1600, .inl (tby tx)))]) (by rw [xh710]) ?_
                  have xh713 : RR tx t3 (advS tx t3 (advS tx t3 gz)) u703.1 u638.2 0 u703.2.2 := by have hq := xh709; rw [xh710] at hq; exact hq
                  have xh714 : Rch tx t3 (0, (gs, cs, sk, oo)) (0, ((advS tx t3 (advS tx t3 gz)), cs, (21 :: sz), (oz + 1))) := xh514.tr (Rch.st ((stP _ _ _ _).trans ((sP_mm (Or.inl xh534)).trans ((if_pos xh681).trans ((if_neg c682).trans (by rw [if_pos xh534]))))) (Rch.rf _))
                  refine j_goto (pc := 138) C (tgt := 143) d_Model_onePart_138 (by decide) ?_
                  refine j_goto (pc := 143) C (tgt := 2) d_Model_onePart_143 (by decide) ?_
                  refine j_sub (ws' := [MB mo ma (nI t1) (nI u703.1) (nI t3) u638.2 0 u703.2.2 i7 i8 i42 i49 (nI cd) (nI (zn + 1)) (nI (oz + 1)) (nI bs) i61 i64 i66 (nI t67) i76 i78, (ma 0, .inl (y 0, 1600, .inl (tby tx))), (ma 37, .inl (y 3, 3, .inl (WD 28))), (ma 38, .inl (y 3, 5, .inl (WD 29))), (ma 39, .inl (y 3, 5, .inl (WD 30))), (ma 40, .inl (y 3, 3, .inl (WD 31))), (ma 41, .inl (y 3, 3, .inl (WD 32))), (ma 50, .inl (y 0, 3200, .inl g50)), (ma 52, .inl (y 0, 1700, .inl (upd zw zn 21)))]) [7, 8, 0, 1, 2, 5, 3, 4, 6] rfl (by decide +kernel) ?_
                  refine j_locs (lv' := [(1, .int (nI mz)), (0, .ref mo)]) [3, 4] rfl ?_
                  have hz1 := bz_e c511
                  have hz0 := bz_1
                  have hz2 : bz1 0 = 0 ∨ az + 1 ≤ u703.1 := Or.inr (by omega)
                  exact ih456 (mz, u703.1, 0, (upd zw zn 21), (zn + 1), u638.2, u703.2.2, (oz + 1), (advS tx t3 (advS tx t3 gz)), (21 :: sz)) ⟨hmz_, xh706, (show t2 ≤ u703.1 by omega), (show RS kq s0 f0 xx 0 g50 (upd zw zn 21) cd (zn + 1) u703.1 from (rs_at xh698 (by omega))), xh699, xh700, (show bs ≤ (zn + 1) by omega), (show RR tx t3 (advS tx t3 (advS tx t3 gz)) u703.1 u638.2 0 u703.2.2 from xh713), (fun _ => ⟨xh714, xh701, xh702⟩), (show (oz + 1) ≤ 6 by omega), (fun e => absurd rfl e), (fun e => absurd (show mz = 0 from e) (by omega)), (fun j hj => (pk_un (show j ≠ zn by omega)).trans (hF_ j hj))⟩ (show 2 * (t3 - u703.1) + bz1 0 + mz < 2 * (t3 - az) + bz1 bz + mz by omega)
      · have hb715 : tx u518 < 256 := hB u518
        refine j_istore_n (pc := 17) C (lv' := [(2, .int (nI (tx u518))), (1, .int (nI mz)), (0, .ref mo)]) d_Model_onePart_17 rfl (by decide) rfl ?_
        refine j_iload_n (pc := 18) C d_Model_onePart_18 rfl 0 rfl ?_
        refine j_bipush (pc := 19) C (v := 40) d_Model_onePart_19 (by decide) ?_
        by_cases c716 : ¬ (tx u518) = 40
        · refine j_icmp_neT (pc := 21) C (tgt := 47) d_Model_onePart_21 (by decide) (show ¬ nI (tx u518) = nI 40 from fun e => absurd ((nI_eq (by omega) (by omega)).mp e) (by omega)) ?_
          refine j_aload_n (pc := 47) C d_Model_onePart_47 rfl 2 rfl ?_
          refine j_aload_n (pc := 48) C d_Model_onePart_48 rfl 2 rfl ?_
          refine j_get (pc := 49) C gf_Model_111 7 rfl rfl d_Model_onePart_49 ?_
          refine j_callVi (pc := 52) C (c_M_isHere_3 l D y mo (ma 40) ma t1 u518 t3 ez 0 pz i7 i8 i42 i49 (nI cd) (nI zn) (nI oz) (nI bs) i61 i64 i66 t67 i76 i78 tx 31 gz xh520 he hB xh522 (by omega) (by decide)) kw_Model_224 kv_Model_isHere 0 10 rfl rfl ⟨by decide, by decide⟩ ⟨by decide, by decide⟩ (wr := [(ma 37, .inl (y 3, 3, .inl (WD 28))), (ma 38, .inl (y 3, 5, .inl (WD 29))), (ma 39, .inl (y 3, 5, .inl (WD 30))), (ma 41, .inl (y 3, 3, .inl (WD 32))), (ma 50, .inl (y 0, 3200, .inl g50)), (ma 52, .inl (y 0, 1700, .inl zw))]) [7, 8, 3] [0, 1, 2, 4, 5, 6] rfl rfl (by decide +kernel) (by decide +kernel) (by decide +kernel) (As := [.ref (ma 40)]) (rest := []) rfl (nb rfl) rfl d_Model_onePart_52 (fun r717 u718 hr717 => ?_)
          refine j_ws (ws' := [(ma 37, .inl (y 3, 3, .inl (WD 28))), (ma 38, .inl (y 3, 5, .inl (WD 29))), (ma 39, .inl (y 3, 5, .inl (WD 30))), (ma 41, .inl (y 3, 3, .inl (WD 32))), (ma 50, .inl (y 0, 3200, .inl g50)), (ma 52, .inl (y 0, 1700, .inl zw)), MB mo ma (nI t1) (nI u718) (nI t3) ez 0 pz i7 i8 i42 i49 (nI cd) (nI zn) (nI oz) (nI bs) i61 i64 i66 (nI t67) i76 i78, (ma 0, .inl (y 0, 1600, .inl (tby tx))), (ma 40, .inl (y 3, 3, .inl (WD 31)))]) rfl ?_
          obtain ⟨xh719, xh720, xh721, xh722, xh723⟩ := hr717
          rcases xh723 with ⟨rfl, xh724⟩ | ⟨rfl, xh725, xh726⟩
          · refine j_if_neF (pc := 55) C (tgt := 69) d_Model_onePart_55 (by decide) (by decide) ?_
            refine j_aload_n (pc := 58) C d_Model_onePart_58 rfl 2 rfl ?_
            refine j_aload_n (pc := 59) C d_Model_onePart_59 rfl 2 rfl ?_
            refine j_get (pc := 60) C gf_Model_114 6 rfl rfl d_Model_onePart_60 ?_
            refine j_callVi (pc := 63) C (c_M_isHere_3 l D y mo (ma 41) ma t1 u718 t3 ez 0 pz i7 i8 i42 i49 (nI cd) (nI zn) (nI oz) (nI bs) i61 i64 i66 t67 i76 i78 tx 32 gz xh720 he hB xh722 (by omega) (by decide)) kw_Model_224 kv_Model_isHere 0 10 rfl rfl ⟨by decide, by decide⟩ ⟨by decide, by decide⟩ (wr := [(ma 37, .inl (y 3, 3, .inl (WD 28))), (ma 38, .inl (y 3, 5, .inl (WD 29))), (ma 39, .inl (y 3, 5, .inl (WD 30))), (ma 50, .inl (y 0, 3200, .inl g50)), (ma 52, .inl (y 0, 1700, .inl zw)), (ma 40, .inl (y 3, 3, .inl (WD 31)))]) [6, 7, 3] [0, 1, 2, 4, 5, 8] rfl rfl (by decide +kernel) (by decide +kernel) (by decide +kernel) (As := [.ref (ma 41)]) (rest := []) rfl (nb rfl) rfl d_Model_onePart_63 (fun r727 u728 hr727 => ?_)
            refine j_ws (ws' := [(ma 37, .inl (y 3, 3, .inl (WD 28))), (ma 38, .inl (y 3, 5, .inl (WD 29))), (ma 39, .inl (y 3, 5, .inl (WD 30))), (ma 50, .inl (y 0, 3200, .inl g50)), (ma 52, .inl (y 0, 1700, .inl zw)), (ma 40, .inl (y 3, 3, .inl (WD 31))), MB mo ma (nI t1) (nI u728) (nI t3) ez 0 pz i7 i8 i42 i49 (nI cd) (nI zn) (nI oz) (nI bs) i61 i64 i66 (nI t67) i76 i78, (ma 0, .inl (y 0, 1600, .inl (tby tx))), (ma 41, .inl (y 3, 3, .inl (WD 32)))]) rfl ?_
            obtain ⟨xh729, xh730, xh731, xh732, xh733⟩ := hr727
            rcases xh733 with ⟨rfl, xh734⟩ | ⟨rfl, xh735, xh736⟩
            · refine j_if_eqT (pc := 66) C (tgt := 141) d_Model_onePart_66 (by decide) (by decide) ?_
              refine j_iconst (pc := 141) C (v := 0) d_Model_onePart_141 (by decide) ?_
              refine j_istore_n (pc := 142) C (lv' := [(1, .int 0), (2, .int (nI (tx u518))), (0, .ref mo)]) d_Model_onePart_142 rfl (by decide) rfl ?_
              refine j_goto (pc := 143) C (tgt := 2) d_Model_onePart_143 (by decide) ?_
              refine j_sub (ws' := [MB mo ma (nI t1) (nI u728) (nI t3) ez 0 pz i7 i8 i42 i49 (nI cd) (nI zn) (nI oz) (nI bs) i61 i64 i66 (nI t67) i76 i78, (ma 0, .inl (y 0, 1600, .inl (tby tx))), (ma 37, .inl (y 3, 3, .inl (WD 28))), (ma 38, .inl (y 3, 5, .inl (WD 29))), (ma 39, .inl (y 3, 5, .inl (WD 30))), (ma 40, .inl (y 3, 3, .inl (WD 31))), (ma 41, .inl (y 3, 3, .inl (WD 32))), (ma 50, .inl (y 0, 3200, .inl g50)), (ma 52, .inl (y 0, 1700, .inl zw))]) [6, 7, 0, 1, 2, 5, 8, 3, 4] rfl (by decide +kernel) ?_
              refine j_locs (lv' := [(1, .int 0), (0, .ref mo)]) [0, 2] rfl ?_
              have hz1 := bz_e c511
              have hz0 := bz_1
              exact ih456 (0, u728, 0, zw, zn, ez, pz, oz, gz, sz) ⟨(show 0 ≤ 1 by omega), xh730, (show t2 ≤ u728 by omega), (show RS kq s0 f0 xx 0 g50 zw cd zn u728 from (rs_at xh512 (by omega))), hT_, hS_, hb_, (show RR tx t3 gz u728 ez 0 pz from xh732), (fun _ => ⟨xh514, xh515, xh516⟩), ho_, (fun e => absurd rfl e), (fun _ _ => ⟨(sg_no2 xh521 (show ¬ tx u518 = 40 by omega)), xh724, xh734⟩), hF_⟩ (show 2 * (t3 - u728) + bz1 0 + 0 < 2 * (t3 - az) + bz1 bz + mz by omega)
            · refine j_if_eqF (pc := 66) C (tgt := 141) d_Model_onePart_66 (by decide) (by decide) ?_
              have xh737 : (advS tx t3 gz).1 = 0 := adv_ok ((rr_z xh732).mp rfl)
              refine j_aload_n (pc := 69) C d_Model_onePart_69 rfl 2 rfl ?_
              refine j_aload_n (pc := 70) C d_Model_onePart_70 rfl 2 rfl ?_
              refine j_get (pc := 71) C gf_Model_111 6 rfl rfl d_Model_onePart_71 ?_
              refine j_callVi (pc := 74) C (c_M_takes_3 l D y mo (ma 40) ma t1 u728 t3 ez 0 pz i7 i8 i42 i49 (nI cd) (nI zn) (nI oz) (nI bs) i61 i64 i66 t67 i76 i78 tx 31 gz xh730 he hB xh732 (by omega) (by decide)) kw_Model_228 kv_Model_takes 0 10 rfl rfl ⟨by decide, by decide⟩ ⟨by decide, by decide⟩ (wr := [(ma 37, .inl (y 3, 3, .inl (WD 28))), (ma 38, .inl (y 3, 5, .inl (WD 29))), (ma 39, .inl (y 3, 5, .inl (WD 30))), (ma 50, .inl (y 0, 3200, .inl g50)), (ma 52, .inl (y 0, 1700, .inl zw)), (ma 41, .inl (y 3, 3, .inl (WD 32)))]) [6, 7, 5] [0, 1, 2, 3, 4, 8] rfl rfl (by decide +kernel) (by decide +kernel) (by decide +kernel) (As := [.ref (ma 40)]) (rest := []) rfl (nb rfl) rfl d_Model_onePart_74 (fun r738 u739 hr738 => ?_)
              refine j_ws (ws' := [(ma 37, .inl (y 3, 3, .inl (WD 28))), (ma 38, .inl (y 3, 5, .inl (WD 29))), (ma 39, .inl (y 3, 5, .inl (WD 30))), (ma 50, .inl (y 0, 3200, .inl g50)), (ma 52, .inl (y 0, 1700, .inl zw)), (ma 41, .inl (y 3, 3, .inl (WD 32))), MB mo ma (nI t1) (nI u739.1) (nI t3) u739.2 0 pz i7 i8 i42 i49 (nI cd) (nI zn) (nI oz) (nI bs) i61 i64 i66 (nI t67) i76 i78, (ma 0, .inl (y 0, 1600, .inl (tby tx))), (ma 40, .inl (y 3, 3, .inl (WD 31)))]) rfl ?_
              obtain ⟨xh740, xh741, xh742⟩ := hr738
              rcases xh742 with ⟨rfl, xh743, xh744, xh745⟩ | ⟨rfl, xh746, xh747, xh748⟩
              · refine j_istore_n (pc := 77) C (lv' := [(3, .int 0), (2, .int (nI (tx u518))), (1, .int (nI mz)), (0, .ref mo)]) d_Model_onePart_77 rfl (by decide) rfl ?_
                refine j_iload_n (pc := 78) C d_Model_onePart_78 rfl 0 rfl ?_
                refine j_if_neF (pc := 79) C (tgt := 90) d_Model_onePart_79 (by decide) (by decide) ?_
                refine j_aload_n (pc := 82) C d_Model_onePart_82 rfl 3 rfl ?_
                refine j_aload_n (pc := 83) C d_Model_onePart_83 rfl 3 rfl ?_
                refine j_get (pc := 84) C gf_Model_114 6 rfl rfl d_Model_onePart_84 ?_
                refine j_callVv (pc := 87) C (c_M_asks_3 l D y mo (ma 41) ma t1 u739.1 t3 u739.2 0 pz i7 i8 i42 i49 (nI cd) (nI zn) (nI oz) (nI bs) i61 i64 i66 t67 i76 i78 tx 32 gz xh741 he hB xh743 (by omega) (by decide)) kw_Model_263 kv_Model_asks 0 10 rfl rfl ⟨by decide, by decide⟩ ⟨by decide, by decide⟩ (wr := [(ma 37, .inl (y 3, 3, .inl (WD 28))), (ma 38, .inl (y 3, 5, .inl (WD 29))), (ma 39, .inl (y 3, 5, .inl (WD 30))), (ma 50, .inl (y 0, 3200, .inl g50)), (ma 52, .inl (y 0, 1700, .inl zw)), (ma 40, .inl (y 3, 3, .inl (WD 31)))]) [6, 7, 5] [0, 1, 2, 3, 4, 8] rfl rfl (by decide +kernel) (by decide +kernel) (by decide +kernel) (As := [.ref (ma 41)]) (rest := []) rfl (nb rfl) rfl d_Model_onePart_87 (fun u749 hu750 => ?_)
                obtain ⟨xh751, xh752, xh753, xh754⟩ := hu750
                refine j_ws (ws' := [(ma 37, .inl (y 3, 3, .inl (WD 28))), (ma 38, .inl (y 3, 5, .inl (WD 29))), (ma 39, .inl (y 3, 5, .inl (WD 30))), (ma 50, .inl (y 0, 3200, .inl g50)), (ma 52, .inl (y 0, 1700, .inl zw)), (ma 40, .inl (y 3, 3, .inl (WD 31))), MB mo ma (nI t1) (nI u749.1) (nI t3) u749.2.1 u749.2.2.1 u749.2.2.2 i7 i8 i42 i49 (nI cd) (nI zn) (nI oz) (nI bs) i61 i64 i66 (nI t67) i76 i78, (ma 0, .inl (y 0, 1600, .inl (tby tx))), (ma 41, .inl (y 3, 3, .inl (WD 32)))]) rfl ?_
                have xh755 : RR tx t3 (advS tx t3 gz) u749.1 u749.2.1 u749.2.2.1 u749.2.2.2 := (rr_of xh754 (if_pos xh735).symm)
                have xh756 : u749.2.2.1 = 0 := (rr_z xh755).mpr xh737
                have hp757 := (xh753 xh756).2
                have xh758 : RS kq s0 f0 xx u749.2.2.1 g50 zw cd zn az := rs_mono xh512 (fun _ => rfl)
                refine j_ws (ws' := [(ma 37, .inl (y 3, 3, .inl (WD 28))), (ma 38, .inl (y 3, 5, .inl (WD 29))), (ma 39, .inl (y 3, 5, .inl (WD 30))), (ma 50, .inl (y 0, 3200, .inl g50)), (ma 52, .inl (y 0, 1700, .inl zw)), (ma 40, .inl (y 3, 3, .inl (WD 31))), MB mo ma (nI t1) (nI u749.1) (nI t3) u749.2.1 0 u749.2.2.2 i7 i8 i42 i49 (nI cd) (nI zn) (nI oz) (nI bs) i61 i64 i66 (nI t67) i76 i78, (ma 0, .inl (y 0, 1600, .inl (tby tx))), (ma 41, .inl (y 3, 3, .inl (WD 32)))]) (by rw [xh756]) ?_
                have xh759 : RR tx t3 (advS tx t3 gz) u749.1 u749.2.1 0 u749.2.2.2 := by have hq := xh755; rw [xh756] at hq; exact hq
                refine j_aload_n (pc := 90) C d_Model_onePart_90 rfl 3 rfl ?_
                refine j_callVi (pc := 91) C (c_M_look l D y mo ma t1 u749.1 t3 u749.2.1 0 u749.2.2.2 i7 i8 i42 i49 (nI cd) (nI zn) (nI oz) (nI bs) i61 i64 i66 t67 i76 i78 tx (advS tx t3 gz) xh752 he hB xh759 rfl) kw_Model_213 kv_Model_look 0 10 rfl rfl ⟨by decide, by decide⟩ ⟨by decide, by decide⟩ (wr := [(ma 37, .inl (y 3, 3, .inl (WD 28))), (ma 38, .inl (y 3, 5, .inl (WD 29))), (ma 39, .inl (y 3, 5, .inl (WD 30))), (ma 50, .inl (y 0, 3200, .inl g50)), (ma 52, .inl (y 0, 1700, .inl zw)), (ma 40, .inl (y 3, 3, .inl (WD 31))), (ma 41, .inl (y 3, 3, .inl (WD 32)))]) [6, 7] [0, 1, 2, 3, 4, 5, 8] rfl rfl (by decide +kernel) (by decide +kernel) (by decide +kernel) (As := []) (rest := []) rfl (nb rfl) rfl d_Model_onePart_91 (fun r760 u761 hr760 => ?_)
                refine j_ws (ws' := [(ma 37, .inl (y 3, 3, .inl (WD 28))), (ma 38, .inl (y 3, 5, .inl (WD 29))), (ma 39, .inl (y 3, 5, .inl (WD 30))), (ma 50, .inl (y 0, 3200, .inl g50)), (ma 52, .inl (y 0, 1700, .inl zw)), (ma 40, .inl (y 3, 3, .inl (WD 31))), (ma 41, .inl (y 3, 3, .inl (WD 32))), MB mo ma (nI t1) (nI u761) (nI t3) u749.2.1 0 u749.2.2.2 i7 i8 i42 i49 (nI cd) (nI zn) (nI oz) (nI bs) i61 i64 i66 (nI t67) i76 i78, (ma 0, .inl (y 0, 1600, .inl (tby tx)))]) rfl ?_
                obtain ⟨xh762, xh763, xh764, xh765, xh766⟩ := hr760
                rcases xh766 with ⟨rfl, xh767⟩ | ⟨rfl, xh768⟩
                · refine j_bipush (pc := 94) C (v := 40) d_Model_onePart_94 (by decide) ?_
                  refine j_icmp_neT (pc := 96) C (tgt := 106) d_Model_onePart_96 (by decide) (by decide) ?_
                  refine j_iconst (pc := 106) C (v := (-1)) d_Model_onePart_106 (by decide) ?_
                  refine j_istore (pc := 107) C (lv' := [(4, .int (-1)), (3, .int 0), (2, .int (nI (tx u518))), (1, .int (nI mz)), (0, .ref mo)]) d_Model_onePart_107 (by decide) rfl ?_
                  refine j_iload (pc := 109) C d_Model_onePart_109 0 rfl ?_
                  refine j_iconst (pc := 111) C (v := (-1)) d_Model_onePart_111 (by decide) ?_
                  refine j_icmp_eqT (pc := 112) C (tgt := 132) d_Model_onePart_112 (by decide) (by decide) ?_
                  have xh769 : ¬ issS tx t3 40 (advS tx t3 gz) = true := (sg_no1 ((rr_z xh765).mp rfl) xh764 xh767)
                  refine j_aload_n (pc := 132) C d_Model_onePart_132 rfl 4 rfl ?_
                  refine j_bipush (pc := 133) C (v := 40) d_Model_onePart_133 (by decide) ?_
                  refine j_callVv (pc := 135) C (c_M_asksSign l D y mo ma t1 u761 t3 u749.2.1 0 u749.2.2.2 i7 i8 i42 i49 (nI cd) (nI zn) (nI oz) (nI bs) i61 i64 i66 t67 i76 i78 tx 40 (advS tx t3 gz) xh763 he hB xh765 (by omega) (by decide)) kw_Model_271 kv_Model_asksSign 0 10 rfl rfl ⟨by decide, by decide⟩ ⟨by decide, by decide⟩ (wr := [(ma 37, .inl (y 3, 3, .inl (WD 28))), (ma 38, .inl (y 3, 5, .inl (WD 29))), (ma 39, .inl (y 3, 5, .inl (WD 30))), (ma 50, .inl (y 0, 3200, .inl g50)), (ma 52, .inl (y 0, 1700, .inl zw)), (ma 40, .inl (y 3, 3, .inl (WD 31))), (ma 41, .inl (y 3, 3, .inl (WD 32)))]) [7, 8] [0, 1, 2, 3, 4, 5, 6] rfl rfl (by decide +kernel) (by decide +kernel) (by decide +kernel) (As := [.int 40]) (rest := []) rfl (nb rfl) rfl d_Model_onePart_135 (fun u770 hu771 => ?_)
                  obtain ⟨xh772, xh773, xh774, xh775⟩ := hu771
                  refine j_ws (ws' := [(ma 37, .inl (y 3, 3, .inl (WD 28))), (ma 38, .inl (y 3, 5, .inl (WD 29))), (ma 39, .inl (y 3, 5, .inl (WD 30))), (ma 50, .inl (y 0, 3200, .inl g50)), (ma 52, .inl (y 0, 1700, .inl zw)), (ma 40, .inl (y 3, 3, .inl (WD 31))), (ma 41, .inl (y 3, 3, .inl (WD 32))), MB mo ma (nI t1) (nI u770.1) (nI t3) u749.2.1 u770.2.1 u770.2.2 i7 i8 i42 i49 (nI cd) (nI zn) (nI oz) (nI bs) i61 i64 i66 (nI t67) i76 i78, (ma 0, .inl (y 0, 1600, .inl (tby tx)))]) rfl ?_
                  have xh776 : RR tx t3 (failS 1 (stS tx t3 (advS tx t3 gz)) (advS tx t3 gz)) u770.1 u749.2.1 u770.2.1 u770.2.2 := (rr_of xh775 (if_neg xh769).symm)
                  have xh777 : ¬ u770.2.1 = 0 := fun e => (fail_nz (by decide)) ((rr_z xh776).mp e)
                  have xh778 : Rch tx t3 (0, (gs, cs, sk, oo)) (2, ((failS 1 (stS tx t3 (advS tx t3 gz)) (advS tx t3 gz)), cs, sz, oz)) := xh514.tr (Rch.st ((stP _ _ _ _).trans ((sP_mm (Or.inr xh735)).trans (if_neg xh769))) (Rch.rf _))
                  refine j_goto (pc := 138) C (tgt := 143) d_Model_onePart_138 (by decide) ?_
                  refine j_goto (pc := 143) C (tgt := 2) d_Model_onePart_143 (by decide) ?_
                  refine j_sub (ws' := [MB mo ma (nI t1) (nI u770.1) (nI t3) u749.2.1 u770.2.1 u770.2.2 i7 i8 i42 i49 (nI cd) (nI zn) (nI oz) (nI bs) i61 i64 i66 (nI t67) i76 i78, (ma 0, .inl (y 0, 1600, .inl (tby tx))), (ma 37, .inl (y 3, 3, .inl (WD 28))), (ma 38, .inl (y 3, 5, .inl (WD 29))), (ma 39, .inl (y 3, 5, .inl (WD 30))), (ma 40, .inl (y 3, 3, .inl (WD 31))), (ma 41, .inl (y 3, 3, .inl (WD 32))), (ma 50, .inl (y 0, 3200, .inl g50)), (ma 52, .inl (y 0, 1700, .inl zw))]) [7, 8, 0, 1, 2, 5, 6, 3, 4] rfl (by decide +kernel) ?_
                  refine j_locs (lv' := [(1, .int (nI mz)), (0, .ref mo)]) [3, 4] rfl ?_
                  have hz1 := bz_e c511
                  have hz0 := bz_le u770.2.1
                  have hz2 : bz1 u770.2.1 = 0 ∨ az + 1 ≤ u770.1 := Or.inl (bz_0 xh777)
                  have xh779 : RS kq s0 f0 xx u770.2.1 g50 zw cd zn az := rs_bad xh758 xh777
                  exact ih456 (mz, u770.1, u770.2.1, zw, zn, u749.2.1, u770.2.2, oz, (failS 1 (stS tx t3 (advS tx t3 gz)) (advS tx t3 gz)), sz) ⟨hmz_, xh773, (show t2 ≤ u770.1 by omega), (show RS kq s0 f0 xx u770.2.1 g50 zw cd zn u770.1 from (rs_at xh779 (by omega))), hT_, hS_, hb_, (show RR tx t3 (failS 1 (stS tx t3 (advS tx t3 gz)) (advS tx t3 gz)) u770.1 u749.2.1 u770.2.1 u770.2.2 from xh776), (fun e => absurd e xh777), ho_, (fun _ => ⟨_, _, _, xh778⟩), (fun e => absurd (show mz = 0 from e) (by omega)), hF_⟩ (show 2 * (t3 - u770.1) + bz1 u770.2.1 + mz < 2 * (t3 - az) + bz1 bz + mz by omega)
                · have hb780 : tx u761 < 256 := hB u761
                  refine j_bipush (pc := 94) C (v := 40) d_Model_onePart_94 (by decide) ?_
                  by_cases c781 : ¬ (tx u761) = 40
                  · refine j_icmp_neT (pc := 96) C (tgt := 106) d_Model_onePart_96 (by decide) (show ¬ nI (tx u761) = nI 40 from fun e => absurd ((nI_eq (by omega) (by omega)).mp e) (by omega)) ?_
                    refine j_iconst (pc := 106) C (v := (-1)) d_Model_onePart_106 (by decide) ?_
                    refine j_istore (pc := 107) C (lv' := [(4, .int (-1)), (3, .int 0), (2, .int (nI (tx u518))), (1, .int (nI mz)), (0, .ref mo)]) d_Model_onePart_107 (by decide) rfl ?_
                    refine j_iload (pc := 109) C d_Model_onePart_109 0 rfl ?_
                    refine j_iconst (pc := 111) C (v := (-1)) d_Model_onePart_111 (by decide) ?_
                    refine j_icmp_eqT (pc := 112) C (tgt := 132) d_Model_onePart_112 (by decide) (by decide) ?_
                    have xh782 : ¬ issS tx t3 40 (advS tx t3 gz) = true := (sg_no2 xh764 (show ¬ tx u761 = 40 by omega))
                    refine j_aload_n (pc := 132) C d_Model_onePart_132 rfl 4 rfl ?_
                    refine j_bipush (pc := 133) C (v := 40) d_Model_onePart_133 (by decide) ?_
                    refine j_callVv (pc := 135) C (c_M_asksSign l D y mo ma t1 u761 t3 u749.2.1 0 u749.2.2.2 i7 i8 i42 i49 (nI cd) (nI zn) (nI oz) (nI bs) i61 i64 i66 t67 i76 i78 tx 40 (advS tx t3 gz) xh763 he hB xh765 (by omega) (by decide)) kw_Model_271 kv_Model_asksSign 0 10 rfl rfl ⟨by decide, by decide⟩ ⟨by decide, by decide⟩ (wr := [(ma 37, .inl (y 3, 3, .inl (WD 28))), (ma 38, .inl (y 3, 5, .inl (WD 29))), (ma 39, .inl (y 3, 5, .inl (WD 30))), (ma 50, .inl (y 0, 3200, .inl g50)), (ma 52, .inl (y 0, 1700, .inl zw)), (ma 40, .inl (y 3, 3, .inl (WD 31))), (ma 41, .inl (y 3, 3, .inl (WD 32)))]) [7, 8] [0, 1, 2, 3, 4, 5, 6] rfl rfl (by decide +kernel) (by decide +kernel) (by decide +kernel) (As := [.int 40]) (rest := []) rfl (nb rfl) rfl d_Model_onePart_135 (fun u783 hu784 => ?_)
                    obtain ⟨xh785, xh786, xh787, xh788⟩ := hu784
                    refine j_ws (ws' := [(ma 37, .inl (y 3, 3, .inl (WD 28))), (ma 38, .inl (y 3, 5, .inl (WD 29))), (ma 39, .inl (y 3, 5, .inl (WD 30))), (ma 50, .inl (y 0, 3200, .inl g50)), (ma 52, .inl (y 0, 1700, .inl zw)), (ma 40, .inl (y 3, 3, .inl (WD 31))), (ma 41, .inl (y 3, 3, .inl (WD 32))), MB mo ma (nI t1) (nI u783.1) (nI t3) u749.2.1 u783.2.1 u783.2.2 i7 i8 i42 i49 (nI cd) (nI zn) (nI oz) (nI bs) i61 i64 i66 (nI t67) i76 i78, (ma 0, .inl (y 0, 1600, .inl (tby tx)))]) rfl ?_
                    have xh789 : RR tx t3 (failS 1 (stS tx t3 (advS tx t3 gz)) (advS tx t3 gz)) u783.1 u749.2.1 u783.2.1 u783.2.2 := (rr_of xh788 (if_neg xh782).symm)
                    have xh790 : ¬ u783.2.1 = 0 := fun e => (fail_nz (by decide)) ((rr_z xh789).mp e)
                    have xh791 : Rch tx t3 (0, (gs, cs, sk, oo)) (2, ((failS 1 (stS tx t3 (advS tx t3 gz)) (advS tx t3 gz)), cs, sz, oz)) := xh514.tr (Rch.st ((stP _ _ _ _).trans ((sP_mm (Or.inr xh735)).trans (if_neg xh782))) (Rch.rf _))
                    refine j_goto (pc := 138) C (tgt := 143) d_Model_onePart_138 (by decide) ?_
                    refine j_goto (pc := 143) C (tgt := 2) d_Model_onePart_143 (by decide) ?_
                    refine j_sub (ws' := [MB mo ma (nI t1) (nI u783.1) (nI t3) u749.2.1 u783.2.1 u783.2.2 i7 i8 i42 i49 (nI cd) (nI zn) (nI oz) (nI bs) i61 i64 i66 (nI t67) i76 i78, (ma 0, .inl (y 0, 1600, .inl (tby tx))), (ma 37, .inl (y 3, 3, .inl (WD 28))), (ma 38, .inl (y 3, 5, .inl (WD 29))), (ma 39, .inl (y 3, 5, .inl (WD 30))), (ma 40, .inl (y 3, 3, .inl (WD 31))), (ma 41, .inl (y 3, 3, .inl (WD 32))), (ma 50, .inl (y 0, 3200, .inl g50)), (ma 52, .inl (y 0, 1700, .inl zw))]) [7, 8, 0, 1, 2, 5, 6, 3, 4] rfl (by decide +kernel) ?_
                    refine j_locs (lv' := [(1, .int (nI mz)), (0, .ref mo)]) [3, 4] rfl ?_
                    have hz1 := bz_e c511
                    have hz0 := bz_le u783.2.1
                    have hz2 : bz1 u783.2.1 = 0 ∨ az + 1 ≤ u783.1 := Or.inl (bz_0 xh790)
                    have xh792 : RS kq s0 f0 xx u783.2.1 g50 zw cd zn az := rs_bad xh758 xh790
                    exact ih456 (mz, u783.1, u783.2.1, zw, zn, u749.2.1, u783.2.2, oz, (failS 1 (stS tx t3 (advS tx t3 gz)) (advS tx t3 gz)), sz) ⟨hmz_, xh786, (show t2 ≤ u783.1 by omega), (show RS kq s0 f0 xx u783.2.1 g50 zw cd zn u783.1 from (rs_at xh792 (by omega))), hT_, hS_, hb_, (show RR tx t3 (failS 1 (stS tx t3 (advS tx t3 gz)) (advS tx t3 gz)) u783.1 u749.2.1 u783.2.1 u783.2.2 from xh789), (fun e => absurd e xh790), ho_, (fun _ => ⟨_, _, _, xh791⟩), (fun e => absurd (show mz = 0 from e) (by omega)), hF_⟩ (show 2 * (t3 - u783.1) + bz1 u783.2.1 + mz < 2 * (t3 - az) + bz1 bz + mz by omega)
                  · refine j_icmp_neF (pc := 96) C (tgt := 106) d_Model_onePart_96 (by decide) (show nI (tx u761) = nI 40 from (nI_eq (by omega) (by omega)).mpr (by omega)) ?_
                    refine j_aload_n (pc := 99) C d_Model_onePart_99 rfl 3 rfl ?_
                    refine j_get (pc := 100) C gf_Model_207 7 rfl rfl d_Model_onePart_100 ?_
                    refine j_goto (pc := 103) C (tgt := 107) d_Model_onePart_103 (by decide) ?_
                    refine j_istore (pc := 107) C (lv' := [(4, .int (nI u761)), (3, .int 0), (2, .int (nI (tx u518))), (1, .int (nI mz)), (0, .ref mo)]) d_Model_onePart_107 (by decide) rfl ?_
                    refine j_iload (pc := 109) C d_Model_onePart_109 0 rfl ?_
                    refine j_iconst (pc := 111) C (v := (-1)) d_Model_onePart_111 (by decide) ?_
                    refine j_icmp_eqF (pc := 112) C (tgt := 132) d_Model_onePart_112 (by decide) (nI_nm1 (by omega)) ?_
                    refine j_aload_n (pc := 115) C d_Model_onePart_115 rfl 4 rfl ?_
                    refine j_iload_n (pc := 116) C d_Model_onePart_116 rfl 1 rfl ?_
                    refine j_if_eqT (pc := 117) C (tgt := 125) d_Model_onePart_117 (by decide) (by decide) ?_
                    refine j_bipush (pc := 125) C (v := 22) d_Model_onePart_125 (by decide) ?_
                    refine j_iload (pc := 127) C d_Model_onePart_127 0 rfl ?_
                    have xh793 : issS tx t3 40 (advS tx t3 gz) = true := (sg_yes ((rr_z xh765).mp rfl) xh764 xh768 (show tx u761 = 40 by omega) (by decide)).1
                    by_cases c794 : oz = 6
                    · refine j_callVv (pc := 129) C (c_M_opens_N l D y mo ma t1 u761 t3 u749.2.1 0 u749.2.2.2 i7 i8 i42 i49 (nI cd) zn oz (nI bs) i61 i64 i66 t67 i76 i78 zw 22 u761 (advS tx t3 gz) tx (by omega) ((rr_z xh765).mp rfl) (by omega) rfl) kw_Model_353 kv_Model_opens 0 10 rfl rfl ⟨by decide, by decide⟩ ⟨by decide, by decide⟩ (wr := [(ma 37, .inl (y 3, 3, .inl (WD 28))), (ma 38, .inl (y 3, 5, .inl (WD 29))), (ma 39, .inl (y 3, 5, .inl (WD 30))), (ma 50, .inl (y 0, 3200, .inl g50)), (ma 40, .inl (y 3, 3, .inl (WD 31))), (ma 41, .inl (y 3, 3, .inl (WD 32))), (ma 0, .inl (y 0, 1600, .inl (tby tx)))]) [7, 4] [0, 1, 2, 3, 5, 6, 8] rfl rfl (by decide +kernel) (by decide +kernel) (by decide +kernel) (As := [.int 22, .int (nI u761)]) (rest := []) rfl (nb rfl) rfl d_Model_onePart_129 (fun u795 hu796 => ?_)
                      obtain ⟨xh797, xh798⟩ := hu796
                      refine j_ws (ws' := [(ma 37, .inl (y 3, 3, .inl (WD 28))), (ma 38, .inl (y 3, 5, .inl (WD 29))), (ma 39, .inl (y 3, 5, .inl (WD 30))), (ma 50, .inl (y 0, 3200, .inl g50)), (ma 40, .inl (y 3, 3, .inl (WD 31))), (ma 41, .inl (y 3, 3, .inl (WD 32))), (ma 0, .inl (y 0, 1600, .inl (tby tx))), MB mo ma (nI t1) (nI u761) (nI t3) u749.2.1 u795.1 u795.2 i7 i8 i42 i49 (nI cd) (nI zn) (nI oz) (nI bs) i61 i64 i66 (nI t67) i76 i78, (ma 52, .inl (y 0, 1700, .inl zw))]) rfl ?_
                      have xh799 : RS kq s0 f0 xx u795.1 g50 zw cd zn u761 := rs_bad (rs_at xh512 (show az ≤ u761 by omega)) xh797
                      refine j_aload_n (pc := 132) C d_Model_onePart_132 rfl 4 rfl ?_
                      refine j_bipush (pc := 133) C (v := 40) d_Model_onePart_133 (by decide) ?_
                      refine j_callVv (pc := 135) C (c_M_asksSign l D y mo ma t1 u761 t3 u749.2.1 u795.1 u795.2 i7 i8 i42 i49 (nI cd) (nI zn) (nI oz) (nI bs) i61 i64 i66 t67 i76 i78 tx 40 (failS 4 u761 (advS tx t3 gz)) xh763 he hB xh798 (by omega) (by decide)) kw_Model_271 kv_Model_asksSign 0 10 rfl rfl ⟨by decide, by decide⟩ ⟨by decide, by decide⟩ (wr := [(ma 37, .inl (y 3, 3, .inl (WD 28))), (ma 38, .inl (y 3, 5, .inl (WD 29))), (ma 39, .inl (y 3, 5, .inl (WD 30))), (ma 50, .inl (y 0, 3200, .inl g50)), (ma 40, .inl (y 3, 3, .inl (WD 31))), (ma 41, .inl (y 3, 3, .inl (WD 32))), (ma 52, .inl (y 0, 1700, .inl zw))]) [7, 6] [0, 1, 2, 3, 4, 5, 8] rfl rfl (by decide +kernel) (by decide +kernel) (by decide +kernel) (As := [.int 40]) (rest := []) rfl (nb rfl) rfl d_Model_onePart_135 (fun u800 hu801 => ?_)
                      obtain ⟨xh802, xh803, xh804, xh805⟩ := hu801
                      refine j_ws (ws' := [(ma 37, .inl (y 3, 3, .inl (WD 28))), (ma 38, .inl (y 3, 5, .inl (WD 29))), (ma 39, .inl (y 3, 5, .inl (WD 30))), (ma 50, .inl (y 0, 3200, .inl g50)), (ma 40, .inl (y 3, 3, .inl (WD 31))), (ma 41, .inl (y 3, 3, .inl (WD 32))), (ma 52, .inl (y 0, 1700, .inl zw)), MB mo ma (nI t1) (nI u800.1) (nI t3) u749.2.1 u800.2.1 u800.2.2 i7 i8 i42 i49 (nI cd) (nI zn) (nI oz) (nI bs) i61 i64 i66 (nI t67) i76 i78, (ma 0, .inl (y 0, 1600, .inl (tby tx)))]) rfl ?_
                      have xh806 : RR tx t3 (failS 4 (stS tx t3 (advS tx t3 gz)) (advS tx t3 gz)) u800.1 u749.2.1 u800.2.1 u800.2.2 := (rr_of xh805 ((rs_d (fail_nz (by decide))).trans (by rw [← xh764])).symm)
                      have xh807 : ¬ u800.2.1 = 0 := fun e => (fail_nz (by decide)) ((rr_z xh806).mp e)
                      have xh808 : Rch tx t3 (0, (gs, cs, sk, oo)) (2, ((failS 4 (stS tx t3 (advS tx t3 gz)) (advS tx t3 gz)), cs, sz, oz)) := xh514.tr (Rch.st ((stP _ _ _ _).trans ((sP_mm (Or.inr xh735)).trans ((if_pos xh793).trans (if_pos c794)))) (Rch.rf _))
                      refine j_goto (pc := 138) C (tgt := 143) d_Model_onePart_138 (by decide) ?_
                      refine j_goto (pc := 143) C (tgt := 2) d_Model_onePart_143 (by decide) ?_
                      refine j_sub (ws' := [MB mo ma (nI t1) (nI u800.1) (nI t3) u749.2.1 u800.2.1 u800.2.2 i7 i8 i42 i49 (nI cd) (nI zn) (nI oz) (nI bs) i61 i64 i66 (nI t67) i76 i78, (ma 0, .inl (y 0, 1600, .inl (tby tx))), (ma 37, .inl (y 3, 3, .inl (WD 28))), (ma 38, .inl (y 3, 5, .inl (WD 29))), (ma 39, .inl (y 3, 5, .inl (WD 30))), (ma 40, .inl (y 3, 3, .inl (WD 31))), (ma 41, .inl (y 3, 3, .inl (WD 32))), (ma 50, .inl (y 0, 3200, .inl g50)), (ma 52, .inl (y 0, 1700, .inl zw))]) [7, 8, 0, 1, 2, 4, 5, 3, 6] rfl (by decide +kernel) ?_
                      refine j_locs (lv' := [(1, .int (nI mz)), (0, .ref mo)]) [3, 4] rfl ?_
                      have hz1 := bz_e c511
                      have hz0 := bz_le u800.2.1
                      have hz2 : bz1 u800.2.1 = 0 ∨ az + 1 ≤ u800.1 := Or.inl (bz_0 xh807)
                      have xh809 : RS kq s0 f0 xx u800.2.1 g50 zw cd zn u761 := rs_bad xh799 xh807
                      exact ih456 (mz, u800.1, u800.2.1, zw, zn, u749.2.1, u800.2.2, oz, (failS 4 (stS tx t3 (advS tx t3 gz)) (advS tx t3 gz)), sz) ⟨hmz_, xh803, (show t2 ≤ u800.1 by omega), (show RS kq s0 f0 xx u800.2.1 g50 zw cd zn u800.1 from (rs_at xh809 (by omega))), hT_, hS_, hb_, (show RR tx t3 (failS 4 (stS tx t3 (advS tx t3 gz)) (advS tx t3 gz)) u800.1 u749.2.1 u800.2.1 u800.2.2 from xh806), (fun e => absurd e xh807), ho_, (fun _ => ⟨_, _, _, xh808⟩), (fun e => absurd (show mz = 0 from e) (by omega)), hF_⟩ (show 2 * (t3 - u800.1) + bz1 u800.2.1 + mz < 2 * (t3 - az) + bz1 bz + mz by omega)
                    · refine j_callVv (pc := 129) C (c_M_opens_Y l D y mo ma t1 u761 t3 u749.2.1 0 u749.2.2.2 i7 i8 i42 i49 cd zn oz (nI bs) i61 i64 i66 t67 i76 i78 zw 22 (nI u761) (by omega) (by omega) (by omega)) kw_Model_353 kv_Model_opens 0 10 rfl rfl ⟨by decide, by decide⟩ ⟨by decide, by decide⟩ (wr := [(ma 37, .inl (y 3, 3, .inl (WD 28))), (ma 38, .inl (y 3, 5, .inl (WD 29))), (ma 39, .inl (y 3, 5, .inl (WD 30))), (ma 50, .inl (y 0, 3200, .inl g50)), (ma 40, .inl (y 3, 3, .inl (WD 31))), (ma 41, .inl (y 3, 3, .inl (WD 32))), (ma 0, .inl (y 0, 1600, .inl (tby tx)))]) [7, 4] [0, 1, 2, 3, 5, 6, 8] rfl rfl (by decide +kernel) (by decide +kernel) (by decide +kernel) (As := [.int 22, .int (nI u761)]) (rest := []) rfl (nb rfl) rfl d_Model_onePart_129 (fun _ _ => ?_)
                      refine j_ws (ws' := [(ma 37, .inl (y 3, 3, .inl (WD 28))), (ma 38, .inl (y 3, 5, .inl (WD 29))), (ma 39, .inl (y 3, 5, .inl (WD 30))), (ma 50, .inl (y 0, 3200, .inl g50)), (ma 40, .inl (y 3, 3, .inl (WD 31))), (ma 41, .inl (y 3, 3, .inl (WD 32))), (ma 0, .inl (y 0, 1600, .inl (tby tx))), MB mo ma (nI t1) (nI u761) (nI t3) u749.2.1 0 u749.2.2.2 i7 i8 i42 i49 (nI cd) (nI (zn + 1)) (nI (oz + 1)) (nI bs) i61 i64 i66 (nI t67) i76 i78, (ma 52, .inl (y 0, 1700, .inl (upd zw zn 22)))]) rfl ?_
                      have xh810 : RS kq s0 f0 xx 0 g50 (upd zw zn 22) cd (zn + 1) (u761 + 1) := rs_push (rs_at xh512 (show az ≤ u761 by omega)) (by decide)
                      have xh811 : ITm (upd zw zn 22) bs := (it_up hT_ (by omega))
                      have xh812 : ISm (upd zw zn 22) bs (zn + 1) := (is_up hS_ (by decide))
                      have xh813 : WB (22 :: sz) (upd zw zn 22) bs (zn + 1) := wb_push xh515 (by decide)
                      have xh814 : opn (22 :: sz) ≤ (oz + 1) := opn_push xh516
                      refine j_aload_n (pc := 132) C d_Model_onePart_132 rfl 4 rfl ?_
                      refine j_bipush (pc := 133) C (v := 40) d_Model_onePart_133 (by decide) ?_
                      refine j_callVv (pc := 135) C (c_M_asksSign l D y mo ma t1 u761 t3 u749.2.1 0 u749.2.2.2 i7 i8 i42 i49 (nI cd) (nI (zn + 1)) (nI (oz + 1)) (nI bs) i61 i64 i66 t67 i76 i78 tx 40 (advS tx t3 gz) xh763 he hB xh765 (by omega) (by decide)) kw_Model_271 kv_Model_asksSign 0 10 rfl rfl ⟨by decide, by decide⟩ ⟨by decide, by decide⟩ (wr := [(ma 37, .inl (y 3, 3, .inl (WD 28))), (ma 38, .inl (y 3, 5, .inl (WD 29))), (ma 39, .inl (y 3, 5, .inl (WD 30))), (ma 50, .inl (y 0, 3200, .inl g50)), (ma 40, .inl (y 3, 3, .inl (WD 31))), (ma 41, .inl (y 3, 3, .inl (WD 32))), (ma 52, .inl (y 0, 1700, .inl (upd zw zn 22)))]) [7, 6] [0, 1, 2, 3, 4, 5, 8] rfl rfl (by decide +kernel) (by decide +kernel) (by decide +kernel) (As := [.int 40]) (rest := []) rfl (nb rfl) rfl d_Model_onePart_135 (fun u815 hu816 => ?_)
                      obtain ⟨xh817, xh818, xh819, xh820⟩ := hu816
                      refine j_ws (ws' := [(ma 37, .inl (y 3, 3, .inl (WD 28))), (ma 38, .inl (y 3, 5, .inl (WD 29))), (ma 39, .inl (y 3, 5, .inl (WD 30))), (ma 50, .inl (y 0, 3200, .inl g50)), (ma 40, .inl (y 3, 3, .inl (WD 31))), (ma 41, .inl (y 3, 3, .inl (WD 32))), (ma 52, .inl (y 0, 1700, .inl (upd zw zn 22))), MB mo ma (nI t1) (nI u815.1) (nI t3) u749.2.1 u815.2.1 u815.2.2 i7 i8 i42 i49 (nI cd) (nI (zn + 1)) (nI (oz + 1)) (nI bs) i61 i64 i66 (nI t67) i76 i78, (ma 0, .inl (y 0, 1600, .inl (tby tx)))]) rfl ?_
                      have xh821 : RR tx t3 (advS tx t3 (advS tx t3 gz)) u815.1 u749.2.1 u815.2.1 u815.2.2 := (rr_of xh820 (if_pos xh793).symm)
                      have xh822 : u815.2.1 = 0 := (rr_z xh821).mpr (adv_ok xh737)
                      have hp823 := (xh819 xh822).2
                      have xh824 : RS kq s0 f0 xx u815.2.1 g50 (upd zw zn 22) cd (zn + 1) (u761 + 1) := rs_mono xh810 (fun _ => rfl)
                      refine j_ws (ws' := [(ma 37, .inl (y 3, 3, .inl (WD 28))), (ma 38, .inl (y 3, 5, .inl (WD 29))), (ma 39, .inl (y 3, 5, .inl (WD 30))), (ma 50, .inl (y 0, 3200, .inl g50)), (ma 40, .inl (y 3, 3, .inl (WD 31))), (ma 41, .inl (y 3, 3, .inl (WD 32))), (ma 52, .inl (y 0, 1700, .inl (upd zw zn 22))), MB mo ma (nI t1) (nI u815.1) (nI t3) u749.2.1 0 u815.2.2 i7 i8 i42 i49 (nI cd) (nI (zn + 1)) (nI (oz + 1)) (nI bs) i61 i64 i66 (nI t67) i76 i78, (ma 0, .inl (y 0, 1600, .inl (tby tx)))]) (by rw [xh822]) ?_
                      have xh825 : RR tx t3 (advS tx t3 (advS tx t3 gz)) u815.1 u749.2.1 0 u815.2.2 := by have hq := xh821; rw [xh822] at hq; exact hq
                      have xh826 : Rch tx t3 (0, (gs, cs, sk, oo)) (0, ((advS tx t3 (advS tx t3 gz)), cs, (22 :: sz), (oz + 1))) := xh514.tr (Rch.st ((stP _ _ _ _).trans ((sP_mm (Or.inr xh735)).trans ((if_pos xh793).trans ((if_neg c794).trans (by rw [if_neg xh724]))))) (Rch.rf _))
                      refine j_goto (pc := 138) C (tgt := 143) d_Model_onePart_138 (by decide) ?_
                      refine j_goto (pc := 143) C (tgt := 2) d_Model_onePart_143 (by decide) ?_
                      refine j_sub (ws' := [MB mo ma (nI t1) (nI u815.1) (nI t3) u749.2.1 0 u815.2.2 i7 i8 i42 i49 (nI cd) (nI (zn + 1)) (nI (oz + 1)) (nI bs) i61 i64 i66 (nI t67) i76 i78, (ma 0, .inl (y 0, 1600, .inl (tby tx))), (ma 37, .inl (y 3, 3, .inl (WD 28))), (ma 38, .inl (y 3, 5, .inl (WD 29))), (ma 39, .inl (y 3, 5, .inl (WD 30))), (ma 40, .inl (y 3, 3, .inl (WD 31))), (ma 41, .inl (y 3, 3, .inl (WD 32))), (ma 50, .inl (y 0, 3200, .inl g50)), (ma 52, .inl (y 0, 1700, .inl (upd zw zn 22)))]) [7, 8, 0, 1, 2, 4, 5, 3, 6] rfl (by decide +kernel) ?_
                      refine j_locs (lv' := [(1, .int (nI mz)), (0, .ref mo)]) [3, 4] rfl ?_
                      have hz1 := bz_e c511
                      have hz0 := bz_1
                      have hz2 : bz1 0 = 0 ∨ az + 1 ≤ u815.1 := Or.inr (by omega)
                      exact ih456 (mz, u815.1, 0, (upd zw zn 22), (zn + 1), u749.2.1, u815.2.2, (oz + 1), (advS tx t3 (advS tx t3 gz)), (22 :: sz)) ⟨hmz_, xh818, (show t2 ≤ u815.1 by omega), (show RS kq s0 f0 xx 0 g50 (upd zw zn 22) cd (zn + 1) u815.1 from (rs_at xh810 (by omega))), xh811, xh812, (show bs ≤ (zn + 1) by omega), (show RR tx t3 (advS tx t3 (advS tx t3 gz)) u815.1 u749.2.1 0 u815.2.2 from xh825), (fun _ => ⟨xh826, xh813, xh814⟩), (show (oz + 1) ≤ 6 by omega), (fun e => absurd rfl e), (fun e => absurd (show mz = 0 from e) (by omega)), (fun j hj => (pk_un (show j ≠ zn by omega)).trans (hF_ j hj))⟩ (show 2 * (t3 - u815.1) + bz1 0 + mz < 2 * (t3 - az) + bz1 bz + mz by omega)
              · exact absurd xh747 xh724
          · refine j_if_neT (pc := 55) C (tgt := 69) d_Model_onePart_55 (by decide) (by decide) ?_
            have xh827 : (advS tx t3 gz).1 = 0 := adv_ok ((rr_z xh722).mp rfl)
            refine j_aload_n (pc := 69) C d_Model_onePart_69 rfl 2 rfl ?_
            refine j_aload_n (pc := 70) C d_Model_onePart_70 rfl 2 rfl ?_
            refine j_get (pc := 71) C gf_Model_111 6 rfl rfl d_Model_onePart_71 ?_
            refine j_callVi (pc := 74) C (c_M_takes_3 l D y mo (ma 40) ma t1 u718 t3 ez 0 pz i7 i8 i42 i49 (nI cd) (nI zn) (nI oz) (nI bs) i61 i64 i66 t67 i76 i78 tx 31 gz xh720 he hB xh722 (by omega) (by decide)) kw_Model_228 kv_Model_takes 0 10 rfl rfl ⟨by decide, by decide⟩ ⟨by decide, by decide⟩ (wr := [(ma 37, .inl (y 3, 3, .inl (WD 28))), (ma 38, .inl (y 3, 5, .inl (WD 29))), (ma 39, .inl (y 3, 5, .inl (WD 30))), (ma 41, .inl (y 3, 3, .inl (WD 32))), (ma 50, .inl (y 0, 3200, .inl g50)), (ma 52, .inl (y 0, 1700, .inl zw))]) [6, 7, 8] [0, 1, 2, 3, 4, 5] rfl rfl (by decide +kernel) (by decide +kernel) (by decide +kernel) (As := [.ref (ma 40)]) (rest := []) rfl (nb rfl) rfl d_Model_onePart_74 (fun r828 u829 hr828 => ?_)
            refine j_ws (ws' := [(ma 37, .inl (y 3, 3, .inl (WD 28))), (ma 38, .inl (y 3, 5, .inl (WD 29))), (ma 39, .inl (y 3, 5, .inl (WD 30))), (ma 41, .inl (y 3, 3, .inl (WD 32))), (ma 50, .inl (y 0, 3200, .inl g50)), (ma 52, .inl (y 0, 1700, .inl zw)), MB mo ma (nI t1) (nI u829.1) (nI t3) u829.2 0 pz i7 i8 i42 i49 (nI cd) (nI zn) (nI oz) (nI bs) i61 i64 i66 (nI t67) i76 i78, (ma 0, .inl (y 0, 1600, .inl (tby tx))), (ma 40, .inl (y 3, 3, .inl (WD 31)))]) rfl ?_
            obtain ⟨xh830, xh831, xh832⟩ := hr828
            rcases xh832 with ⟨rfl, xh833, xh834, xh835⟩ | ⟨rfl, xh836, xh837, xh838⟩
            · exact absurd xh725 xh834
            · refine j_istore_n (pc := 77) C (lv' := [(3, .int 1), (2, .int (nI (tx u518))), (1, .int (nI mz)), (0, .ref mo)]) d_Model_onePart_77 rfl (by decide) rfl ?_
              refine j_iload_n (pc := 78) C d_Model_onePart_78 rfl 0 rfl ?_
              refine j_if_neT (pc := 79) C (tgt := 90) d_Model_onePart_79 (by decide) (by decide) ?_
              refine j_aload_n (pc := 90) C d_Model_onePart_90 rfl 3 rfl ?_
              refine j_callVi (pc := 91) C (c_M_look l D y mo ma t1 u829.1 t3 u829.2 0 pz i7 i8 i42 i49 (nI cd) (nI zn) (nI oz) (nI bs) i61 i64 i66 t67 i76 i78 tx (advS tx t3 gz) xh831 he hB xh836 rfl) kw_Model_213 kv_Model_look 0 10 rfl rfl ⟨by decide, by decide⟩ ⟨by decide, by decide⟩ (wr := [(ma 37, .inl (y 3, 3, .inl (WD 28))), (ma 38, .inl (y 3, 5, .inl (WD 29))), (ma 39, .inl (y 3, 5, .inl (WD 30))), (ma 41, .inl (y 3, 3, .inl (WD 32))), (ma 50, .inl (y 0, 3200, .inl g50)), (ma 52, .inl (y 0, 1700, .inl zw)), (ma 40, .inl (y 3, 3, .inl (WD 31)))]) [6, 7] [0, 1, 2, 3, 4, 5, 8] rfl rfl (by decide +kernel) (by decide +kernel) (by decide +kernel) (As := []) (rest := []) rfl (nb rfl) rfl d_Model_onePart_91 (fun r839 u840 hr839 => ?_)
              refine j_ws (ws' := [(ma 37, .inl (y 3, 3, .inl (WD 28))), (ma 38, .inl (y 3, 5, .inl (WD 29))), (ma 39, .inl (y 3, 5, .inl (WD 30))), (ma 41, .inl (y 3, 3, .inl (WD 32))), (ma 50, .inl (y 0, 3200, .inl g50)), (ma 52, .inl (y 0, 1700, .inl zw)), (ma 40, .inl (y 3, 3, .inl (WD 31))), MB mo ma (nI t1) (nI u840) (nI t3) u829.2 0 pz i7 i8 i42 i49 (nI cd) (nI zn) (nI oz) (nI bs) i61 i64 i66 (nI t67) i76 i78, (ma 0, .inl (y 0, 1600, .inl (tby tx)))]) rfl ?_
              obtain ⟨xh841, xh842, xh843, xh844, xh845⟩ := hr839
              rcases xh845 with ⟨rfl, xh846⟩ | ⟨rfl, xh847⟩
              · refine j_bipush (pc := 94) C (v := 40) d_Model_onePart_94 (by decide) ?_
                refine j_icmp_neT (pc := 96) C (tgt := 106) d_Model_onePart_96 (by decide) (by decide) ?_
                refine j_iconst (pc := 106) C (v := (-1)) d_Model_onePart_106 (by decide) ?_
                refine j_istore (pc := 107) C (lv' := [(4, .int (-1)), (3, .int 1), (2, .int (nI (tx u518))), (1, .int (nI mz)), (0, .ref mo)]) d_Model_onePart_107 (by decide) rfl ?_
                refine j_iload (pc := 109) C d_Model_onePart_109 0 rfl ?_
                refine j_iconst (pc := 111) C (v := (-1)) d_Model_onePart_111 (by decide) ?_
                refine j_icmp_eqT (pc := 112) C (tgt := 132) d_Model_onePart_112 (by decide) (by decide) ?_
                have xh848 : ¬ issS tx t3 40 (advS tx t3 gz) = true := (sg_no1 ((rr_z xh844).mp rfl) xh843 xh846)
                refine j_aload_n (pc := 132) C d_Model_onePart_132 rfl 4 rfl ?_
                refine j_bipush (pc := 133) C (v := 40) d_Model_onePart_133 (by decide) ?_
                refine j_callVv (pc := 135) C (c_M_asksSign l D y mo ma t1 u840 t3 u829.2 0 pz i7 i8 i42 i49 (nI cd) (nI zn) (nI oz) (nI bs) i61 i64 i66 t67 i76 i78 tx 40 (advS tx t3 gz) xh842 he hB xh844 (by omega) (by decide)) kw_Model_271 kv_Model_asksSign 0 10 rfl rfl ⟨by decide, by decide⟩ ⟨by decide, by decide⟩ (wr := [(ma 37, .inl (y 3, 3, .inl (WD 28))), (ma 38, .inl (y 3, 5, .inl (WD 29))), (ma 39, .inl (y 3, 5, .inl (WD 30))), (ma 41, .inl (y 3, 3, .inl (WD 32))), (ma 50, .inl (y 0, 3200, .inl g50)), (ma 52, .inl (y 0, 1700, .inl zw)), (ma 40, .inl (y 3, 3, .inl (WD 31)))]) [7, 8] [0, 1, 2, 3, 4, 5, 6] rfl rfl (by decide +kernel) (by decide +kernel) (by decide +kernel) (As := [.int 40]) (rest := []) rfl (nb rfl) rfl d_Model_onePart_135 (fun u849 hu850 => ?_)
                obtain ⟨xh851, xh852, xh853, xh854⟩ := hu850
                refine j_ws (ws' := [(ma 37, .inl (y 3, 3, .inl (WD 28))), (ma 38, .inl (y 3, 5, .inl (WD 29))), (ma 39, .inl (y 3, 5, .inl (WD 30))), (ma 41, .inl (y 3, 3, .inl (WD 32))), (ma 50, .inl (y 0, 3200, .inl g50)), (ma 52, .inl (y 0, 1700, .inl zw)), (ma 40, .inl (y 3, 3, .inl (WD 31))), MB mo ma (nI t1) (nI u849.1) (nI t3) u829.2 u849.2.1 u849.2.2 i7 i8 i42 i49 (nI cd) (nI zn) (nI oz) (nI bs) i61 i64 i66 (nI t67) i76 i78, (ma 0, .inl (y 0, 1600, .inl (tby tx)))]) rfl ?_
                have xh855 : RR tx t3 (failS 1 (stS tx t3 (advS tx t3 gz)) (advS tx t3 gz)) u849.1 u829.2 u849.2.1 u849.2.2 := (rr_of xh854 (if_neg xh848).symm)
                have xh856 : ¬ u849.2.1 = 0 := fun e => (fail_nz (by decide)) ((rr_z xh855).mp e)
                have xh857 : Rch tx t3 (0, (gs, cs, sk, oo)) (2, ((failS 1 (stS tx t3 (advS tx t3 gz)) (advS tx t3 gz)), cs, sz, oz)) := xh514.tr (Rch.st ((stP _ _ _ _).trans ((sP_mm (Or.inl xh725)).trans (if_neg xh848))) (Rch.rf _))
                refine j_goto (pc := 138) C (tgt := 143) d_Model_onePart_138 (by decide) ?_
                refine j_goto (pc := 143) C (tgt := 2) d_Model_onePart_143 (by decide) ?_
                refine j_sub (ws' := [MB mo ma (nI t1) (nI u849.1) (nI t3) u829.2 u849.2.1 u849.2.2 i7 i8 i42 i49 (nI cd) (nI zn) (nI oz) (nI bs) i61 i64 i66 (nI t67) i76 i78, (ma 0, .inl (y 0, 1600, .inl (tby tx))), (ma 37, .inl (y 3, 3, .inl (WD 28))), (ma 38, .inl (y 3, 5, .inl (WD 29))), (ma 39, .inl (y 3, 5, .inl (WD 30))), (ma 40, .inl (y 3, 3, .inl (WD 31))), (ma 41, .inl (y 3, 3, .inl (WD 32))), (ma 50, .inl (y 0, 3200, .inl g50)), (ma 52, .inl (y 0, 1700, .inl zw))]) [7, 8, 0, 1, 2, 6, 3, 4, 5] rfl (by decide +kernel) ?_
                refine j_locs (lv' := [(1, .int (nI mz)), (0, .ref mo)]) [3, 4] rfl ?_
                have hz1 := bz_e c511
                have hz0 := bz_le u849.2.1
                have hz2 : bz1 u849.2.1 = 0 ∨ az + 1 ≤ u849.1 := Or.inl (bz_0 xh856)
                have xh858 : RS kq s0 f0 xx u849.2.1 g50 zw cd zn az := rs_bad xh512 xh856
                exact ih456 (mz, u849.1, u849.2.1, zw, zn, u829.2, u849.2.2, oz, (failS 1 (stS tx t3 (advS tx t3 gz)) (advS tx t3 gz)), sz) ⟨hmz_, xh852, (show t2 ≤ u849.1 by omega), (show RS kq s0 f0 xx u849.2.1 g50 zw cd zn u849.1 from (rs_at xh858 (by omega))), hT_, hS_, hb_, (show RR tx t3 (failS 1 (stS tx t3 (advS tx t3 gz)) (advS tx t3 gz)) u849.1 u829.2 u849.2.1 u849.2.2 from xh855), (fun e => absurd e xh856), ho_, (fun _ => ⟨_, _, _, xh857⟩), (fun e => absurd (show mz = 0 from e) (by omega)), hF_⟩ (show 2 * (t3 - u849.1) + bz1 u849.2.1 + mz < 2 * (t3 - az) + bz1 bz + mz by omega)
              · have hb859 : tx u840 < 256 := hB u840
                refine j_bipush (pc := 94) C (v := 40) d_Model_onePart_94 (by decide) ?_
                by_cases c860 : ¬ (tx u840) = 40
                · refine j_icmp_neT (pc := 96) C (tgt := 106) d_Model_onePart_96 (by decide) (show ¬ nI (tx u840) = nI 40 from fun e => absurd ((nI_eq (by omega) (by omega)).mp e) (by omega)) ?_
                  refine j_iconst (pc := 106) C (v := (-1)) d_Model_onePart_106 (by decide) ?_
                  refine j_istore (pc := 107) C (lv' := [(4, .int (-1)), (3, .int 1), (2, .int (nI (tx u518))), (1, .int (nI mz)), (0, .ref mo)]) d_Model_onePart_107 (by decide) rfl ?_
                  refine j_iload (pc := 109) C d_Model_onePart_109 0 rfl ?_
                  refine j_iconst (pc := 111) C (v := (-1)) d_Model_onePart_111 (by decide) ?_
                  refine j_icmp_eqT (pc := 112) C (tgt := 132) d_Model_onePart_112 (by decide) (by decide) ?_
                  have xh861 : ¬ issS tx t3 40 (advS tx t3 gz) = true := (sg_no2 xh843 (show ¬ tx u840 = 40 by omega))
                  refine j_aload_n (pc := 132) C d_Model_onePart_132 rfl 4 rfl ?_
                  refine j_bipush (pc := 133) C (v := 40) d_Model_onePart_133 (by decide) ?_
                  refine j_callVv (pc := 135) C (c_M_asksSign l D y mo ma t1 u840 t3 u829.2 0 pz i7 i8 i42 i49 (nI cd) (nI zn) (nI oz) (nI bs) i61 i64 i66 t67 i76 i78 tx 40 (advS tx t3 gz) xh842 he hB xh844 (by omega) (by decide)) kw_Model_271 kv_Model_asksSign 0 10 rfl rfl ⟨by decide, by decide⟩ ⟨by decide, by decide⟩ (wr := [(ma 37, .inl (y 3, 3, .inl (WD 28))), (ma 38, .inl (y 3, 5, .inl (WD 29))), (ma 39, .inl (y 3, 5, .inl (WD 30))), (ma 41, .inl (y 3, 3, .inl (WD 32))), (ma 50, .inl (y 0, 3200, .inl g50)), (ma 52, .inl (y 0, 1700, .inl zw)), (ma 40, .inl (y 3, 3, .inl (WD 31)))]) [7, 8] [0, 1, 2, 3, 4, 5, 6] rfl rfl (by decide +kernel) (by decide +kernel) (by decide +kernel) (As := [.int 40]) (rest := []) rfl (nb rfl) rfl d_Model_onePart_135 (fun u862 hu863 => ?_)
                  obtain ⟨xh864, xh865, xh866, xh867⟩ := hu863
                  refine j_ws (ws' := [(ma 37, .inl (y 3, 3, .inl (WD 28))), (ma 38, .inl (y 3, 5, .inl (WD 29))), (ma 39, .inl (y 3, 5, .inl (WD 30))), (ma 41, .inl (y 3, 3, .inl (WD 32))), (ma 50, .inl (y 0, 3200, .inl g50)), (ma 52, .inl (y 0, 1700, .inl zw)), (ma 40, .inl (y 3, 3, .inl (WD 31))), MB mo ma (nI t1) (nI u862.1) (nI t3) u829.2 u862.2.1 u862.2.2 i7 i8 i42 i49 (nI cd) (nI zn) (nI oz) (nI bs) i61 i64 i66 (nI t67) i76 i78, (ma 0, .inl (y 0, 1600, .inl (tby tx)))]) rfl ?_
                  have xh868 : RR tx t3 (failS 1 (stS tx t3 (advS tx t3 gz)) (advS tx t3 gz)) u862.1 u829.2 u862.2.1 u862.2.2 := (rr_of xh867 (if_neg xh861).symm)
                  have xh869 : ¬ u862.2.1 = 0 := fun e => (fail_nz (by decide)) ((rr_z xh868).mp e)
                  have xh870 : Rch tx t3 (0, (gs, cs, sk, oo)) (2, ((failS 1 (stS tx t3 (advS tx t3 gz)) (advS tx t3 gz)), cs, sz, oz)) := xh514.tr (Rch.st ((stP _ _ _ _).trans ((sP_mm (Or.inl xh725)).trans (if_neg xh861))) (Rch.rf _))
                  refine j_goto (pc := 138) C (tgt := 143) d_Model_onePart_138 (by decide) ?_
                  refine j_goto (pc := 143) C (tgt := 2) d_Model_onePart_143 (by decide) ?_
                  refine j_sub (ws' := [MB mo ma (nI t1) (nI u862.1) (nI t3) u829.2 u862.2.1 u862.2.2 i7 i8 i42 i49 (nI cd) (nI zn) (nI oz) (nI bs) i61 i64 i66 (nI t67) i76 i78, (ma 0, .inl (y 0, 1600, .inl (tby tx))), (ma 37, .inl (y 3, 3, .inl (WD 28))), (ma 38, .inl (y 3, 5, .inl (WD 29))), (ma 39, .inl (y 3, 5, .inl (WD 30))), (ma 40, .inl (y 3, 3, .inl (WD 31))), (ma 41, .inl (y 3, 3, .inl (WD 32))), (ma 50, .inl (y 0, 3200, .inl g50)), (ma 52, .inl (y 0, 1700, .inl zw))]) [7, 8, 0, 1, 2, 6, 3, 4, 5] rfl (by decide +kernel) ?_
                  refine j_locs (lv' := [(1, .int (nI mz)), (0, .ref mo)]) [3, 4] rfl ?_
                  have hz1 := bz_e c511
                  have hz0 := bz_le u862.2.1
                  have hz2 : bz1 u862.2.1 = 0 ∨ az + 1 ≤ u862.1 := Or.inl (bz_0 xh869)
                  have xh871 : RS kq s0 f0 xx u862.2.1 g50 zw cd zn az := rs_bad xh512 xh869
                  exact ih456 (mz, u862.1, u862.2.1, zw, zn, u829.2, u862.2.2, oz, (failS 1 (stS tx t3 (advS tx t3 gz)) (advS tx t3 gz)), sz) ⟨hmz_, xh865, (show t2 ≤ u862.1 by omega), (show RS kq s0 f0 xx u862.2.1 g50 zw cd zn u862.1 from (rs_at xh871 (by omega))), hT_, hS_, hb_, (show RR tx t3 (failS 1 (stS tx t3 (advS tx t3 gz)) (advS tx t3 gz)) u862.1 u829.2 u862.2.1 u862.2.2 from xh868), (fun e => absurd e xh869), ho_, (fun _ => ⟨_, _, _, xh870⟩), (fun e => absurd (show mz = 0 from e) (by omega)), hF_⟩ (show 2 * (t3 - u862.1) + bz1 u862.2.1 + mz < 2 * (t3 - az) + bz1 bz + mz by omega)
                · refine j_icmp_neF (pc := 96) C (tgt := 106) d_Model_onePart_96 (by decide) (show nI (tx u840) = nI 40 from (nI_eq (by omega) (by omega)).mpr (by omega)) ?_
                  refine j_aload_n (pc := 99) C d_Model_onePart_99 rfl 3 rfl ?_
                  refine j_get (pc := 100) C gf_Model_207 7 rfl rfl d_Model_onePart_100 ?_
                  refine j_goto (pc := 103) C (tgt := 107) d_Model_onePart_103 (by decide) ?_
                  refine j_istore (pc := 107) C (lv' := [(4, .int (nI u840)), (3, .int 1), (2, .int (nI (tx u518))), (1, .int (nI mz)), (0, .ref mo)]) d_Model_onePart_107 (by decide) rfl ?_
                  refine j_iload (pc := 109) C d_Model_onePart_109 0 rfl ?_
                  refine j_iconst (pc := 111) C (v := (-1)) d_Model_onePart_111 (by decide) ?_
                  refine j_icmp_eqF (pc := 112) C (tgt := 132) d_Model_onePart_112 (by decide) (nI_nm1 (by omega)) ?_
                  refine j_aload_n (pc := 115) C d_Model_onePart_115 rfl 4 rfl ?_
                  refine j_iload_n (pc := 116) C d_Model_onePart_116 rfl 1 rfl ?_
                  refine j_if_eqF (pc := 117) C (tgt := 125) d_Model_onePart_117 (by decide) (by decide) ?_
                  refine j_bipush (pc := 120) C (v := 21) d_Model_onePart_120 (by decide) ?_
                  refine j_goto (pc := 122) C (tgt := 127) d_Model_onePart_122 (by decide) ?_
                  refine j_iload (pc := 127) C d_Model_onePart_127 0 rfl ?_
                  have xh872 : issS tx t3 40 (advS tx t3 gz) = true := (sg_yes ((rr_z xh844).mp rfl) xh843 xh847 (show tx u840 = 40 by omega) (by decide)).1
                  by_cases c873 : oz = 6
                  · refine j_callVv (pc := 129) C (c_M_opens_N l D y mo ma t1 u840 t3 u829.2 0 pz i7 i8 i42 i49 (nI cd) zn oz (nI bs) i61 i64 i66 t67 i76 i78 zw 21 u840 (advS tx t3 gz) tx (by omega) ((rr_z xh844).mp rfl) (by omega) rfl) kw_Model_353 kv_Model_opens 0 10 rfl rfl ⟨by decide, by decide⟩ ⟨by decide, by decide⟩ (wr := [(ma 37, .inl (y 3, 3, .inl (WD 28))), (ma 38, .inl (y 3, 5, .inl (WD 29))), (ma 39, .inl (y 3, 5, .inl (WD 30))), (ma 41, .inl (y 3, 3, .inl (WD 32))), (ma 50, .inl (y 0, 3200, .inl g50)), (ma 40, .inl (y 3, 3, .inl (WD 31))), (ma 0, .inl (y 0, 1600, .inl (tby tx)))]) [7, 5] [0, 1, 2, 3, 4, 6, 8] rfl rfl (by decide +kernel) (by decide +kernel) (by decide +kernel) (As := [.int 21, .int (nI u840)]) (rest := []) rfl (nb rfl) rfl d_Model_onePart_129 (fun u874 hu875 => ?_)
                    obtain ⟨xh876, xh877⟩ := hu875
                    refine j_ws (ws' := [(ma 37, .inl (y 3, 3, .inl (WD 28))), (ma 38, .inl (y 3, 5, .inl (WD 29))), (ma 39, .inl (y 3, 5, .inl (WD 30))), (ma 41, .inl (y 3, 3, .inl (WD 32))), (ma 50, .inl (y 0, 3200, .inl g50)), (ma 40, .inl (y 3, 3, .inl (WD 31))), (ma 0, .inl (y 0, 1600, .inl (tby tx))), MB mo ma (nI t1) (nI u840) (nI t3) u829.2 u874.1 u874.2 i7 i8 i42 i49 (nI cd) (nI zn) (nI oz) (nI bs) i61 i64 i66 (nI t67) i76 i78, (ma 52, .inl (y 0, 1700, .inl zw))]) rfl ?_
                    have xh878 : RS kq s0 f0 xx u874.1 g50 zw cd zn u840 := rs_bad (rs_at xh512 (show az ≤ u840 by omega)) xh876
                    refine j_aload_n (pc := 132) C d_Model_onePart_132 rfl 4 rfl ?_
                    refine j_bipush (pc := 133) C (v := 40) d_Model_onePart_133 (by decide) ?_
                    refine j_callVv (pc := 135) C (c_M_asksSign l D y mo ma t1 u840 t3 u829.2 u874.1 u874.2 i7 i8 i42 i49 (nI cd) (nI zn) (nI oz) (nI bs) i61 i64 i66 t67 i76 i78 tx 40 (failS 4 u840 (advS tx t3 gz)) xh842 he hB xh877 (by omega) (by decide)) kw_Model_271 kv_Model_asksSign 0 10 rfl rfl ⟨by decide, by decide⟩ ⟨by decide, by decide⟩ (wr := [(ma 37, .inl (y 3, 3, .inl (WD 28))), (ma 38, .inl (y 3, 5, .inl (WD 29))), (ma 39, .inl (y 3, 5, .inl (WD 30))), (ma 41, .inl (y 3, 3, .inl (WD 32))), (ma 50, .inl (y 0, 3200, .inl g50)), (ma 40, .inl (y 3, 3, .inl (WD 31))), (ma 52, .inl (y 0, 1700, .inl zw))]) [7, 6] [0, 1, 2, 3, 4, 5, 8] rfl rfl (by decide +kernel) (by decide +kernel) (by decide +kernel) (As := [.int 40]) (rest := []) rfl (nb rfl) rfl d_Model_onePart_135 (fun u879 hu880 => ?_)
                    obtain ⟨xh881, xh882, xh883, xh884⟩ := hu880
                    refine j_ws (ws' := [(ma 37, .inl (y 3, 3, .inl (WD 28))), (ma 38, .inl (y 3, 5, .inl (WD 29))), (ma 39, .inl (y 3, 5, .inl (WD 30))), (ma 41, .inl (y 3, 3, .inl (WD 32))), (ma 50, .inl (y 0, 3200, .inl g50)), (ma 40, .inl (y 3, 3, .inl (WD 31))), (ma 52, .inl (y 0, 1700, .inl zw)), MB mo ma (nI t1) (nI u879.1) (nI t3) u829.2 u879.2.1 u879.2.2 i7 i8 i42 i49 (nI cd) (nI zn) (nI oz) (nI bs) i61 i64 i66 (nI t67) i76 i78, (ma 0, .inl (y 0, 1600, .inl (tby tx)))]) rfl ?_
                    have xh885 : RR tx t3 (failS 4 (stS tx t3 (advS tx t3 gz)) (advS tx t3 gz)) u879.1 u829.2 u879.2.1 u879.2.2 := (rr_of xh884 ((rs_d (fail_nz (by decide))).trans (by rw [← xh843])).symm)
                    have xh886 : ¬ u879.2.1 = 0 := fun e => (fail_nz (by decide)) ((rr_z xh885).mp e)
                    have xh887 : Rch tx t3 (0, (gs, cs, sk, oo)) (2, ((failS 4 (stS tx t3 (advS tx t3 gz)) (advS tx t3 gz)), cs, sz, oz)) := xh514.tr (Rch.st ((stP _ _ _ _).trans ((sP_mm (Or.inl xh725)).trans ((if_pos xh872).trans (if_pos c873)))) (Rch.rf _))
                    refine j_goto (pc := 138) C (tgt := 143) d_Model_onePart_138 (by decide) ?_
                    refine j_goto (pc := 143) C (tgt := 2) d_Model_onePart_143 (by decide) ?_
                    refine j_sub (ws' := [MB mo ma (nI t1) (nI u879.1) (nI t3) u829.2 u879.2.1 u879.2.2 i7 i8 i42 i49 (nI cd) (nI zn) (nI oz) (nI bs) i61 i64 i66 (nI t67) i76 i78, (ma 0, .inl (y 0, 1600, .inl (tby tx))), (ma 37, .inl (y 3, 3, .inl (WD 28))), (ma 38, .inl (y 3, 5, .inl (WD 29))), (ma 39, .inl (y 3, 5, .inl (WD 30))), (ma 40, .inl (y 3, 3, .inl (WD 31))), (ma 41, .inl (y 3, 3, .inl (WD 32))), (ma 50, .inl (y 0, 3200, .inl g50)), (ma 52, .inl (y 0, 1700, .inl zw))]) [7, 8, 0, 1, 2, 5, 3, 4, 6] rfl (by decide +kernel) ?_
                    refine j_locs (lv' := [(1, .int (nI mz)), (0, .ref mo)]) [3, 4] rfl ?_
                    have hz1 := bz_e c511
                    have hz0 := bz_le u879.2.1
                    have hz2 : bz1 u879.2.1 = 0 ∨ az + 1 ≤ u879.1 := Or.inl (bz_0 xh886)
                    have xh888 : RS kq s0 f0 xx u879.2.1 g50 zw cd zn u840 := rs_bad xh878 xh886
                    exact ih456 (mz, u879.1, u879.2.1, zw, zn, u829.2, u879.2.2, oz, (failS 4 (stS tx t3 (advS tx t3 gz)) (advS tx t3 gz)), sz) ⟨hmz_, xh882, (show t2 ≤ u879.1 by omega), (show RS kq s0 f0 xx u879.2.1 g50 zw cd zn u879.1 from (rs_at xh888 (by omega))), hT_, hS_, hb_, (show RR tx t3 (failS 4 (stS tx t3 (advS tx t3 gz)) (advS tx t3 gz)) u879.1 u829.2 u879.2.1 u879.2.2 from xh885), (fun e => absurd e xh886), ho_, (fun _ => ⟨_, _, _, xh887⟩), (fun e => absurd (show mz = 0 from e) (by omega)), hF_⟩ (show 2 * (t3 - u879.1) + bz1 u879.2.1 + mz < 2 * (t3 - az) + bz1 bz + mz by omega)
                  · refine j_callVv (pc := 129) C (c_M_opens_Y l D y mo ma t1 u840 t3 u829.2 0 pz i7 i8 i42 i49 cd zn oz (nI bs) i61 i64 i66 t67 i76 i78 zw 21 (nI u840) (by omega) (by omega) (by omega)) kw_Model_353 kv_Model_opens 0 10 rfl rfl ⟨by decide, by decide⟩ ⟨by decide, by decide⟩ (wr := [(ma 37, .inl (y 3, 3, .inl (WD 28))), (ma 38, .inl (y 3, 5, .inl (WD 29))), (ma 39, .inl (y 3, 5, .inl (WD 30))), (ma 41, .inl (y 3, 3, .inl (WD 32))), (ma 50, .inl (y 0, 3200, .inl g50)), (ma 40, .inl (y 3, 3, .inl (WD 31))), (ma 0, .inl (y 0, 1600, .inl (tby tx)))]) [7, 5] [0, 1, 2, 3, 4, 6, 8] rfl rfl (by decide +kernel) (by decide +kernel) (by decide +kernel) (As := [.int 21, .int (nI u840)]) (rest := []) rfl (nb rfl) rfl d_Model_onePart_129 (fun _ _ => ?_)
                    refine j_ws (ws' := [(ma 37, .inl (y 3, 3, .inl (WD 28))), (ma 38, .inl (y 3, 5, .inl (WD 29))), (ma 39, .inl (y 3, 5, .inl (WD 30))), (ma 41, .inl (y 3, 3, .inl (WD 32))), (ma 50, .inl (y 0, 3200, .inl g50)), (ma 40, .inl (y 3, 3, .inl (WD 31))), (ma 0, .inl (y 0, 1600, .inl (tby tx))), MB mo ma (nI t1) (nI u840) (nI t3) u829.2 0 pz i7 i8 i42 i49 (nI cd) (nI (zn + 1)) (nI (oz + 1)) (nI bs) i61 i64 i66 (nI t67) i76 i78, (ma 52, .inl (y 0, 1700, .inl (upd zw zn 21)))]) rfl ?_
                    have xh889 : RS kq s0 f0 xx 0 g50 (upd zw zn 21) cd (zn + 1) (u840 + 1) := rs_push (rs_at xh512 (show az ≤ u840 by omega)) (by decide)
                    have xh890 : ITm (upd zw zn 21) bs := (it_up hT_ (by omega))
                    have xh891 : ISm (upd zw zn 21) bs (zn + 1) := (is_up hS_ (by decide))
                    have xh892 : WB (21 :: sz) (upd zw zn 21) bs (zn + 1) := wb_push xh515 (by decide)
                    have xh893 : opn (21 :: sz) ≤ (oz + 1) := opn_push xh516
                    refine j_aload_n (pc := 132) C d_Model_onePart_132 rfl 4 rfl ?_
                    refine j_bipush (pc := 133) C (v := 40) d_Model_onePart_133 (by decide) ?_
                    refine j_callVv (pc := 135) C (c_M_asksSign l D y mo ma t1 u840 t3 u829.2 0 pz i7 i8 i42 i49 (nI cd) (nI (zn + 1)) (nI (oz + 1)) (nI bs) i61 i64 i66 t67 i76 i78 tx 40 (advS tx t3 gz) xh842 he hB xh844 (by omega) (by decide)) kw_Model_271 kv_Model_asksSign 0 10 rfl rfl ⟨by decide, by decide⟩ ⟨by decide, by decide⟩ (wr := [(ma 37, .inl (y 3, 3, .inl (WD 28))), (ma 38, .inl (y 3, 5, .inl (WD 29))), (ma 39, .inl (y 3, 5, .inl (WD 30))), (ma 41, .inl (y 3, 3, .inl (WD 32))), (ma 50, .inl (y 0, 3200, .inl g50)), (ma 40, .inl (y 3, 3, .inl (WD 31))), (ma 52, .inl (y 0, 1700, .inl (upd zw zn 21)))]) [7, 6] [0, 1, 2, 3, 4, 5, 8] rfl rfl (by decide +kernel) (by decide +kernel) (by decide +kernel) (As := [.int 40]) (rest := []) rfl (nb rfl) rfl d_Model_onePart_135 (fun u894 hu895 => ?_)
                    obtain ⟨xh896, xh897, xh898, xh899⟩ := hu895
                    refine j_ws (ws' := [(ma 37, .inl (y 3, 3, .inl (WD 28))), (ma 38, .inl (y 3, 5, .inl (WD 29))), (ma 39, .inl (y 3, 5, .inl (WD 30))), (ma 41, .inl (y 3, 3, .inl (WD 32))), (ma 50, .inl (y 0, 3200, .inl g50)), (ma 40, .inl (y 3, 3, .inl (WD 31))), (ma 52, .inl (y 0, 1700, .inl (upd zw zn 21))), MB mo ma (nI t1) (nI u894.1) (nI t3) u829.2 u894.2.1 u894.2.2 i7 i8 i42 i49 (nI cd) (nI (zn + 1)) (nI (oz + 1)) (nI bs) i61 i64 i66 (nI t67) i76 i78, (ma 0, .inl (y 0, 1600, .inl (tby tx)))]) rfl ?_
                    have xh900 : RR tx t3 (advS tx t3 (advS tx t3 gz)) u894.1 u829.2 u894.2.1 u894.2.2 := (rr_of xh899 (if_pos xh872).symm)
                    have xh901 : u894.2.1 = 0 := (rr_z xh900).mpr (adv_ok xh827)
                    have hp902 := (xh898 xh901).2
                    have xh903 : RS kq s0 f0 xx u894.2.1 g50 (upd zw zn 21) cd (zn + 1) (u840 + 1) := rs_mono xh889 (fun _ => rfl)
                    refine j_ws (ws' := [(ma 37, .inl (y 3, 3, .inl (WD 28))), (ma 38, .inl (y 3, 5, .inl (WD 29))), (ma 39, .inl (y 3, 5, .inl (WD 30))), (ma 41, .inl (y 3, 3, .inl (WD 32))), (ma 50, .inl (y 0, 3200, .inl g50)), (ma 40, .inl (y 3, 3, .inl (WD 31))), (ma 52, .inl (y 0, 1700, .inl (upd zw zn 21))), MB mo ma (nI t1) (nI u894.1) (nI t3) u829.2 0 u894.2.2 i7 i8 i42 i49 (nI cd) (nI (zn + 1)) (nI (oz + 1)) (nI bs) i61 i64 i66 (nI t67) i76 i78, (ma 0, .inl (y 0, 1600, .inl (tby tx)))]) (by rw [xh901]) ?_
                    have xh904 : RR tx t3 (advS tx t3 (advS tx t3 gz)) u894.1 u829.2 0 u894.2.2 := by have hq := xh900; rw [xh901] at hq; exact hq
                    have xh905 : Rch tx t3 (0, (gs, cs, sk, oo)) (0, ((advS tx t3 (advS tx t3 gz)), cs, (21 :: sz), (oz + 1))) := xh514.tr (Rch.st ((stP _ _ _ _).trans ((sP_mm (Or.inl xh725)).trans ((if_pos xh872).trans ((if_neg c873).trans (by rw [if_pos xh725]))))) (Rch.rf _))
                    refine j_goto (pc := 138) C (tgt := 143) d_Model_onePart_138 (by decide) ?_
                    refine j_goto (pc := 143) C (tgt := 2) d_Model_onePart_143 (by decide) ?_
                    refine j_sub (ws' := [MB mo ma (nI t1) (nI u894.1) (nI t3) u829.2 0 u894.2.2 i7 i8 i42 i49 (nI cd) (nI (zn + 1)) (nI (oz + 1)) (nI bs) i61 i64 i66 (nI t67) i76 i78, (ma 0, .inl (y 0, 1600, .inl (tby tx))), (ma 37, .inl (y 3, 3, .inl (WD 28))), (ma 38, .inl (y 3, 5, .inl (WD 29))), (ma 39, .inl (y 3, 5, .inl (WD 30))), (ma 40, .inl (y 3, 3, .inl (WD 31))), (ma 41, .inl (y 3, 3, .inl (WD 32))), (ma 50, .inl (y 0, 3200, .inl g50)), (ma 52, .inl (y 0, 1700, .inl (upd zw zn 21)))]) [7, 8, 0, 1, 2, 5, 3, 4, 6] rfl (by decide +kernel) ?_
                    refine j_locs (lv' := [(1, .int (nI mz)), (0, .ref mo)]) [3, 4] rfl ?_
                    have hz1 := bz_e c511
                    have hz0 := bz_1
                    have hz2 : bz1 0 = 0 ∨ az + 1 ≤ u894.1 := Or.inr (by omega)
                    exact ih456 (mz, u894.1, 0, (upd zw zn 21), (zn + 1), u829.2, u894.2.2, (oz + 1), (advS tx t3 (advS tx t3 gz)), (21 :: sz)) ⟨hmz_, xh897, (show t2 ≤ u894.1 by omega), (show RS kq s0 f0 xx 0 g50 (upd zw zn 21) cd (zn + 1) u894.1 from (rs_at xh889 (by omega))), xh890, xh891, (show bs ≤ (zn + 1) by omega), (show RR tx t3 (advS tx t3 (advS tx t3 gz)) u894.1 u829.2 0 u894.2.2 from xh904), (fun _ => ⟨xh905, xh892, xh893⟩), (show (oz + 1) ≤ 6 by omega), (fun e => absurd rfl e), (fun e => absurd (show mz = 0 from e) (by omega)), (fun j hj => (pk_un (show j ≠ zn by omega)).trans (hF_ j hj))⟩ (show 2 * (t3 - u894.1) + bz1 0 + mz < 2 * (t3 - az) + bz1 bz + mz by omega)
        · refine j_icmp_neF (pc := 21) C (tgt := 47) d_Model_onePart_21 (by decide) (show nI (tx u518) = nI 40 from (nI_eq (by omega) (by omega)).mpr (by omega)) ?_
          refine j_aload_n (pc := 24) C d_Model_onePart_24 rfl 2 rfl ?_
          refine j_bipush (pc := 25) C (v := 20) d_Model_onePart_25 (by decide) ?_
          refine j_aload_n (pc := 27) C d_Model_onePart_27 rfl 2 rfl ?_
          refine j_get (pc := 28) C gf_Model_207 7 rfl rfl d_Model_onePart_28 ?_
          have xh906 : issS tx t3 40 gz = true := (sg_yes ((rr_z xh522).mp rfl) xh521 xh525 (show tx u518 = 40 by omega) (by decide)).1
          by_cases c907 : oz = 6
          · refine j_callVv (pc := 31) C (c_M_opens_N l D y mo ma t1 u518 t3 ez 0 pz i7 i8 i42 i49 (nI cd) zn oz (nI bs) i61 i64 i66 t67 i76 i78 zw 20 u518 gz tx (by omega) ((rr_z xh522).mp rfl) (by omega) rfl) kw_Model_353 kv_Model_opens 0 10 rfl rfl ⟨by decide, by decide⟩ ⟨by decide, by decide⟩ (wr := [(ma 37, .inl (y 3, 3, .inl (WD 28))), (ma 38, .inl (y 3, 5, .inl (WD 29))), (ma 39, .inl (y 3, 5, .inl (WD 30))), (ma 40, .inl (y 3, 3, .inl (WD 31))), (ma 41, .inl (y 3, 3, .inl (WD 32))), (ma 50, .inl (y 0, 3200, .inl g50)), (ma 0, .inl (y 0, 1600, .inl (tby tx)))]) [7, 6] [0, 1, 2, 3, 4, 5, 8] rfl rfl (by decide +kernel) (by decide +kernel) (by decide +kernel) (As := [.int 20, .int (nI u518)]) (rest := []) rfl (nb rfl) rfl d_Model_onePart_31 (fun u908 hu909 => ?_)
            obtain ⟨xh910, xh911⟩ := hu909
            refine j_ws (ws' := [(ma 37, .inl (y 3, 3, .inl (WD 28))), (ma 38, .inl (y 3, 5, .inl (WD 29))), (ma 39, .inl (y 3, 5, .inl (WD 30))), (ma 40, .inl (y 3, 3, .inl (WD 31))), (ma 41, .inl (y 3, 3, .inl (WD 32))), (ma 50, .inl (y 0, 3200, .inl g50)), (ma 0, .inl (y 0, 1600, .inl (tby tx))), MB mo ma (nI t1) (nI u518) (nI t3) ez u908.1 u908.2 i7 i8 i42 i49 (nI cd) (nI zn) (nI oz) (nI bs) i61 i64 i66 (nI t67) i76 i78, (ma 52, .inl (y 0, 1700, .inl zw))]) rfl ?_
            have xh912 : RS kq s0 f0 xx u908.1 g50 zw cd zn u518 := rs_bad (rs_at xh512 (show az ≤ u518 by omega)) xh910
            refine j_aload_n (pc := 34) C d_Model_onePart_34 rfl 2 rfl ?_
            refine j_dup (pc := 35) C d_Model_onePart_35 rfl ?_
            refine j_get (pc := 36) C gf_Model_207 7 rfl rfl d_Model_onePart_36 ?_
            refine j_iconst (pc := 39) C (v := 1) d_Model_onePart_39 (by decide) ?_
            refine j_iadd (pc := 40) C (v := nI (u518 + 1)) d_Model_onePart_40 (nI_add _ _) ?_
            refine j_put (pc := 41) C pf_Model_207 7 (ws' := [(ma 37, .inl (y 3, 3, .inl (WD 28))), (ma 38, .inl (y 3, 5, .inl (WD 29))), (ma 39, .inl (y 3, 5, .inl (WD 30))), (ma 40, .inl (y 3, 3, .inl (WD 31))), (ma 41, .inl (y 3, 3, .inl (WD 32))), (ma 50, .inl (y 0, 3200, .inl g50)), (ma 0, .inl (y 0, 1600, .inl (tby tx))), MB mo ma (nI t1) (nI (u518 + 1)) (nI t3) ez u908.1 u908.2 i7 i8 i42 i49 (nI cd) (nI zn) (nI oz) (nI bs) i61 i64 i66 (nI t67) i76 i78, (ma 52, .inl (y 0, 1700, .inl zw))]) rfl rfl rfl (nl rfl) rfl d_Model_onePart_41 ?_
            have xh913 : Rch tx t3 (0, (gs, cs, sk, oo)) (2, ((failS 4 (stS tx t3 gz) gz), cs, sz, oz)) := xh514.tr (Rch.st ((stP _ _ _ _).trans ((sP_40 xh906).trans (if_pos c907))) (Rch.rf _))
            have xh914 : RR tx t3 (failS 4 u518 gz) (u518 + 1) ez u908.1 u908.2 := rr_dd xh911 xh910 (by omega)
            have xh915 : RR tx t3 (failS 4 (stS tx t3 gz) gz) (u518 + 1) ez u908.1 u908.2 := (rr_of xh914 (by rw [← xh521]))
            refine j_goto (pc := 44) C (tgt := 143) d_Model_onePart_44 (by decide) ?_
            refine j_goto (pc := 143) C (tgt := 2) d_Model_onePart_143 (by decide) ?_
            refine j_sub (ws' := [MB mo ma (nI t1) (nI (u518 + 1)) (nI t3) ez u908.1 u908.2 i7 i8 i42 i49 (nI cd) (nI zn) (nI oz) (nI bs) i61 i64 i66 (nI t67) i76 i78, (ma 0, .inl (y 0, 1600, .inl (tby tx))), (ma 37, .inl (y 3, 3, .inl (WD 28))), (ma 38, .inl (y 3, 5, .inl (WD 29))), (ma 39, .inl (y 3, 5, .inl (WD 30))), (ma 40, .inl (y 3, 3, .inl (WD 31))), (ma 41, .inl (y 3, 3, .inl (WD 32))), (ma 50, .inl (y 0, 3200, .inl g50)), (ma 52, .inl (y 0, 1700, .inl zw))]) [7, 6, 0, 1, 2, 3, 4, 5, 8] rfl (by decide +kernel) ?_
            refine j_locs (lv' := [(1, .int (nI mz)), (0, .ref mo)]) [1, 2] rfl ?_
            have hz1 := bz_e c511
            have hz0 := bz_le u908.1
            have hz2 : bz1 u908.1 = 0 ∨ az + 1 ≤ (u518 + 1) := Or.inl (bz_0 xh910)
            exact ih456 (mz, (u518 + 1), u908.1, zw, zn, ez, u908.2, oz, (failS 4 (stS tx t3 gz) gz), sz) ⟨hmz_, (show (u518 + 1) ≤ t3 by omega), (show t2 ≤ (u518 + 1) by omega), (show RS kq s0 f0 xx u908.1 g50 zw cd zn (u518 + 1) from (rs_at xh912 (by omega))), hT_, hS_, hb_, (show RR tx t3 (failS 4 (stS tx t3 gz) gz) (u518 + 1) ez u908.1 u908.2 from xh915), (fun e => absurd e xh910), ho_, (fun _ => ⟨_, _, _, xh913⟩), (fun e => absurd (show mz = 0 from e) (by omega)), hF_⟩ (show 2 * (t3 - (u518 + 1)) + bz1 u908.1 + mz < 2 * (t3 - az) + bz1 bz + mz by omega)
          · refine j_callVv (pc := 31) C (c_M_opens_Y l D y mo ma t1 u518 t3 ez 0 pz i7 i8 i42 i49 cd zn oz (nI bs) i61 i64 i66 t67 i76 i78 zw 20 (nI u518) (by omega) (by omega) (by omega)) kw_Model_353 kv_Model_opens 0 10 rfl rfl ⟨by decide, by decide⟩ ⟨by decide, by decide⟩ (wr := [(ma 37, .inl (y 3, 3, .inl (WD 28))), (ma 38, .inl (y 3, 5, .inl (WD 29))), (ma 39, .inl (y 3, 5, .inl (WD 30))), (ma 40, .inl (y 3, 3, .inl (WD 31))), (ma 41, .inl (y 3, 3, .inl (WD 32))), (ma 50, .inl (y 0, 3200, .inl g50)), (ma 0, .inl (y 0, 1600, .inl (tby tx)))]) [7, 6] [0, 1, 2, 3, 4, 5, 8] rfl rfl (by decide +kernel) (by decide +kernel) (by decide +kernel) (As := [.int 20, .int (nI u518)]) (rest := []) rfl (nb rfl) rfl d_Model_onePart_31 (fun _ _ => ?_)
            refine j_ws (ws' := [(ma 37, .inl (y 3, 3, .inl (WD 28))), (ma 38, .inl (y 3, 5, .inl (WD 29))), (ma 39, .inl (y 3, 5, .inl (WD 30))), (ma 40, .inl (y 3, 3, .inl (WD 31))), (ma 41, .inl (y 3, 3, .inl (WD 32))), (ma 50, .inl (y 0, 3200, .inl g50)), (ma 0, .inl (y 0, 1600, .inl (tby tx))), MB mo ma (nI t1) (nI u518) (nI t3) ez 0 pz i7 i8 i42 i49 (nI cd) (nI (zn + 1)) (nI (oz + 1)) (nI bs) i61 i64 i66 (nI t67) i76 i78, (ma 52, .inl (y 0, 1700, .inl (upd zw zn 20)))]) rfl ?_
            have xh916 : RS kq s0 f0 xx 0 g50 (upd zw zn 20) cd (zn + 1) (u518 + 1) := rs_push (rs_at xh512 (show az ≤ u518 by omega)) (by decide)
            have xh917 : ITm (upd zw zn 20) bs := (it_up hT_ (by omega))
            have xh918 : ISm (upd zw zn 20) bs (zn + 1) := (is_up hS_ (by decide))
            have xh919 : WB (20 :: sz) (upd zw zn 20) bs (zn + 1) := wb_push xh515 (by decide)
            have xh920 : opn (20 :: sz) ≤ (oz + 1) := opn_push xh516
            refine j_aload_n (pc := 34) C d_Model_onePart_34 rfl 2 rfl ?_
            refine j_dup (pc := 35) C d_Model_onePart_35 rfl ?_
            refine j_get (pc := 36) C gf_Model_207 7 rfl rfl d_Model_onePart_36 ?_
            refine j_iconst (pc := 39) C (v := 1) d_Model_onePart_39 (by decide) ?_
            refine j_iadd (pc := 40) C (v := nI (u518 + 1)) d_Model_onePart_40 (nI_add _ _) ?_
            refine j_put (pc := 41) C pf_Model_207 7 (ws' := [(ma 37, .inl (y 3, 3, .inl (WD 28))), (ma 38, .inl (y 3, 5, .inl (WD 29))), (ma 39, .inl (y 3, 5, .inl (WD 30))), (ma 40, .inl (y 3, 3, .inl (WD 31))), (ma 41, .inl (y 3, 3, .inl (WD 32))), (ma 50, .inl (y 0, 3200, .inl g50)), (ma 0, .inl (y 0, 1600, .inl (tby tx))), MB mo ma (nI t1) (nI (u518 + 1)) (nI t3) ez 0 pz i7 i8 i42 i49 (nI cd) (nI (zn + 1)) (nI (oz + 1)) (nI bs) i61 i64 i66 (nI t67) i76 i78, (ma 52, .inl (y 0, 1700, .inl (upd zw zn 20)))]) rfl rfl rfl (nl rfl) rfl d_Model_onePart_41 ?_
            have xh921 : Rch tx t3 (0, (gs, cs, sk, oo)) (0, ((advS tx t3 gz), cs, (20 :: sz), (oz + 1))) := xh514.tr (Rch.st ((stP _ _ _ _).trans ((sP_40 xh906).trans (if_neg c907))) (Rch.rf _))
            have xh922 : RR tx t3 (advS tx t3 gz) (u518 + 1) ez 0 pz := (rr_adv xh522 he (sg_yes ((rr_z xh522).mp rfl) xh521 xh525 (show tx u518 = 40 by omega) (by decide)).2.2 (by decide) (sg_yes ((rr_z xh522).mp rfl) xh521 xh525 (show tx u518 = 40 by omega) (by decide)).2.1 (Or.inl ⟨rfl, rfl⟩))
            refine j_goto (pc := 44) C (tgt := 143) d_Model_onePart_44 (by decide) ?_
            refine j_goto (pc := 143) C (tgt := 2) d_Model_onePart_143 (by decide) ?_
            refine j_sub (ws' := [MB mo ma (nI t1) (nI (u518 + 1)) (nI t3) ez 0 pz i7 i8 i42 i49 (nI cd) (nI (zn + 1)) (nI (oz + 1)) (nI bs) i61 i64 i66 (nI t67) i76 i78, (ma 0, .inl (y 0, 1600, .inl (tby tx))), (ma 37, .inl (y 3, 3, .inl (WD 28))), (ma 38, .inl (y 3, 5, .inl (WD 29))), (ma 39, .inl (y 3, 5, .inl (WD 30))), (ma 40, .inl (y 3, 3, .inl (WD 31))), (ma 41, .inl (y 3, 3, .inl (WD 32))), (ma 50, .inl (y 0, 3200, .inl g50)), (ma 52, .inl (y 0, 1700, .inl (upd zw zn 20)))]) [7, 6, 0, 1, 2, 3, 4, 5, 8] rfl (by decide +kernel) ?_
            refine j_locs (lv' := [(1, .int (nI mz)), (0, .ref mo)]) [1, 2] rfl ?_
            have hz1 := bz_e c511
            have hz0 := bz_1
            have hz2 : bz1 0 = 0 ∨ az + 1 ≤ (u518 + 1) := Or.inr (by omega)
            exact ih456 (mz, (u518 + 1), 0, (upd zw zn 20), (zn + 1), ez, pz, (oz + 1), (advS tx t3 gz), (20 :: sz)) ⟨hmz_, (show (u518 + 1) ≤ t3 by omega), (show t2 ≤ (u518 + 1) by omega), (show RS kq s0 f0 xx 0 g50 (upd zw zn 20) cd (zn + 1) (u518 + 1) from (rs_at xh916 (by omega))), xh917, xh918, (show bs ≤ (zn + 1) by omega), (show RR tx t3 (advS tx t3 gz) (u518 + 1) ez 0 pz from xh922), (fun _ => ⟨xh921, xh919, xh920⟩), (show (oz + 1) ≤ 6 by omega), (fun e => absurd rfl e), (fun e => absurd (show mz = 0 from e) (by omega)), (fun j hj => (pk_un (show j ≠ zn by omega)).trans (hF_ j hj))⟩ (show 2 * (t3 - (u518 + 1)) + bz1 0 + mz < 2 * (t3 - az) + bz1 bz + mz by omega)
