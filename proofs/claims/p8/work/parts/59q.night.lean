/-- what is seen at a gate -/
def seT_ (tx : Nat → Nat) (g : Nat) : Nat := 256 * tx (2 * g) + tx (2 * g + 1)
/-- whether all flows are as seen -/
def SEEN (t : LA_) (bd : Nat → Nat) (dy wa : Nat) (tx : Nat → Nat) (n : Nat) : Prop := ∀ g, g < n → flowT t bd (wa / t.s 1) dy wa g = seT_ tx g
theorem mv_b1 {t : LA_} {b : Nat → Nat} {g : Nat} (h1 : 1 ≤ b g) (hj : t.r 6 g = 0 ∨ 1 ≤ b (t.r 6 g - 1)) (hn : ¬ t.r 6 g = g + 1) : ∀ j, mvB t (mvB t b g 1) g 2 j = b j := by
  intro j
  unfold mvB mvN upN
  by_cases c : t.r 6 g = 0
  · simp only [c]
    by_cases e : j = g <;> simp [e] <;> omega
  · have n2 : ¬ t.r 6 g - 1 = g := by omega
    have n3 : ¬ g = t.r 6 g - 1 := by omega
    have h2 := hj.resolve_left c
    simp only [if_neg c]
    by_cases e : j = g
    · subst e
      simp [n2, n3]
      omega
    · by_cases e2 : j = t.r 6 g - 1
      · subst e2
        simp [n2, n3]
        omega
      · simp [e, e2]
set_option maxHeartbeats 4000000 in
set_option maxRecDepth 100000 in
theorem c_mseenAt (l : Launch) (D : va_G) (y : Nat → ClassId) (mo : Nat) (ma : Nat → Nat) (t1 : Nat) (i2 : Int32) (i3 : Int32) (i4 : Int32) (i5 : Int32) (i6 : Int32) (i7 : Int32) (i8 : Int32) (i42 : Int32) (i49 : Int32) (i51 : Int32) (i53 : Int32) (i54 : Int32) (i59 : Int32) (i61 : Int32) (i64 : Int32) (i66 : Int32) (t67 : Nat) (i76 : Int64) (i78 : Int32) (tx : Nat → Nat) (gq : Nat) (hg : gq < 9) (hB : ∀ j, tx j < 256) : CT l D y ⟨"NineBoardsModel", "seenAt", "(I)I"⟩ prog_13_method_113_code 2 (some .int) ({ frames := 0, cells := 0, slots := 0, locals := 0 } : Room) [.ref mo, .int (nI gq)] [MB mo ma (nI t1) i2 i3 i4 i5 i6 i7 i8 i42 i49 i51 i53 i54 i59 i61 i64 i66 (nI t67) i76 i78, (ma 0, .inl (y 0, 1600, .inl (tby tx)))] (QI D [MB mo ma (nI t1) i2 i3 i4 i5 i6 i7 i8 i42 i49 i51 i53 i54 i59 i61 i64 i66 (nI t67) i76 i78, (ma 0, .inl (y 0, 1600, .inl (tby tx)))] (fun (r : Int32) (u : Unit) => r = nI (seT_ tx gq)) (fun _ => [MB mo ma (nI t1) i2 i3 i4 i5 i6 i7 i8 i42 i49 i51 i53 i54 i59 i61 i64 i66 (nI t67) i76 i78, (ma 0, .inl (y 0, 1600, .inl (tby tx)))])) := by
  refine CT.of (by decide) (nb rfl) ?_
  intro p e s m args below meth c C hr
  refine j_lv (lv' := [(0, .ref mo), (1, .int (nI gq))]) rfl ?_
  refine j_sipush (pc := 0) C (v := 256) d_Model_seenAt_0 (by decide) ?_
  refine j_aload_n (pc := 3) C d_Model_seenAt_3 rfl 0 rfl ?_
  refine j_get (pc := 4) C gf_Model_7 0 rfl rfl d_Model_seenAt_4 ?_
  refine j_iconst (pc := 7) C (v := 2) d_Model_seenAt_7 (by decide) ?_
  refine j_iload_n (pc := 8) C d_Model_seenAt_8 rfl 1 rfl ?_
  refine j_imul (pc := 9) C (v := nI (2 * gq)) d_Model_seenAt_9 (pk_mul _ _) ?_
  have xh1 := hB (2 * gq)
  refine j_iald (pc := 10) C 1 rfl (v := nI (tx (2 * gq))) (vp_in_nI (by omega) (by decide)) (by rw [nI_clamp (by omega)]; rfl) d_Model_seenAt_10 ?_
  refine j_imul (pc := 11) C (v := nI (256 * (tx (2 * gq)))) d_Model_seenAt_11 (pk_mul _ _) ?_
  refine j_aload_n (pc := 12) C d_Model_seenAt_12 rfl 0 rfl ?_
  refine j_get (pc := 13) C gf_Model_7 0 rfl rfl d_Model_seenAt_13 ?_
  refine j_iconst (pc := 16) C (v := 2) d_Model_seenAt_16 (by decide) ?_
  refine j_iload_n (pc := 17) C d_Model_seenAt_17 rfl 1 rfl ?_
  refine j_imul (pc := 18) C (v := nI (2 * gq)) d_Model_seenAt_18 (pk_mul _ _) ?_
  refine j_iconst (pc := 19) C (v := 1) d_Model_seenAt_19 (by decide) ?_
  refine j_iadd (pc := 20) C (v := nI ((2 * gq) + 1)) d_Model_seenAt_20 (nI_add _ _) ?_
  have xh2 := hB ((2 * gq) + 1)
  refine j_iald (pc := 21) C 1 rfl (v := nI (tx ((2 * gq) + 1))) (vp_in_nI (by omega) (by decide)) (by rw [nI_clamp (by omega)]; rfl) d_Model_seenAt_21 ?_
  refine j_iadd (pc := 22) C (v := nI ((256 * (tx (2 * gq))) + (tx ((2 * gq) + 1)))) d_Model_seenAt_22 (nI_add _ _) ?_
  exact j_iret (pc := 23) C hr rfl () rfl [0, 1] rfl (by decide) (by decide) (by decide) d_Model_seenAt_23
set_option maxHeartbeats 4000000 in
set_option maxRecDepth 100000 in
theorem c_mareSeen (l : Launch) (D : va_G) (y : Nat → ClassId) (mo : Nat) (ma : Nat → Nat) (t1 : Nat) (i2 : Int32) (i3 : Int32) (i4 : Int32) (i5 : Int32) (i6 : Int32) (i7 : Int32) (i8 : Int32) (i42 : Int32) (i49 : Int32) (i51 : Int32) (i53 : Int32) (i54 : Int32) (i59 : Int32) (i61 : Int32) (i64 : Int32) (i66 : Int32) (t67 : Nat) (i76 : Int64) (i78 : Int32) (g43 : Nat → Int32) (g62 : Nat → Int32) (gt : LA_) (dy : Nat) (wa : Nat) (la : Nat) (bd : Nat → Nat) (fl : Nat → Nat) (st : Nat → Nat) (wo : Nat → Int) (ly : Nat → Int) (se : Nat → Nat) (su : Nat → Nat) (hto : TOQ gt) (hnw : NW g62 0 dy wa la bd fl st wo ly se su) (hs_many : MC gt (fun j => g43 (4 + j))) (ht : t1 ≤ 1600) (hdy : dy ≤ 2000) : CT l D y ⟨"NineBoardsModel", "areSeen", "()Z"⟩ prog_13_method_112_code 2 (some .boolean) ({ frames := 1, cells := 0, slots := 0, locals := 20 } : Room) [.ref mo] [MB mo ma (nI t1) i2 i3 i4 i5 i6 i7 i8 i42 i49 i51 i53 i54 i59 i61 i64 i66 (nI t67) i76 i78, (ma 43, .inl (y 0, 8, .inl g43)), (ma 62, .inl (y 0, 63, .inl g62))] (QI D [MB mo ma (nI t1) i2 i3 i4 i5 i6 i7 i8 i42 i49 i51 i53 i54 i59 i61 i64 i66 (nI t67) i76 i78, (ma 43, .inl (y 0, 8, .inl g43)), (ma 62, .inl (y 0, 63, .inl g62))] (fun (r : Int32) (u : Unit) => ((r = 1 ∧ (t1 = 2 * gt.s 9 ∧ dy < 999)) ∨ (r = 0 ∧ ¬ (t1 = 2 * gt.s 9 ∧ dy < 999)))) (fun _ => [MB mo ma (nI 0) i2 i3 i4 i5 i6 i7 i8 i42 i49 i51 i53 i54 i59 i61 i64 i66 (nI t67) i76 i78, (ma 43, .inl (y 0, 8, .inl g43)), (ma 62, .inl (y 0, 63, .inl g62))])) := by
  refine CT.of (by decide) (nb rfl) ?_
  intro p e s m args below meth c C hr
  refine j_lv (lv' := [(0, .ref mo)]) rfl ?_
  obtain ⟨_, _, _, _, b9, b4, b10, b11⟩ := id hs_many
  obtain ⟨b1, b1x, b2, b2x, b3, b5, b6, b7, b8⟩ := to_n hto
  refine j_aload_n (pc := 0) C d_Model_areSeen_0 rfl 0 rfl ?_
  refine j_get (pc := 1) C gf_Model_198 0 rfl rfl d_Model_areSeen_1 ?_
  refine j_istore_n (pc := 4) C (lv' := [(1, .int (nI t1)), (0, .ref mo)]) d_Model_areSeen_4 rfl (by decide) rfl ?_
  refine j_aload_n (pc := 5) C d_Model_areSeen_5 rfl 1 rfl ?_
  refine j_iconst (pc := 6) C (v := 0) d_Model_areSeen_6 (by decide) ?_
  refine j_put (pc := 7) C pf_Model_198 0 (ws' := [MB mo ma 0 i2 i3 i4 i5 i6 i7 i8 i42 i49 i51 i53 i54 i59 i61 i64 i66 (nI t67) i76 i78, (ma 43, .inl (y 0, 8, .inl g43)), (ma 62, .inl (y 0, 63, .inl g62))]) rfl rfl rfl (nl rfl) rfl d_Model_areSeen_7 ?_
  refine j_iload_n (pc := 10) C d_Model_areSeen_10 rfl 0 rfl ?_
  refine j_iconst (pc := 11) C (v := 2) d_Model_areSeen_11 (by decide) ?_
  refine j_aload_n (pc := 12) C d_Model_areSeen_12 rfl 1 rfl ?_
  refine j_callVi (pc := 13) C (c_mgateMany l D y mo ma 0 i2 i3 i4 i5 i6 i7 i8 i42 i49 i51 i53 i54 i59 i61 i64 i66 t67 i76 i78 g43 gt hs_many) kw_Model_341 kv_Model_gateMany 0 10 rfl rfl ⟨by decide, by decide⟩ ⟨by decide, by decide⟩ (wr := [(ma 62, .inl (y 0, 63, .inl g62))]) [0, 1] [2] rfl rfl (by decide) (by decide) (by decide) (As := []) (rest := [.int 2, .int (nI t1)]) rfl (nb rfl) rfl d_Model_areSeen_13 (fun r1 _ hr1 => ?_)
  obtain rfl := hr1
  refine j_ws (ws' := [(ma 62, .inl (y 0, 63, .inl g62)), MB mo ma (nI 0) i2 i3 i4 i5 i6 i7 i8 i42 i49 i51 i53 i54 i59 i61 i64 i66 (nI t67) i76 i78, (ma 43, .inl (y 0, 8, .inl g43))]) rfl ?_
  refine j_imul (pc := 16) C (v := nI (2 * (gt.s 9))) d_Model_areSeen_16 (pk_mul _ _) ?_
  by_cases c2 : ¬ t1 = (2 * (gt.s 9))
  · refine j_icmp_neT (pc := 17) C (tgt := 36) d_Model_areSeen_17 (by decide) (show ¬ nI t1 = nI (2 * (gt.s 9)) from fun e => absurd ((nI_eq (by omega) (by omega)).mp e) (by omega)) ?_
    refine j_iconst (pc := 36) C (v := 0) d_Model_areSeen_36 (by decide) ?_
    exact j_iret (pc := 37) C hr (by decide) () (Or.inr ⟨rfl, by omega⟩) [1, 2, 0] rfl (by decide) (by decide) (by decide) d_Model_areSeen_37
  · refine j_icmp_neF (pc := 17) C (tgt := 36) d_Model_areSeen_17 (by decide) (show nI t1 = nI (2 * (gt.s 9)) from (nI_eq (by omega) (by omega)).mpr (by omega)) ?_
    refine j_aload_n (pc := 20) C d_Model_areSeen_20 rfl 1 rfl ?_
    refine j_get (pc := 21) C gf_Model_158 1 rfl rfl d_Model_areSeen_21 ?_
    refine j_iconst (pc := 24) C (v := 0) d_Model_areSeen_24 (by decide) ?_
    refine j_iald (pc := 25) C 0 rfl (v := nI dy) (vin (by decide)) (nw_dy hnw) d_Model_areSeen_25 ?_
    refine j_sipush (pc := 26) C (v := 999) d_Model_areSeen_26 (by decide) ?_
    by_cases c3 : 999 ≤ dy
    · refine j_icmp_geT (pc := 29) C (tgt := 36) d_Model_areSeen_29 (by decide) (show nI 999 ≤ nI dy from nI_le (by omega) (by omega)) ?_
      refine j_iconst (pc := 36) C (v := 0) d_Model_areSeen_36 (by decide) ?_
      exact j_iret (pc := 37) C hr (by decide) () (Or.inr ⟨rfl, by omega⟩) [1, 2, 0] rfl (by decide) (by decide) (by decide) d_Model_areSeen_37
    · refine j_icmp_geF (pc := 29) C (tgt := 36) d_Model_areSeen_29 (by decide) (show ¬ nI 999 ≤ nI dy from nI_ge (by omega) (by omega)) ?_
      refine j_iconst (pc := 32) C (v := 1) d_Model_areSeen_32 (by decide) ?_
      refine j_goto (pc := 33) C (tgt := 37) d_Model_areSeen_33 (by decide) ?_
      exact j_iret (pc := 37) C hr (by decide) () (Or.inl ⟨rfl, by omega⟩) [1, 2, 0] rfl (by decide) (by decide) (by decide) d_Model_areSeen_37
set_option maxHeartbeats 4000000 in
set_option maxRecDepth 100000 in
theorem c_misAsSeen (l : Launch) (D : va_G) (y : Nat → ClassId) (mo : Nat) (ma : Nat → Nat) (t1 : Nat) (i2 : Int32) (i3 : Int32) (i4 : Int32) (i5 : Int32) (i6 : Int32) (i7 : Int32) (i8 : Int32) (i42 : Int32) (i49 : Int32) (i51 : Int32) (i53 : Int32) (i54 : Int32) (i59 : Int32) (i61 : Int32) (i64 : Int32) (i66 : Int32) (t67 : Nat) (i76 : Int64) (i78 : Int32) (tx : Nat → Nat) (g43 : Nat → Int32) (g45 : Nat → Int32) (g46 : Nat → Int32) (g62 : Nat → Int32) (g63 : Nat → Int32) (gt : LA_) (dy : Nat) (wa : Nat) (la : Nat) (bd : Nat → Nat) (fl : Nat → Nat) (st : Nat → Nat) (wo : Nat → Int) (ly : Nat → Int) (se : Nat → Nat) (su : Nat → Nat) (hto : TOQ gt) (hnw : NW g62 0 dy wa la bd fl st wo ly se su) (hs_many : MC gt (fun j => g43 (4 + j))) (hs_lake : LR gt (fun j => g45 (7 + j))) (hs_gates : GR gt (fun j => g46 (54 + j))) (hbd : BN (gt.s 9) bd 20) (hdy : dy ≤ 2000) (hwa : wa ≤ 9999) (hB : ∀ j, tx j < 256) : CT l D y ⟨"NineBoardsModel", "isAsSeen", "()Z"⟩ prog_13_method_114_code 3 (some .boolean) ({ frames := 3, cells := 0, slots := 0, locals := 74 } : Room) [.ref mo] [MB mo ma (nI t1) i2 i3 i4 i5 i6 i7 i8 i42 i49 i51 i53 i54 i59 i61 i64 i66 (nI t67) i76 i78, (ma 0, .inl (y 0, 1600, .inl (tby tx))), (ma 43, .inl (y 0, 8, .inl g43)), (ma 45, .inl (y 0, 14, .inl g45)), (ma 46, .inl (y 0, 108, .inl g46)), (ma 62, .inl (y 0, 63, .inl g62)), (ma 63, .inl (y 0, 9, .inl g63))] (QI D [MB mo ma (nI t1) i2 i3 i4 i5 i6 i7 i8 i42 i49 i51 i53 i54 i59 i61 i64 i66 (nI t67) i76 i78, (ma 0, .inl (y 0, 1600, .inl (tby tx))), (ma 43, .inl (y 0, 8, .inl g43)), (ma 45, .inl (y 0, 14, .inl g45)), (ma 46, .inl (y 0, 108, .inl g46)), (ma 62, .inl (y 0, 63, .inl g62)), (ma 63, .inl (y 0, 9, .inl g63))] (fun (r : Int32) (u : Nat → Int32) => ((r = 1 ∧ (SEEN gt bd dy wa tx (gt.s 9))) ∨ (r = 0 ∧ ¬ (SEEN gt bd dy wa tx (gt.s 9))))) (fun u => [MB mo ma (nI t1) i2 i3 i4 i5 i6 i7 i8 i42 i49 i51 i53 i54 i59 i61 i64 i66 (nI t67) i76 i78, (ma 0, .inl (y 0, 1600, .inl (tby tx))), (ma 43, .inl (y 0, 8, .inl g43)), (ma 45, .inl (y 0, 14, .inl g45)), (ma 46, .inl (y 0, 108, .inl g46)), (ma 62, .inl (y 0, 63, .inl g62)), (ma 63, .inl (y 0, 9, .inl u))])) := by
  refine CT.of (by decide) (nb rfl) ?_
  intro p e s m args below meth c C hr
  refine j_lv (lv' := [(0, .ref mo)]) rfl ?_
  obtain ⟨_, _, _, _, b9, b4, b10, b11⟩ := id hs_many
  obtain ⟨b1, b1x, b2, b2x, b3, b5, b6, b7, b8⟩ := to_n hto
  refine j_aload_n (pc := 0) C d_Model_isAsSeen_0 rfl 0 rfl ?_
  refine j_callVi (pc := 1) C (c_mflowsNow l D y mo ma t1 i2 i3 i4 i5 i6 i7 i8 i42 i49 i51 i53 i54 i59 i61 i64 i66 t67 i76 i78 g43 g45 g46 g62 g63 gt dy wa la bd fl st wo ly se su hto hnw hs_many hs_lake hs_gates hbd hdy hwa) kw_Model_434 kv_Model_flowsNow 0 10 rfl rfl ⟨by decide, by decide⟩ ⟨by decide, by decide⟩ (wr := [(ma 0, .inl (y 0, 1600, .inl (tby tx)))]) [0, 2, 3, 4, 5, 6] [1] rfl rfl (by decide +kernel) (by decide +kernel) (by decide +kernel) (As := []) (rest := []) rfl (nb rfl) rfl d_Model_isAsSeen_1 (fun r1 u2 hr1 => ?_)
  obtain ⟨rfl, xh3⟩ := hr1
  refine j_ws (ws' := [(ma 0, .inl (y 0, 1600, .inl (tby tx))), MB mo ma (nI t1) i2 i3 i4 i5 i6 i7 i8 i42 i49 i51 i53 i54 i59 i61 i64 i66 (nI t67) i76 i78, (ma 43, .inl (y 0, 8, .inl g43)), (ma 45, .inl (y 0, 14, .inl g45)), (ma 46, .inl (y 0, 108, .inl g46)), (ma 62, .inl (y 0, 63, .inl g62)), (ma 63, .inl (y 0, 9, .inl u2))]) rfl ?_
  refine j_istore_n (pc := 4) C (lv' := [(1, .int (nI (leftT gt bd (wa / gt.s 1) dy wa (gt.s 9)))), (0, .ref mo)]) d_Model_isAsSeen_4 rfl (by decide) rfl ?_
  refine j_iconst (pc := 5) C (v := 0) d_Model_isAsSeen_5 (by decide) ?_
  refine j_istore_n (pc := 6) C (lv' := [(2, .int 0), (1, .int (nI (leftT gt bd (wa / gt.s 1) dy wa (gt.s 9)))), (0, .ref mo)]) d_Model_isAsSeen_6 rfl (by decide) rfl ?_
  refine j_loop (α := Nat) (fun a => gt.s 9 - a) (fun a => (a ≤ gt.s 9) ∧ (SEEN gt bd dy wa tx a)) (fun a => [(ma 0, .inl (y 0, 1600, .inl (tby tx))), MB mo ma (nI t1) i2 i3 i4 i5 i6 i7 i8 i42 i49 i51 i53 i54 i59 i61 i64 i66 (nI t67) i76 i78, (ma 43, .inl (y 0, 8, .inl g43)), (ma 45, .inl (y 0, 14, .inl g45)), (ma 46, .inl (y 0, 108, .inl g46)), (ma 62, .inl (y 0, 63, .inl g62)), (ma 63, .inl (y 0, 9, .inl u2))]) (fun a => [(2, .int (nI a)), (1, .int (nI (leftT gt bd (wa / gt.s 1) dy wa (gt.s 9)))), (0, .ref mo)]) (0) rfl rfl ⟨(show 0 ≤ gt.s 9 by omega), (fun g hg => absurd hg (Nat.not_lt_zero _))⟩ ?_
  rintro iz hP8 ih9
  obtain ⟨hi__, hs__⟩ := hP8
  have hi_ : iz ≤ gt.s 9 := hi__
  have hs_ : SEEN gt bd dy wa tx iz := hs__
  refine j_ws (ws' := [(ma 0, .inl (y 0, 1600, .inl (tby tx))), MB mo ma (nI t1) i2 i3 i4 i5 i6 i7 i8 i42 i49 i51 i53 i54 i59 i61 i64 i66 (nI t67) i76 i78, (ma 43, .inl (y 0, 8, .inl g43)), (ma 45, .inl (y 0, 14, .inl g45)), (ma 46, .inl (y 0, 108, .inl g46)), (ma 62, .inl (y 0, 63, .inl g62)), (ma 63, .inl (y 0, 9, .inl u2))]) rfl ?_
  refine j_lv (lv' := [(2, .int (nI iz)), (1, .int (nI (leftT gt bd (wa / gt.s 1) dy wa (gt.s 9)))), (0, .ref mo)]) rfl ?_
  refine j_iload_n (pc := 7) C d_Model_isAsSeen_7 rfl 0 rfl ?_
  refine j_aload_n (pc := 8) C d_Model_isAsSeen_8 rfl 2 rfl ?_
  refine j_callVi (pc := 9) C (c_mgateMany l D y mo ma t1 i2 i3 i4 i5 i6 i7 i8 i42 i49 i51 i53 i54 i59 i61 i64 i66 t67 i76 i78 g43 gt hs_many) kw_Model_341 kv_Model_gateMany 0 10 rfl rfl ⟨by decide, by decide⟩ ⟨by decide, by decide⟩ (wr := [(ma 0, .inl (y 0, 1600, .inl (tby tx))), (ma 45, .inl (y 0, 14, .inl g45)), (ma 46, .inl (y 0, 108, .inl g46)), (ma 62, .inl (y 0, 63, .inl g62)), (ma 63, .inl (y 0, 9, .inl u2))]) [1, 2] [0, 3, 4, 5, 6] rfl rfl (by decide +kernel) (by decide +kernel) (by decide +kernel) (As := []) (rest := [.int (nI iz)]) rfl (nb rfl) rfl d_Model_isAsSeen_9 (fun r10 _ hr10 => ?_)
  obtain rfl := hr10
  refine j_ws (ws' := [(ma 0, .inl (y 0, 1600, .inl (tby tx))), (ma 45, .inl (y 0, 14, .inl g45)), (ma 46, .inl (y 0, 108, .inl g46)), (ma 62, .inl (y 0, 63, .inl g62)), (ma 63, .inl (y 0, 9, .inl u2)), MB mo ma (nI t1) i2 i3 i4 i5 i6 i7 i8 i42 i49 i51 i53 i54 i59 i61 i64 i66 (nI t67) i76 i78, (ma 43, .inl (y 0, 8, .inl g43))]) rfl ?_
  by_cases c11 : (gt.s 9) ≤ iz
  · refine j_icmp_geT (pc := 12) C (tgt := 37) d_Model_isAsSeen_12 (by decide) (show nI (gt.s 9) ≤ nI iz from nI_le (by omega) (by omega)) ?_
    refine j_iconst (pc := 37) C (v := 1) d_Model_isAsSeen_37 (by decide) ?_
    exact j_iret (pc := 38) C hr (by decide) u2 (Or.inl ⟨rfl, (show gt.s 9 = iz by omega) ▸ hs_⟩) [5, 0, 6, 1, 2, 3, 4] rfl (by decide) (by decide) (by decide) d_Model_isAsSeen_38
  · refine j_icmp_geF (pc := 12) C (tgt := 37) d_Model_isAsSeen_12 (by decide) (show ¬ nI (gt.s 9) ≤ nI iz from nI_ge (by omega) (by omega)) ?_
    refine j_aload_n (pc := 15) C d_Model_isAsSeen_15 rfl 2 rfl ?_
    refine j_get (pc := 16) C gf_Model_161 5 rfl rfl d_Model_isAsSeen_16 ?_
    refine j_iload_n (pc := 19) C d_Model_isAsSeen_19 rfl 0 rfl ?_
    refine j_iald (pc := 20) C 4 rfl (v := nI ((flowT gt bd (wa / gt.s 1) dy wa) iz)) (vp_in_nI (by omega) (by decide)) (by rw [nI_clamp (by omega)]; exact (xh3 iz (by omega))) d_Model_isAsSeen_20 ?_
    refine j_aload_n (pc := 21) C d_Model_isAsSeen_21 rfl 2 rfl ?_
    refine j_iload_n (pc := 22) C d_Model_isAsSeen_22 rfl 0 rfl ?_
    refine j_callVi (pc := 23) C (c_mseenAt l D y mo ma t1 i2 i3 i4 i5 i6 i7 i8 i42 i49 i51 i53 i54 i59 i61 i64 i66 t67 i76 i78 tx iz (by omega) hB) kw_Model_558 kv_Model_seenAt 0 10 rfl rfl ⟨by decide, by decide⟩ ⟨by decide, by decide⟩ (wr := [(ma 45, .inl (y 0, 14, .inl g45)), (ma 46, .inl (y 0, 108, .inl g46)), (ma 62, .inl (y 0, 63, .inl g62)), (ma 63, .inl (y 0, 9, .inl u2)), (ma 43, .inl (y 0, 8, .inl g43))]) [5, 0] [1, 2, 3, 4, 6] rfl rfl (by decide +kernel) (by decide +kernel) (by decide +kernel) (As := [.int (nI iz)]) (rest := [.int (nI ((flowT gt bd (wa / gt.s 1) dy wa) iz))]) rfl (nb rfl) rfl d_Model_isAsSeen_23 (fun r12 _ hr12 => ?_)
    obtain rfl := hr12
    refine j_ws (ws' := [(ma 45, .inl (y 0, 14, .inl g45)), (ma 46, .inl (y 0, 108, .inl g46)), (ma 62, .inl (y 0, 63, .inl g62)), (ma 63, .inl (y 0, 9, .inl u2)), (ma 43, .inl (y 0, 8, .inl g43)), MB mo ma (nI t1) i2 i3 i4 i5 i6 i7 i8 i42 i49 i51 i53 i54 i59 i61 i64 i66 (nI t67) i76 i78, (ma 0, .inl (y 0, 1600, .inl (tby tx)))]) rfl ?_
    have hflb : flowT gt bd (wa / gt.s 1) dy wa iz ≤ wa := flow_w
    have hsb : seT_ tx iz < 65536 := by have := hB (2 * iz); have := hB (2 * iz + 1); unfold seT_; omega
    by_cases c13 : ((flowT gt bd (wa / gt.s 1) dy wa) iz) = (seT_ tx iz)
    · refine j_icmp_eqT (pc := 26) C (tgt := 31) d_Model_isAsSeen_26 (by decide) (show nI ((flowT gt bd (wa / gt.s 1) dy wa) iz) = nI (seT_ tx iz) from (nI_eq (by omega) (by omega)).mpr (by omega)) ?_
      refine j_iinc (pc := 31) C (v := nI (iz + 1)) (lv' := [(2, .int (nI (iz + 1))), (1, .int (nI (leftT gt bd (wa / gt.s 1) dy wa (gt.s 9)))), (0, .ref mo)]) d_Model_isAsSeen_31 0 rfl (nI_add _ _) (by decide) rfl ?_
      refine j_goto (pc := 34) C (tgt := 7) d_Model_isAsSeen_34 (by decide) ?_
      refine j_sub (ws' := [(ma 0, .inl (y 0, 1600, .inl (tby tx))), MB mo ma (nI t1) i2 i3 i4 i5 i6 i7 i8 i42 i49 i51 i53 i54 i59 i61 i64 i66 (nI t67) i76 i78, (ma 43, .inl (y 0, 8, .inl g43)), (ma 45, .inl (y 0, 14, .inl g45)), (ma 46, .inl (y 0, 108, .inl g46)), (ma 62, .inl (y 0, 63, .inl g62)), (ma 63, .inl (y 0, 9, .inl u2))]) [6, 5, 4, 0, 1, 2, 3] rfl (by decide +kernel) ?_
      exact ih9 ((iz + 1)) ⟨(show (iz + 1) ≤ gt.s 9 by omega), (fun g hg => if e : g = iz then (by rw [e]; omega) else hs_ g (by omega))⟩ (show gt.s 9 - (iz + 1) < gt.s 9 - iz by omega)
    · refine j_icmp_eqF (pc := 26) C (tgt := 31) d_Model_isAsSeen_26 (by decide) (show ¬ nI ((flowT gt bd (wa / gt.s 1) dy wa) iz) = nI (seT_ tx iz) from fun e => absurd ((nI_eq (by omega) (by omega)).mp e) (by omega)) ?_
      refine j_iconst (pc := 29) C (v := 0) d_Model_isAsSeen_29 (by decide) ?_
      exact j_iret (pc := 30) C hr (by decide) u2 (Or.inr ⟨rfl, fun q => by have := q iz (by omega); omega⟩) [5, 6, 4, 0, 1, 2, 3] rfl (by decide) (by decide) (by decide) d_Model_isAsSeen_30
set_option maxHeartbeats 4000000 in
set_option maxRecDepth 100000 in
theorem c_m_thief (l : Launch) (D : va_G) (y : Nat → ClassId) (mo : Nat) (ma : Nat → Nat) (t1 : Nat) (i2 : Int32) (i3 : Int32) (i4 : Int32) (i5 : Int32) (i6 : Int32) (i7 : Int32) (i8 : Int32) (i42 : Int32) (i49 : Int32) (i51 : Int32) (i53 : Int32) (i54 : Int32) (i59 : Int32) (i61 : Int32) (i64 : Int32) (i66 : Int32) (t67 : Nat) (i76 : Int64) (i78 : Int32) (tx : Nat → Nat) (g43 : Nat → Int32) (g45 : Nat → Int32) (g46 : Nat → Int32) (g62 : Nat → Int32) (g63 : Nat → Int32) (gt : LA_) (dy : Nat) (wa : Nat) (la : Nat) (bd : Nat → Nat) (fl : Nat → Nat) (st : Nat → Nat) (wo : Nat → Int) (ly : Nat → Int) (se : Nat → Nat) (su : Nat → Nat) (hto : TOQ gt) (hnw : NW g62 0 dy wa la bd fl st wo ly se su) (hs_many : MC gt (fun j => g43 (4 + j))) (hs_lake : LR gt (fun j => g45 (7 + j))) (hs_gates : GR gt (fun j => g46 (54 + j))) (hbd : BN (gt.s 9) bd 20) (hdy : dy ≤ 2000) (hwa : wa ≤ 9999) (hB : ∀ j, tx j < 256) (ht : t1 ≤ 1600) : CT l D y ⟨"NineBoardsModel", "thief", "()I"⟩ prog_13_method_115_code 3 (some .int) ({ frames := 4, cells := 0, slots := 0, locals := 96 } : Room) [.ref mo] [MB mo ma (nI t1) i2 i3 i4 i5 i6 i7 i8 i42 i49 i51 i53 i54 i59 i61 i64 i66 (nI t67) i76 i78, (ma 0, .inl (y 0, 1600, .inl (tby tx))), (ma 43, .inl (y 0, 8, .inl g43)), (ma 45, .inl (y 0, 14, .inl g45)), (ma 46, .inl (y 0, 108, .inl g46)), (ma 62, .inl (y 0, 63, .inl g62)), (ma 63, .inl (y 0, 9, .inl g63))] (QI D [MB mo ma (nI t1) i2 i3 i4 i5 i6 i7 i8 i42 i49 i51 i53 i54 i59 i61 i64 i66 (nI t67) i76 i78, (ma 0, .inl (y 0, 1600, .inl (tby tx))), (ma 43, .inl (y 0, 8, .inl g43)), (ma 45, .inl (y 0, 14, .inl g45)), (ma 46, .inl (y 0, 108, .inl g46)), (ma 62, .inl (y 0, 63, .inl g62)), (ma 63, .inl (y 0, 9, .inl g63))] (fun (r : Int32) (u : (Nat → Int32) × (Nat → Int32)) => NW u.1 0 dy wa la bd fl st wo ly se su) (fun u => [MB mo ma (nI 0) i2 i3 i4 i5 i6 i7 i8 i42 i49 i51 i53 i54 i59 i61 i64 i66 (nI t67) i76 i78, (ma 0, .inl (y 0, 1600, .inl (tby tx))), (ma 43, .inl (y 0, 8, .inl g43)), (ma 45, .inl (y 0, 14, .inl g45)), (ma 46, .inl (y 0, 108, .inl g46)), (ma 62, .inl (y 0, 63, .inl u.1)), (ma 63, .inl (y 0, 9, .inl u.2))])) := by
  refine CT.of (by decide) (nb rfl) ?_
  intro p e s m args below meth c C hr
  refine j_lv (lv' := [(0, .ref mo)]) rfl ?_
  obtain ⟨_, _, _, _, b9, b4, b10, b11⟩ := id hs_many
  obtain ⟨b1, b1x, b2, b2x, b3, b5, b6, b7, b8⟩ := to_n hto
  refine j_aload_n (pc := 0) C d_Model_thief_0 rfl 0 rfl ?_
  refine j_callVi (pc := 1) C (c_mareSeen l D y mo ma t1 i2 i3 i4 i5 i6 i7 i8 i42 i49 i51 i53 i54 i59 i61 i64 i66 t67 i76 i78 g43 g62 gt dy wa la bd fl st wo ly se su hto hnw hs_many ht hdy) kw_Model_561 kv_Model_areSeen 0 10 rfl rfl ⟨by decide, by decide⟩ ⟨by decide, by decide⟩ (wr := [(ma 0, .inl (y 0, 1600, .inl (tby tx))), (ma 45, .inl (y 0, 14, .inl g45)), (ma 46, .inl (y 0, 108, .inl g46)), (ma 63, .inl (y 0, 9, .inl g63))]) [0, 2, 5] [1, 3, 4, 6] rfl rfl (by decide +kernel) (by decide +kernel) (by decide +kernel) (As := []) (rest := []) rfl (nb rfl) rfl d_Model_thief_1 (fun r1 _ hr1 => ?_)
  refine j_ws (ws' := [(ma 0, .inl (y 0, 1600, .inl (tby tx))), (ma 45, .inl (y 0, 14, .inl g45)), (ma 46, .inl (y 0, 108, .inl g46)), (ma 63, .inl (y 0, 9, .inl g63)), MB mo ma (nI 0) i2 i3 i4 i5 i6 i7 i8 i42 i49 i51 i53 i54 i59 i61 i64 i66 (nI t67) i76 i78, (ma 43, .inl (y 0, 8, .inl g43)), (ma 62, .inl (y 0, 63, .inl g62))]) rfl ?_
  rcases hr1 with ⟨rfl, xh3⟩ | ⟨rfl, xh4⟩
  · refine j_if_neT (pc := 4) C (tgt := 9) d_Model_thief_4 (by decide) (by decide) ?_
    refine j_aload_n (pc := 9) C d_Model_thief_9 rfl 0 rfl ?_
    refine j_callVi (pc := 10) C (c_misAsSeen l D y mo ma 0 i2 i3 i4 i5 i6 i7 i8 i42 i49 i51 i53 i54 i59 i61 i64 i66 t67 i76 i78 tx g43 g45 g46 g62 g63 gt dy wa la bd fl st wo ly se su hto hnw hs_many hs_lake hs_gates hbd hdy hwa hB) kw_Model_564 kv_Model_isAsSeen 0 10 rfl rfl ⟨by decide, by decide⟩ ⟨by decide, by decide⟩ (wr := []) [4, 0, 5, 1, 2, 6, 3] [] rfl rfl (by decide +kernel) (by decide +kernel) (by decide +kernel) (As := []) (rest := []) rfl (nb rfl) rfl d_Model_thief_10 (fun r5 u6 hr5 => ?_)
    refine j_ws (ws' := [MB mo ma (nI 0) i2 i3 i4 i5 i6 i7 i8 i42 i49 i51 i53 i54 i59 i61 i64 i66 (nI t67) i76 i78, (ma 0, .inl (y 0, 1600, .inl (tby tx))), (ma 43, .inl (y 0, 8, .inl g43)), (ma 45, .inl (y 0, 14, .inl g45)), (ma 46, .inl (y 0, 108, .inl g46)), (ma 62, .inl (y 0, 63, .inl g62)), (ma 63, .inl (y 0, 9, .inl u6))]) rfl ?_
    rcases hr5 with ⟨rfl, xh8⟩ | ⟨rfl, xh9⟩
    · refine j_if_eqF (pc := 13) C (tgt := 22) d_Model_thief_13 (by decide) (by decide) ?_
      refine j_sipush (pc := 16) C (v := 512) d_Model_thief_16 (by decide) ?_
      refine j_goto (pc := 19) C (tgt := 23) d_Model_thief_19 (by decide) ?_
      refine j_istore_n (pc := 23) C (lv' := [(1, .int 512), (0, .ref mo)]) d_Model_thief_23 rfl (by decide) rfl ?_
      refine j_iconst (pc := 24) C (v := 0) d_Model_thief_24 (by decide) ?_
      refine j_istore_n (pc := 25) C (lv' := [(2, .int 0), (1, .int 512), (0, .ref mo)]) d_Model_thief_25 rfl (by decide) rfl ?_
      refine j_loop (α := Nat × (Nat → Int32) × Int32 × (Nat → Int32)) (fun a => gt.s 9 - a.1) (fun a => (a.1 ≤ gt.s 9) ∧ (NW a.2.1 0 dy wa la bd fl st wo ly se su)) (fun a => [MB mo ma (nI 0) i2 i3 i4 i5 i6 i7 i8 i42 i49 i51 i53 i54 i59 i61 i64 i66 (nI t67) i76 i78, (ma 0, .inl (y 0, 1600, .inl (tby tx))), (ma 43, .inl (y 0, 8, .inl g43)), (ma 45, .inl (y 0, 14, .inl g45)), (ma 46, .inl (y 0, 108, .inl g46)), (ma 62, .inl (y 0, 63, .inl a.2.1)), (ma 63, .inl (y 0, 9, .inl a.2.2.2))]) (fun a => [(2, .int (nI a.1)), (1, .int a.2.2.1), (0, .ref mo)]) (0, g62, 512, u6) rfl rfl ⟨(show 0 ≤ gt.s 9 by omega), hnw⟩ ?_
      rintro ⟨iz, nz, vz, z30⟩ hP51 ih52
      obtain ⟨hi__, hn__⟩ := hP51
      have hi_ : iz ≤ gt.s 9 := hi__
      have hn_ : NW nz 0 dy wa la bd fl st wo ly se su := hn__
      refine j_ws (ws' := [MB mo ma (nI 0) i2 i3 i4 i5 i6 i7 i8 i42 i49 i51 i53 i54 i59 i61 i64 i66 (nI t67) i76 i78, (ma 0, .inl (y 0, 1600, .inl (tby tx))), (ma 43, .inl (y 0, 8, .inl g43)), (ma 45, .inl (y 0, 14, .inl g45)), (ma 46, .inl (y 0, 108, .inl g46)), (ma 62, .inl (y 0, 63, .inl nz)), (ma 63, .inl (y 0, 9, .inl z30))]) rfl ?_
      refine j_lv (lv' := [(2, .int (nI iz)), (1, .int vz), (0, .ref mo)]) rfl ?_
      refine j_iload_n (pc := 26) C d_Model_thief_26 rfl 0 rfl ?_
      refine j_aload_n (pc := 27) C d_Model_thief_27 rfl 2 rfl ?_
      refine j_callVi (pc := 28) C (c_mgateMany l D y mo ma 0 i2 i3 i4 i5 i6 i7 i8 i42 i49 i51 i53 i54 i59 i61 i64 i66 t67 i76 i78 g43 gt hs_many) kw_Model_341 kv_Model_gateMany 0 10 rfl rfl ⟨by decide, by decide⟩ ⟨by decide, by decide⟩ (wr := [(ma 0, .inl (y 0, 1600, .inl (tby tx))), (ma 45, .inl (y 0, 14, .inl g45)), (ma 46, .inl (y 0, 108, .inl g46)), (ma 62, .inl (y 0, 63, .inl nz)), (ma 63, .inl (y 0, 9, .inl z30))]) [0, 2] [1, 3, 4, 5, 6] rfl rfl (by decide +kernel) (by decide +kernel) (by decide +kernel) (As := []) (rest := [.int (nI iz)]) rfl (nb rfl) rfl d_Model_thief_28 (fun r53 _ hr53 => ?_)
      obtain rfl := hr53
      refine j_ws (ws' := [(ma 0, .inl (y 0, 1600, .inl (tby tx))), (ma 45, .inl (y 0, 14, .inl g45)), (ma 46, .inl (y 0, 108, .inl g46)), (ma 62, .inl (y 0, 63, .inl nz)), (ma 63, .inl (y 0, 9, .inl z30)), MB mo ma (nI 0) i2 i3 i4 i5 i6 i7 i8 i42 i49 i51 i53 i54 i59 i61 i64 i66 (nI t67) i76 i78, (ma 43, .inl (y 0, 8, .inl g43))]) rfl ?_
      by_cases c54 : (gt.s 9) ≤ iz
      · refine j_icmp_geT (pc := 31) C (tgt := 79) d_Model_thief_31 (by decide) (show nI (gt.s 9) ≤ nI iz from nI_le (by omega) (by omega)) ?_
        refine j_iload_n (pc := 79) C d_Model_thief_79 rfl 1 rfl ?_
        exact j_iret (pc := 80) C hr rfl (nz, z30) hn_ [5, 0, 6, 1, 2, 3, 4] rfl (by decide) (by decide) (by decide) d_Model_thief_80
      · refine j_icmp_geF (pc := 31) C (tgt := 79) d_Model_thief_31 (by decide) (show ¬ nI (gt.s 9) ≤ nI iz from nI_ge (by omega) (by omega)) ?_
        refine j_aload_n (pc := 34) C d_Model_thief_34 rfl 2 rfl ?_
        refine j_iload_n (pc := 35) C d_Model_thief_35 rfl 0 rfl ?_
        refine j_iconst (pc := 36) C (v := 1) d_Model_thief_36 (by decide) ?_
        refine j_bipush (pc := 37) C (v := 20) d_Model_thief_37 (by decide) ?_
        refine j_callVi (pc := 39) C (c_mareBoards l D y mo ma 0 i2 i3 i4 i5 i6 i7 i8 i42 i49 i51 i53 i54 i59 i61 i64 i66 t67 i76 i78 g46 nz iz 1 20 gt dy wa la bd fl st wo ly se su hto hn_ hs_gates (by omega) (by omega) hbd (by omega) (by omega)) kw_Model_424 kv_Model_areBoards 0 10 rfl rfl ⟨by decide, by decide⟩ ⟨by decide, by decide⟩ (wr := [(ma 0, .inl (y 0, 1600, .inl (tby tx))), (ma 45, .inl (y 0, 14, .inl g45)), (ma 63, .inl (y 0, 9, .inl z30)), (ma 43, .inl (y 0, 8, .inl g43))]) [5, 2, 3] [0, 1, 4, 6] rfl rfl (by decide +kernel) (by decide +kernel) (by decide +kernel) (As := [.int (nI iz), .int 1, .int 20]) (rest := []) rfl (nb rfl) rfl d_Model_thief_39 (fun r55 _ hr55 => ?_)
        refine j_ws (ws' := [(ma 0, .inl (y 0, 1600, .inl (tby tx))), (ma 45, .inl (y 0, 14, .inl g45)), (ma 63, .inl (y 0, 9, .inl z30)), (ma 43, .inl (y 0, 8, .inl g43)), MB mo ma (nI 0) i2 i3 i4 i5 i6 i7 i8 i42 i49 i51 i53 i54 i59 i61 i64 i66 (nI t67) i76 i78, (ma 46, .inl (y 0, 108, .inl g46)), (ma 62, .inl (y 0, 63, .inl nz))]) rfl ?_
        rcases hr55 with ⟨rfl, xh57⟩ | ⟨rfl, xh58⟩
        · refine j_if_neT (pc := 42) C (tgt := 48) d_Model_thief_42 (by decide) (by decide) ?_
          have hjz := (to_j hto iz (by omega)).2
          have hmv := mv_b1 (t := gt) (b := bd) (g := iz) (by omega) (by omega) hjz
          have hbm : BN (gt.s 9) (mvB gt bd iz 1) 20 := lose_bn hbd (to_j hto iz (by omega))
          refine j_aload_n (pc := 48) C d_Model_thief_48 rfl 2 rfl ?_
          refine j_iload_n (pc := 49) C d_Model_thief_49 rfl 0 rfl ?_
          refine j_iconst (pc := 50) C (v := (-1)) d_Model_thief_50 (by decide) ?_
          refine j_callVv (pc := 51) C (c_malters_1 l D y mo ma 0 i2 i3 i4 i5 i6 i7 i8 i42 i49 i51 i53 i54 i59 i61 i64 i66 t67 i76 i78 g46 nz iz gt dy wa la bd fl st wo ly se su hto hn_ hs_gates (by omega) (by omega) (by omega) (by omega)) kw_Model_454 kv_Model_alters 0 10 rfl rfl ⟨by decide, by decide⟩ ⟨by decide, by decide⟩ (wr := [(ma 0, .inl (y 0, 1600, .inl (tby tx))), (ma 45, .inl (y 0, 14, .inl g45)), (ma 63, .inl (y 0, 9, .inl z30)), (ma 43, .inl (y 0, 8, .inl g43))]) [4, 5, 6] [0, 1, 2, 3] rfl rfl (by decide +kernel) (by decide +kernel) (by decide +kernel) (As := [.int (nI iz), .int (-1)]) (rest := []) rfl (nb rfl) rfl d_Model_thief_51 (fun u59 hu60 => ?_)
          have xh61 := hu60
          refine j_ws (ws' := [(ma 0, .inl (y 0, 1600, .inl (tby tx))), (ma 45, .inl (y 0, 14, .inl g45)), (ma 63, .inl (y 0, 9, .inl z30)), (ma 43, .inl (y 0, 8, .inl g43)), MB mo ma (nI 0) i2 i3 i4 i5 i6 i7 i8 i42 i49 i51 i53 i54 i59 i61 i64 i66 (nI t67) i76 i78, (ma 46, .inl (y 0, 108, .inl g46)), (ma 62, .inl (y 0, 63, .inl u59))]) rfl ?_
          refine j_aload_n (pc := 54) C d_Model_thief_54 rfl 2 rfl ?_
          refine j_callVi (pc := 55) C (c_misAsSeen l D y mo ma 0 i2 i3 i4 i5 i6 i7 i8 i42 i49 i51 i53 i54 i59 i61 i64 i66 t67 i76 i78 tx g43 g45 g46 u59 z30 gt dy wa la (mvB gt bd iz 1) fl st wo ly se su hto xh61 hs_many hs_lake hs_gates hbm hdy hwa hB) kw_Model_564 kv_Model_isAsSeen 0 10 rfl rfl ⟨by decide, by decide⟩ ⟨by decide, by decide⟩ (wr := []) [4, 0, 3, 1, 5, 6, 2] [] rfl rfl (by decide +kernel) (by decide +kernel) (by decide +kernel) (As := []) (rest := []) rfl (nb rfl) rfl d_Model_thief_55 (fun r62 u63 hr62 => ?_)
          refine j_ws (ws' := [MB mo ma (nI 0) i2 i3 i4 i5 i6 i7 i8 i42 i49 i51 i53 i54 i59 i61 i64 i66 (nI t67) i76 i78, (ma 0, .inl (y 0, 1600, .inl (tby tx))), (ma 43, .inl (y 0, 8, .inl g43)), (ma 45, .inl (y 0, 14, .inl g45)), (ma 46, .inl (y 0, 108, .inl g46)), (ma 62, .inl (y 0, 63, .inl u59)), (ma 63, .inl (y 0, 9, .inl u63))]) rfl ?_
          rcases hr62 with ⟨rfl, xh65⟩ | ⟨rfl, xh66⟩
          · refine j_if_eqF (pc := 58) C (tgt := 67) d_Model_thief_58 (by decide) (by decide) ?_
            refine j_iload_n (pc := 61) C d_Model_thief_61 rfl 1 rfl ?_
            refine j_iconst (pc := 62) C (v := 1) d_Model_thief_62 (by decide) ?_
            refine j_iload_n (pc := 63) C d_Model_thief_63 rfl 0 rfl ?_
            refine j_ishl (pc := 64) C (v := 1 <<< ((nI iz) &&& 31)) d_Model_thief_64 rfl ?_
            refine j_ior (pc := 65) C (v := vz ||| (1 <<< ((nI iz) &&& 31))) d_Model_thief_65 rfl ?_
            refine j_istore_n (pc := 66) C (lv' := [(1, .int (vz ||| (1 <<< ((nI iz) &&& 31)))), (2, .int (nI iz)), (0, .ref mo)]) d_Model_thief_66 rfl (by decide) rfl ?_
            refine j_aload_n (pc := 67) C d_Model_thief_67 rfl 2 rfl ?_
            refine j_iload_n (pc := 68) C d_Model_thief_68 rfl 1 rfl ?_
            refine j_iconst (pc := 69) C (v := 1) d_Model_thief_69 (by decide) ?_
            refine j_callVv (pc := 70) C (c_malters_2 l D y mo ma 0 i2 i3 i4 i5 i6 i7 i8 i42 i49 i51 i53 i54 i59 i61 i64 i66 t67 i76 i78 g46 u59 iz gt dy wa la (mvB gt bd iz 1) fl st wo ly se su hto xh61 hs_gates (by omega) (by omega)) kw_Model_454 kv_Model_alters 0 10 rfl rfl ⟨by decide, by decide⟩ ⟨by decide, by decide⟩ (wr := [(ma 0, .inl (y 0, 1600, .inl (tby tx))), (ma 43, .inl (y 0, 8, .inl g43)), (ma 45, .inl (y 0, 14, .inl g45)), (ma 63, .inl (y 0, 9, .inl u63))]) [0, 4, 5] [1, 2, 3, 6] rfl rfl (by decide +kernel) (by decide +kernel) (by decide +kernel) (As := [.int (nI iz), .int 1]) (rest := []) rfl (nb rfl) rfl d_Model_thief_70 (fun u67 hu68 => ?_)
            have xh69 := hu68
            refine j_ws (ws' := [(ma 0, .inl (y 0, 1600, .inl (tby tx))), (ma 43, .inl (y 0, 8, .inl g43)), (ma 45, .inl (y 0, 14, .inl g45)), (ma 63, .inl (y 0, 9, .inl u63)), MB mo ma (nI 0) i2 i3 i4 i5 i6 i7 i8 i42 i49 i51 i53 i54 i59 i61 i64 i66 (nI t67) i76 i78, (ma 46, .inl (y 0, 108, .inl g46)), (ma 62, .inl (y 0, 63, .inl u67))]) rfl ?_
            refine j_iinc (pc := 73) C (v := nI (iz + 1)) (lv' := [(2, .int (nI (iz + 1))), (1, .int (vz ||| (1 <<< ((nI iz) &&& 31)))), (0, .ref mo)]) d_Model_thief_73 1 rfl (nI_add _ _) (by decide) rfl ?_
            refine j_goto (pc := 76) C (tgt := 26) d_Model_thief_76 (by decide) ?_
            refine j_sub (ws' := [MB mo ma (nI 0) i2 i3 i4 i5 i6 i7 i8 i42 i49 i51 i53 i54 i59 i61 i64 i66 (nI t67) i76 i78, (ma 0, .inl (y 0, 1600, .inl (tby tx))), (ma 43, .inl (y 0, 8, .inl g43)), (ma 45, .inl (y 0, 14, .inl g45)), (ma 46, .inl (y 0, 108, .inl g46)), (ma 62, .inl (y 0, 63, .inl u67)), (ma 63, .inl (y 0, 9, .inl u63))]) [4, 0, 1, 2, 5, 6, 3] rfl (by decide +kernel) ?_
            exact ih52 ((iz + 1), u67, vz ||| (1 <<< ((nI iz) &&& 31)), u63) ⟨(show (iz + 1) ≤ gt.s 9 by omega), (nw_e xh69 (fun j _ => hmv j) (fun _ _ => rfl) (fun _ _ => rfl) (fun _ _ => rfl) (fun _ _ => rfl) (fun _ _ => rfl) (fun _ _ => rfl))⟩ (show gt.s 9 - (iz + 1) < gt.s 9 - iz by omega)
          · refine j_if_eqT (pc := 58) C (tgt := 67) d_Model_thief_58 (by decide) (by decide) ?_
            refine j_aload_n (pc := 67) C d_Model_thief_67 rfl 2 rfl ?_
            refine j_iload_n (pc := 68) C d_Model_thief_68 rfl 0 rfl ?_
            refine j_iconst (pc := 69) C (v := 1) d_Model_thief_69 (by decide) ?_
            refine j_callVv (pc := 70) C (c_malters_2 l D y mo ma 0 i2 i3 i4 i5 i6 i7 i8 i42 i49 i51 i53 i54 i59 i61 i64 i66 t67 i76 i78 g46 u59 iz gt dy wa la (mvB gt bd iz 1) fl st wo ly se su hto xh61 hs_gates (by omega) (by omega)) kw_Model_454 kv_Model_alters 0 10 rfl rfl ⟨by decide, by decide⟩ ⟨by decide, by decide⟩ (wr := [(ma 0, .inl (y 0, 1600, .inl (tby tx))), (ma 43, .inl (y 0, 8, .inl g43)), (ma 45, .inl (y 0, 14, .inl g45)), (ma 63, .inl (y 0, 9, .inl u63))]) [0, 4, 5] [1, 2, 3, 6] rfl rfl (by decide +kernel) (by decide +kernel) (by decide +kernel) (As := [.int (nI iz), .int 1]) (rest := []) rfl (nb rfl) rfl d_Model_thief_70 (fun u70 hu71 => ?_)
            have xh72 := hu71
            refine j_ws (ws' := [(ma 0, .inl (y 0, 1600, .inl (tby tx))), (ma 43, .inl (y 0, 8, .inl g43)), (ma 45, .inl (y 0, 14, .inl g45)), (ma 63, .inl (y 0, 9, .inl u63)), MB mo ma (nI 0) i2 i3 i4 i5 i6 i7 i8 i42 i49 i51 i53 i54 i59 i61 i64 i66 (nI t67) i76 i78, (ma 46, .inl (y 0, 108, .inl g46)), (ma 62, .inl (y 0, 63, .inl u70))]) rfl ?_
            refine j_iinc (pc := 73) C (v := nI (iz + 1)) (lv' := [(2, .int (nI (iz + 1))), (1, .int vz), (0, .ref mo)]) d_Model_thief_73 0 rfl (nI_add _ _) (by decide) rfl ?_
            refine j_goto (pc := 76) C (tgt := 26) d_Model_thief_76 (by decide) ?_
            refine j_sub (ws' := [MB mo ma (nI 0) i2 i3 i4 i5 i6 i7 i8 i42 i49 i51 i53 i54 i59 i61 i64 i66 (nI t67) i76 i78, (ma 0, .inl (y 0, 1600, .inl (tby tx))), (ma 43, .inl (y 0, 8, .inl g43)), (ma 45, .inl (y 0, 14, .inl g45)), (ma 46, .inl (y 0, 108, .inl g46)), (ma 62, .inl (y 0, 63, .inl u70)), (ma 63, .inl (y 0, 9, .inl u63))]) [4, 0, 1, 2, 5, 6, 3] rfl (by decide +kernel) ?_
            exact ih52 ((iz + 1), u70, vz, u63) ⟨(show (iz + 1) ≤ gt.s 9 by omega), (nw_e xh72 (fun j _ => hmv j) (fun _ _ => rfl) (fun _ _ => rfl) (fun _ _ => rfl) (fun _ _ => rfl) (fun _ _ => rfl) (fun _ _ => rfl))⟩ (show gt.s 9 - (iz + 1) < gt.s 9 - iz by omega)
        · refine j_if_neF (pc := 42) C (tgt := 48) d_Model_thief_42 (by decide) (by decide) ?_
          refine j_goto (pc := 45) C (tgt := 73) d_Model_thief_45 (by decide) ?_
          refine j_iinc (pc := 73) C (v := nI (iz + 1)) (lv' := [(2, .int (nI (iz + 1))), (1, .int vz), (0, .ref mo)]) d_Model_thief_73 0 rfl (nI_add _ _) (by decide) rfl ?_
          refine j_goto (pc := 76) C (tgt := 26) d_Model_thief_76 (by decide) ?_
          refine j_sub (ws' := [MB mo ma (nI 0) i2 i3 i4 i5 i6 i7 i8 i42 i49 i51 i53 i54 i59 i61 i64 i66 (nI t67) i76 i78, (ma 0, .inl (y 0, 1600, .inl (tby tx))), (ma 43, .inl (y 0, 8, .inl g43)), (ma 45, .inl (y 0, 14, .inl g45)), (ma 46, .inl (y 0, 108, .inl g46)), (ma 62, .inl (y 0, 63, .inl nz)), (ma 63, .inl (y 0, 9, .inl z30))]) [4, 0, 3, 1, 5, 6, 2] rfl (by decide +kernel) ?_
          exact ih52 ((iz + 1), nz, vz, z30) ⟨(show (iz + 1) ≤ gt.s 9 by omega), hn_⟩ (show gt.s 9 - (iz + 1) < gt.s 9 - iz by omega)
    · refine j_if_eqT (pc := 13) C (tgt := 22) d_Model_thief_13 (by decide) (by decide) ?_
      refine j_iconst (pc := 22) C (v := 0) d_Model_thief_22 (by decide) ?_
      refine j_istore_n (pc := 23) C (lv' := [(1, .int 0), (0, .ref mo)]) d_Model_thief_23 rfl (by decide) rfl ?_
      refine j_iconst (pc := 24) C (v := 0) d_Model_thief_24 (by decide) ?_
      refine j_istore_n (pc := 25) C (lv' := [(2, .int 0), (1, .int 0), (0, .ref mo)]) d_Model_thief_25 rfl (by decide) rfl ?_
      refine j_loop (α := Nat × (Nat → Int32) × Int32 × (Nat → Int32)) (fun a => gt.s 9 - a.1) (fun a => (a.1 ≤ gt.s 9) ∧ (NW a.2.1 0 dy wa la bd fl st wo ly se su)) (fun a => [MB mo ma (nI 0) i2 i3 i4 i5 i6 i7 i8 i42 i49 i51 i53 i54 i59 i61 i64 i66 (nI t67) i76 i78, (ma 0, .inl (y 0, 1600, .inl (tby tx))), (ma 43, .inl (y 0, 8, .inl g43)), (ma 45, .inl (y 0, 14, .inl g45)), (ma 46, .inl (y 0, 108, .inl g46)), (ma 62, .inl (y 0, 63, .inl a.2.1)), (ma 63, .inl (y 0, 9, .inl a.2.2.2))]) (fun a => [(2, .int (nI a.1)), (1, .int a.2.2.1), (0, .ref mo)]) (0, g62, 0, u6) rfl rfl ⟨(show 0 ≤ gt.s 9 by omega), hnw⟩ ?_
      rintro ⟨iz, nz, vz, z93⟩ hP114 ih115
      obtain ⟨hi__, hn__⟩ := hP114
      have hi_ : iz ≤ gt.s 9 := hi__
      have hn_ : NW nz 0 dy wa la bd fl st wo ly se su := hn__
      refine j_ws (ws' := [MB mo ma (nI 0) i2 i3 i4 i5 i6 i7 i8 i42 i49 i51 i53 i54 i59 i61 i64 i66 (nI t67) i76 i78, (ma 0, .inl (y 0, 1600, .inl (tby tx))), (ma 43, .inl (y 0, 8, .inl g43)), (ma 45, .inl (y 0, 14, .inl g45)), (ma 46, .inl (y 0, 108, .inl g46)), (ma 62, .inl (y 0, 63, .inl nz)), (ma 63, .inl (y 0, 9, .inl z93))]) rfl ?_
      refine j_lv (lv' := [(2, .int (nI iz)), (1, .int vz), (0, .ref mo)]) rfl ?_
      refine j_iload_n (pc := 26) C d_Model_thief_26 rfl 0 rfl ?_
      refine j_aload_n (pc := 27) C d_Model_thief_27 rfl 2 rfl ?_
      refine j_callVi (pc := 28) C (c_mgateMany l D y mo ma 0 i2 i3 i4 i5 i6 i7 i8 i42 i49 i51 i53 i54 i59 i61 i64 i66 t67 i76 i78 g43 gt hs_many) kw_Model_341 kv_Model_gateMany 0 10 rfl rfl ⟨by decide, by decide⟩ ⟨by decide, by decide⟩ (wr := [(ma 0, .inl (y 0, 1600, .inl (tby tx))), (ma 45, .inl (y 0, 14, .inl g45)), (ma 46, .inl (y 0, 108, .inl g46)), (ma 62, .inl (y 0, 63, .inl nz)), (ma 63, .inl (y 0, 9, .inl z93))]) [0, 2] [1, 3, 4, 5, 6] rfl rfl (by decide +kernel) (by decide +kernel) (by decide +kernel) (As := []) (rest := [.int (nI iz)]) rfl (nb rfl) rfl d_Model_thief_28 (fun r116 _ hr116 => ?_)
      obtain rfl := hr116
      refine j_ws (ws' := [(ma 0, .inl (y 0, 1600, .inl (tby tx))), (ma 45, .inl (y 0, 14, .inl g45)), (ma 46, .inl (y 0, 108, .inl g46)), (ma 62, .inl (y 0, 63, .inl nz)), (ma 63, .inl (y 0, 9, .inl z93)), MB mo ma (nI 0) i2 i3 i4 i5 i6 i7 i8 i42 i49 i51 i53 i54 i59 i61 i64 i66 (nI t67) i76 i78, (ma 43, .inl (y 0, 8, .inl g43))]) rfl ?_
      by_cases c117 : (gt.s 9) ≤ iz
      · refine j_icmp_geT (pc := 31) C (tgt := 79) d_Model_thief_31 (by decide) (show nI (gt.s 9) ≤ nI iz from nI_le (by omega) (by omega)) ?_
        refine j_iload_n (pc := 79) C d_Model_thief_79 rfl 1 rfl ?_
        exact j_iret (pc := 80) C hr rfl (nz, z93) hn_ [5, 0, 6, 1, 2, 3, 4] rfl (by decide) (by decide) (by decide) d_Model_thief_80
      · refine j_icmp_geF (pc := 31) C (tgt := 79) d_Model_thief_31 (by decide) (show ¬ nI (gt.s 9) ≤ nI iz from nI_ge (by omega) (by omega)) ?_
        refine j_aload_n (pc := 34) C d_Model_thief_34 rfl 2 rfl ?_
        refine j_iload_n (pc := 35) C d_Model_thief_35 rfl 0 rfl ?_
        refine j_iconst (pc := 36) C (v := 1) d_Model_thief_36 (by decide) ?_
        refine j_bipush (pc := 37) C (v := 20) d_Model_thief_37 (by decide) ?_
        refine j_callVi (pc := 39) C (c_mareBoards l D y mo ma 0 i2 i3 i4 i5 i6 i7 i8 i42 i49 i51 i53 i54 i59 i61 i64 i66 t67 i76 i78 g46 nz iz 1 20 gt dy wa la bd fl st wo ly se su hto hn_ hs_gates (by omega) (by omega) hbd (by omega) (by omega)) kw_Model_424 kv_Model_areBoards 0 10 rfl rfl ⟨by decide, by decide⟩ ⟨by decide, by decide⟩ (wr := [(ma 0, .inl (y 0, 1600, .inl (tby tx))), (ma 45, .inl (y 0, 14, .inl g45)), (ma 63, .inl (y 0, 9, .inl z93)), (ma 43, .inl (y 0, 8, .inl g43))]) [5, 2, 3] [0, 1, 4, 6] rfl rfl (by decide +kernel) (by decide +kernel) (by decide +kernel) (As := [.int (nI iz), .int 1, .int 20]) (rest := []) rfl (nb rfl) rfl d_Model_thief_39 (fun r118 _ hr118 => ?_)
        refine j_ws (ws' := [(ma 0, .inl (y 0, 1600, .inl (tby tx))), (ma 45, .inl (y 0, 14, .inl g45)), (ma 63, .inl (y 0, 9, .inl z93)), (ma 43, .inl (y 0, 8, .inl g43)), MB mo ma (nI 0) i2 i3 i4 i5 i6 i7 i8 i42 i49 i51 i53 i54 i59 i61 i64 i66 (nI t67) i76 i78, (ma 46, .inl (y 0, 108, .inl g46)), (ma 62, .inl (y 0, 63, .inl nz))]) rfl ?_
        rcases hr118 with ⟨rfl, xh120⟩ | ⟨rfl, xh121⟩
        · refine j_if_neT (pc := 42) C (tgt := 48) d_Model_thief_42 (by decide) (by decide) ?_
          have hjz := (to_j hto iz (by omega)).2
          have hmv := mv_b1 (t := gt) (b := bd) (g := iz) (by omega) (by omega) hjz
          have hbm : BN (gt.s 9) (mvB gt bd iz 1) 20 := lose_bn hbd (to_j hto iz (by omega))
          refine j_aload_n (pc := 48) C d_Model_thief_48 rfl 2 rfl ?_
          refine j_iload_n (pc := 49) C d_Model_thief_49 rfl 0 rfl ?_
          refine j_iconst (pc := 50) C (v := (-1)) d_Model_thief_50 (by decide) ?_
          refine j_callVv (pc := 51) C (c_malters_1 l D y mo ma 0 i2 i3 i4 i5 i6 i7 i8 i42 i49 i51 i53 i54 i59 i61 i64 i66 t67 i76 i78 g46 nz iz gt dy wa la bd fl st wo ly se su hto hn_ hs_gates (by omega) (by omega) (by omega) (by omega)) kw_Model_454 kv_Model_alters 0 10 rfl rfl ⟨by decide, by decide⟩ ⟨by decide, by decide⟩ (wr := [(ma 0, .inl (y 0, 1600, .inl (tby tx))), (ma 45, .inl (y 0, 14, .inl g45)), (ma 63, .inl (y 0, 9, .inl z93)), (ma 43, .inl (y 0, 8, .inl g43))]) [4, 5, 6] [0, 1, 2, 3] rfl rfl (by decide +kernel) (by decide +kernel) (by decide +kernel) (As := [.int (nI iz), .int (-1)]) (rest := []) rfl (nb rfl) rfl d_Model_thief_51 (fun u122 hu123 => ?_)
          have xh124 := hu123
          refine j_ws (ws' := [(ma 0, .inl (y 0, 1600, .inl (tby tx))), (ma 45, .inl (y 0, 14, .inl g45)), (ma 63, .inl (y 0, 9, .inl z93)), (ma 43, .inl (y 0, 8, .inl g43)), MB mo ma (nI 0) i2 i3 i4 i5 i6 i7 i8 i42 i49 i51 i53 i54 i59 i61 i64 i66 (nI t67) i76 i78, (ma 46, .inl (y 0, 108, .inl g46)), (ma 62, .inl (y 0, 63, .inl u122))]) rfl ?_
          refine j_aload_n (pc := 54) C d_Model_thief_54 rfl 2 rfl ?_
          refine j_callVi (pc := 55) C (c_misAsSeen l D y mo ma 0 i2 i3 i4 i5 i6 i7 i8 i42 i49 i51 i53 i54 i59 i61 i64 i66 t67 i76 i78 tx g43 g45 g46 u122 z93 gt dy wa la (mvB gt bd iz 1) fl st wo ly se su hto xh124 hs_many hs_lake hs_gates hbm hdy hwa hB) kw_Model_564 kv_Model_isAsSeen 0 10 rfl rfl ⟨by decide, by decide⟩ ⟨by decide, by decide⟩ (wr := []) [4, 0, 3, 1, 5, 6, 2] [] rfl rfl (by decide +kernel) (by decide +kernel) (by decide +kernel) (As := []) (rest := []) rfl (nb rfl) rfl d_Model_thief_55 (fun r125 u126 hr125 => ?_)
          refine j_ws (ws' := [MB mo ma (nI 0) i2 i3 i4 i5 i6 i7 i8 i42 i49 i51 i53 i54 i59 i61 i64 i66 (nI t67) i76 i78, (ma 0, .inl (y 0, 1600, .inl (tby tx))), (ma 43, .inl (y 0, 8, .inl g43)), (ma 45, .inl (y 0, 14, .inl g45)), (ma 46, .inl (y 0, 108, .inl g46)), (ma 62, .inl (y 0, 63, .inl u122)), (ma 63, .inl (y 0, 9, .inl u126))]) rfl ?_
          rcases hr125 with ⟨rfl, xh128⟩ | ⟨rfl, xh129⟩
          · refine j_if_eqF (pc := 58) C (tgt := 67) d_Model_thief_58 (by decide) (by decide) ?_
            refine j_iload_n (pc := 61) C d_Model_thief_61 rfl 1 rfl ?_
            refine j_iconst (pc := 62) C (v := 1) d_Model_thief_62 (by decide) ?_
            refine j_iload_n (pc := 63) C d_Model_thief_63 rfl 0 rfl ?_
            refine j_ishl (pc := 64) C (v := 1 <<< ((nI iz) &&& 31)) d_Model_thief_64 rfl ?_
            refine j_ior (pc := 65) C (v := vz ||| (1 <<< ((nI iz) &&& 31))) d_Model_thief_65 rfl ?_
            refine j_istore_n (pc := 66) C (lv' := [(1, .int (vz ||| (1 <<< ((nI iz) &&& 31)))), (2, .int (nI iz)), (0, .ref mo)]) d_Model_thief_66 rfl (by decide) rfl ?_
            refine j_aload_n (pc := 67) C d_Model_thief_67 rfl 2 rfl ?_
            refine j_iload_n (pc := 68) C d_Model_thief_68 rfl 1 rfl ?_
            refine j_iconst (pc := 69) C (v := 1) d_Model_thief_69 (by decide) ?_
            refine j_callVv (pc := 70) C (c_malters_2 l D y mo ma 0 i2 i3 i4 i5 i6 i7 i8 i42 i49 i51 i53 i54 i59 i61 i64 i66 t67 i76 i78 g46 u122 iz gt dy wa la (mvB gt bd iz 1) fl st wo ly se su hto xh124 hs_gates (by omega) (by omega)) kw_Model_454 kv_Model_alters 0 10 rfl rfl ⟨by decide, by decide⟩ ⟨by decide, by decide⟩ (wr := [(ma 0, .inl (y 0, 1600, .inl (tby tx))), (ma 43, .inl (y 0, 8, .inl g43)), (ma 45, .inl (y 0, 14, .inl g45)), (ma 63, .inl (y 0, 9, .inl u126))]) [0, 4, 5] [1, 2, 3, 6] rfl rfl (by decide +kernel) (by decide +kernel) (by decide +kernel) (As := [.int (nI iz), .int 1]) (rest := []) rfl (nb rfl) rfl d_Model_thief_70 (fun u130 hu131 => ?_)
            have xh132 := hu131
            refine j_ws (ws' := [(ma 0, .inl (y 0, 1600, .inl (tby tx))), (ma 43, .inl (y 0, 8, .inl g43)), (ma 45, .inl (y 0, 14, .inl g45)), (ma 63, .inl (y 0, 9, .inl u126)), MB mo ma (nI 0) i2 i3 i4 i5 i6 i7 i8 i42 i49 i51 i53 i54 i59 i61 i64 i66 (nI t67) i76 i78, (ma 46, .inl (y 0, 108, .inl g46)), (ma 62, .inl (y 0, 63, .inl u130))]) rfl ?_
            refine j_iinc (pc := 73) C (v := nI (iz + 1)) (lv' := [(2, .int (nI (iz + 1))), (1, .int (vz ||| (1 <<< ((nI iz) &&& 31)))), (0, .ref mo)]) d_Model_thief_73 1 rfl (nI_add _ _) (by decide) rfl ?_
            refine j_goto (pc := 76) C (tgt := 26) d_Model_thief_76 (by decide) ?_
            refine j_sub (ws' := [MB mo ma (nI 0) i2 i3 i4 i5 i6 i7 i8 i42 i49 i51 i53 i54 i59 i61 i64 i66 (nI t67) i76 i78, (ma 0, .inl (y 0, 1600, .inl (tby tx))), (ma 43, .inl (y 0, 8, .inl g43)), (ma 45, .inl (y 0, 14, .inl g45)), (ma 46, .inl (y 0, 108, .inl g46)), (ma 62, .inl (y 0, 63, .inl u130)), (ma 63, .inl (y 0, 9, .inl u126))]) [4, 0, 1, 2, 5, 6, 3] rfl (by decide +kernel) ?_
            exact ih115 ((iz + 1), u130, vz ||| (1 <<< ((nI iz) &&& 31)), u126) ⟨(show (iz + 1) ≤ gt.s 9 by omega), (nw_e xh132 (fun j _ => hmv j) (fun _ _ => rfl) (fun _ _ => rfl) (fun _ _ => rfl) (fun _ _ => rfl) (fun _ _ => rfl) (fun _ _ => rfl))⟩ (show gt.s 9 - (iz + 1) < gt.s 9 - iz by omega)
          · refine j_if_eqT (pc := 58) C (tgt := 67) d_Model_thief_58 (by decide) (by decide) ?_
            refine j_aload_n (pc := 67) C d_Model_thief_67 rfl 2 rfl ?_
            refine j_iload_n (pc := 68) C d_Model_thief_68 rfl 0 rfl ?_
            refine j_iconst (pc := 69) C (v := 1) d_Model_thief_69 (by decide) ?_
            refine j_callVv (pc := 70) C (c_malters_2 l D y mo ma 0 i2 i3 i4 i5 i6 i7 i8 i42 i49 i51 i53 i54 i59 i61 i64 i66 t67 i76 i78 g46 u122 iz gt dy wa la (mvB gt bd iz 1) fl st wo ly se su hto xh124 hs_gates (by omega) (by omega)) kw_Model_454 kv_Model_alters 0 10 rfl rfl ⟨by decide, by decide⟩ ⟨by decide, by decide⟩ (wr := [(ma 0, .inl (y 0, 1600, .inl (tby tx))), (ma 43, .inl (y 0, 8, .inl g43)), (ma 45, .inl (y 0, 14, .inl g45)), (ma 63, .inl (y 0, 9, .inl u126))]) [0, 4, 5] [1, 2, 3, 6] rfl rfl (by decide +kernel) (by decide +kernel) (by decide +kernel) (As := [.int (nI iz), .int 1]) (rest := []) rfl (nb rfl) rfl d_Model_thief_70 (fun u133 hu134 => ?_)
            have xh135 := hu134
            refine j_ws (ws' := [(ma 0, .inl (y 0, 1600, .inl (tby tx))), (ma 43, .inl (y 0, 8, .inl g43)), (ma 45, .inl (y 0, 14, .inl g45)), (ma 63, .inl (y 0, 9, .inl u126)), MB mo ma (nI 0) i2 i3 i4 i5 i6 i7 i8 i42 i49 i51 i53 i54 i59 i61 i64 i66 (nI t67) i76 i78, (ma 46, .inl (y 0, 108, .inl g46)), (ma 62, .inl (y 0, 63, .inl u133))]) rfl ?_
            refine j_iinc (pc := 73) C (v := nI (iz + 1)) (lv' := [(2, .int (nI (iz + 1))), (1, .int vz), (0, .ref mo)]) d_Model_thief_73 0 rfl (nI_add _ _) (by decide) rfl ?_
            refine j_goto (pc := 76) C (tgt := 26) d_Model_thief_76 (by decide) ?_
            refine j_sub (ws' := [MB mo ma (nI 0) i2 i3 i4 i5 i6 i7 i8 i42 i49 i51 i53 i54 i59 i61 i64 i66 (nI t67) i76 i78, (ma 0, .inl (y 0, 1600, .inl (tby tx))), (ma 43, .inl (y 0, 8, .inl g43)), (ma 45, .inl (y 0, 14, .inl g45)), (ma 46, .inl (y 0, 108, .inl g46)), (ma 62, .inl (y 0, 63, .inl u133)), (ma 63, .inl (y 0, 9, .inl u126))]) [4, 0, 1, 2, 5, 6, 3] rfl (by decide +kernel) ?_
            exact ih115 ((iz + 1), u133, vz, u126) ⟨(show (iz + 1) ≤ gt.s 9 by omega), (nw_e xh135 (fun j _ => hmv j) (fun _ _ => rfl) (fun _ _ => rfl) (fun _ _ => rfl) (fun _ _ => rfl) (fun _ _ => rfl) (fun _ _ => rfl))⟩ (show gt.s 9 - (iz + 1) < gt.s 9 - iz by omega)
        · refine j_if_neF (pc := 42) C (tgt := 48) d_Model_thief_42 (by decide) (by decide) ?_
          refine j_goto (pc := 45) C (tgt := 73) d_Model_thief_45 (by decide) ?_
          refine j_iinc (pc := 73) C (v := nI (iz + 1)) (lv' := [(2, .int (nI (iz + 1))), (1, .int vz), (0, .ref mo)]) d_Model_thief_73 0 rfl (nI_add _ _) (by decide) rfl ?_
          refine j_goto (pc := 76) C (tgt := 26) d_Model_thief_76 (by decide) ?_
          refine j_sub (ws' := [MB mo ma (nI 0) i2 i3 i4 i5 i6 i7 i8 i42 i49 i51 i53 i54 i59 i61 i64 i66 (nI t67) i76 i78, (ma 0, .inl (y 0, 1600, .inl (tby tx))), (ma 43, .inl (y 0, 8, .inl g43)), (ma 45, .inl (y 0, 14, .inl g45)), (ma 46, .inl (y 0, 108, .inl g46)), (ma 62, .inl (y 0, 63, .inl nz)), (ma 63, .inl (y 0, 9, .inl z93))]) [4, 0, 3, 1, 5, 6, 2] rfl (by decide +kernel) ?_
          exact ih115 ((iz + 1), nz, vz, z93) ⟨(show (iz + 1) ≤ gt.s 9 by omega), hn_⟩ (show gt.s 9 - (iz + 1) < gt.s 9 - iz by omega)
  · refine j_if_neF (pc := 4) C (tgt := 9) d_Model_thief_4 (by decide) (by decide) ?_
    refine j_iconst (pc := 7) C (v := (-1)) d_Model_thief_7 (by decide) ?_
    exact j_iret (pc := 8) C hr rfl (g62, g63) hnw [4, 0, 5, 1, 2, 6, 3] rfl (by decide) (by decide) (by decide) d_Model_thief_8
