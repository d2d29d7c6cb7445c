/-! what is kept, in the reference's row of days -/
abbrev NWq (F : Nat → Int32) (o : Nat) (S : ST_) : Prop := NW F o (ST_.dy S) (ST_.wa S) (ST_.la S) (ST_.bd S) (ST_.fl S) (ST_.st S) (ST_.wo S) (ST_.ly S) (ST_.se S) (ST_.su S)
def DREL (F : Nat → Int32) (cn ix : Nat) (P : Nat → ST_) : Prop := ∀ i, i < cn → NWq F (63 * ((ix + 30 - i) % 30)) (P i)
/-- a row is as it was but for 63 places -/
def FRM (F' F : Nat → Int32) (o : Nat) : Prop := ∀ q, q < o ∨ o + 63 ≤ q → F' q = F q
theorem frm_0 {F : Nat → Int32} {o : Nat} : FRM F F o := fun _ _ => rfl
theorem frm_up {F F' : Nat → Int32} {o n : Nat} {v : Int32} (h : FRM F' F o) (hn : n < 63) : FRM (upd F' (o + n) v) F o := by
  intro q hq
  rw [pk_un (by omega)]
  exact h q hq
theorem drel_push {F F' N : Nat → Int32} {cn ix : Nat} {P : Nat → ST_} {S : ST_} (h : DREL F cn ix P) (hc : cn ≤ 30) (hi : ix < 30) (hN : NWq N 0 S) (hp : CPR F' N (63 * ((ix + 1) % 30)) 63) (hf : FRM F' F (63 * ((ix + 1) % 30))) : DREL F' (min 30 (cn + 1)) ((ix + 1) % 30) (pushP S P) := by
  intro i hi2
  by_cases e : i = 0
  · have a : ((ix + 1) % 30 + 30 - i) % 30 = (ix + 1) % 30 := by omega
    have b : pushP S P i = S := if_pos e
    rw [a, b]
    refine nw_cp hN (fun j hj => ?_)
    rw [Nat.zero_add]
    exact hp j hj
  · have a : ((ix + 1) % 30 + 30 - i) % 30 = (ix + 30 - (i - 1)) % 30 := by omega
    have b : pushP S P i = P (i - 1) := if_neg e
    rw [a, b]
    refine nw_cp (h (i - 1) (by omega)) (fun j hj => ?_)
    exact hf _ (by omega)
theorem drel_pop {F : Nat → Int32} {cn ix : Nat} {P : Nat → ST_} (h : DREL F cn ix P) (h0 : 0 < cn) (hc : cn ≤ 30) (hi : ix < 30) : NWq F (63 * ix) (P 0) ∧ DREL F (cn - 1) ((ix + 29) % 30) (popP P) := by
  constructor
  · have q := h 0 h0
    rw [show (ix + 30 - 0) % 30 = ix by omega] at q
    exact q
  · intro i hi2
    have a : ((ix + 29) % 30 + 30 - i) % 30 = (ix + 30 - (i + 1)) % 30 := by omega
    rw [a]
    exact h (i + 1) (by omega)
theorem drel_0 {F : Nat → Int32} {ix : Nat} {P : Nat → ST_} : DREL F 0 ix P := fun i hi => absurd hi (Nat.not_lt_zero _)
/-- rows that are alike in the first 63 places -/
def SAM (F' F : Nat → Int32) : Prop := ∀ j, j < 63 → F' j = F j
theorem sam_r {F : Nat → Int32} : SAM F F := fun _ _ => rfl
theorem sam_2 {A B C : Nat → Int32} (h : SAM A B) (g : SAM B C) : SAM A C := fun j hj => (h j hj).trans (g j hj)
theorem cpr_sam {A B : Nat → Int32} (h : CPR A B 0 63) : SAM A B := fun j hj => by
  have := h j hj
  rw [Nat.zero_add] at this
  exact this
theorem nw_sam {A B : Nat → Int32} {dy wa la : Nat} {bd fl st : Nat → Nat} {wo ly : Nat → Int} {se su : Nat → Nat} (h : NW B 0 dy wa la bd fl st wo ly se su) (g : SAM A B) : NW A 0 dy wa la bd fl st wo ly se su := nw_cp h (fun j hj => by rw [Nat.zero_add]; exact g j hj)
/-- zeros so far -/
def ZRO (F : Nat → Int32) (n : Nat) : Prop := ∀ j, j < n → F j = 0
theorem zro_0 {F : Nat → Int32} : ZRO F 0 := fun j hj => absurd hj (Nat.not_lt_zero _)
theorem zro_up {F : Nat → Int32} {n : Nat} (h : ZRO F n) : ZRO (upd F n 0) (n + 1) := by
  intro j hj
  by_cases e : j = n
  · rw [e, pk_us]
  · rw [pk_un (by omega)]
    exact h j (by omega)
theorem nw_zro {F : Nat → Int32} (h : ZRO F 63) : NW F 0 0 0 0 (fun _ => 0) (fun _ => 0) (fun _ => 0) (fun _ => 0) (fun _ => 0) (fun _ => 0) (fun _ => 0) := by
  refine ⟨h _ (by omega), h _ (by omega), h _ (by omega), ?_, ?_, ?_, ?_, ?_, ?_, ?_⟩ <;> exact fun j hj => h _ (by omega)
theorem may_of {t : LA_} {b : Nat → Nat} {l d w a : Nat} (ha : a ≤ 2) (h : a = 0 ∨ (0 < t.s 4 ∧ ¬ w = 3 ∧ ¬ (w = 0 ∧ l = a) ∧ fitT w a (b (t.r 8 (d % t.s 4))) ∧ (t.r 6 (t.r 8 (d % t.s 4)) = 0 ∨ fitT w a (b (t.r 6 (t.r 8 (d % t.s 4)) - 1))))) : mayT t b l d w a := by
  rcases h with h | ⟨q0, q1, q2, q3, q4⟩
  · exact Or.inl h
  · by_cases e : a = 0
    · exact Or.inl e
    · exact Or.inr ⟨q0, Or.inr ⟨by omega, Nat.mod_lt _ q0, q1, q2, q3, q4⟩⟩
theorem may_to {t : LA_} {b : Nat → Nat} {l d w a : Nat} (h : mayT t b l d w a) : a = 0 ∨ (0 < t.s 4 ∧ ¬ w = 3 ∧ ¬ (w = 0 ∧ l = a) ∧ fitT w a (b (t.r 8 (d % t.s 4))) ∧ (t.r 6 (t.r 8 (d % t.s 4)) = 0 ∨ fitT w a (b (t.r 6 (t.r 8 (d % t.s 4)) - 1)))) := by
  rcases h with h | ⟨q0, q | ⟨_, _, q1, q2, q3, q4⟩⟩
  · exact Or.inl h
  · exact Or.inl q
  · exact Or.inr ⟨q0, q1, q2, q3, q4⟩
set_option maxHeartbeats 4000000 in
set_option maxRecDepth 100000 in
theorem c_mkeepsDay (l : Launch) (D : va_G) (y : Nat → ClassId) (mo : Nat) (ma : Nat → Nat) (t1 : Nat) (i2 : Int32) (i3 : Int32) (i4 : Int32) (i5 : Int32) (i6 : Int32) (i7 : Int32) (i8 : Int32) (i42 : Int32) (i49 : Int32) (i51 : Int32) (i53 : Int32) (i54 : Int32) (i59 : Int32) (i61 : Int32) (i64 : Int32) (cn : Nat) (ix : Nat) (i76 : Int64) (i78 : Int32) (g62 : Nat → Int32) (g65 : Nat → Int32) (hc : cn ≤ 30) (hi : ix < 30) : CT l D y ⟨"NineBoardsModel", "keepsDay", "()V"⟩ prog_13_method_69_code 2 none ({ frames := 0, cells := 0, slots := 0, locals := 0 } : Room) [.ref mo] [MB mo ma (nI t1) i2 i3 i4 i5 i6 i7 i8 i42 i49 i51 i53 i54 i59 i61 i64 (nI cn) (nI ix) i76 i78, (ma 62, .inl (y 0, 63, .inl g62)), (ma 65, .inl (y 0, 1890, .inl g65))] (QV D [MB mo ma (nI t1) i2 i3 i4 i5 i6 i7 i8 i42 i49 i51 i53 i54 i59 i61 i64 (nI cn) (nI ix) i76 i78, (ma 62, .inl (y 0, 63, .inl g62)), (ma 65, .inl (y 0, 1890, .inl g65))] (fun (u : Nat → Int32) => CPR u g62 (63 * ((ix + 1) % 30)) 63 ∧ FRM u g65 (63 * ((ix + 1) % 30))) (fun u => [MB mo ma (nI t1) i2 i3 i4 i5 i6 i7 i8 i42 i49 i51 i53 i54 i59 i61 i64 (nI (min 30 (cn + 1))) (nI ((ix + 1) % 30)) i76 i78, (ma 62, .inl (y 0, 63, .inl g62)), (ma 65, .inl (y 0, 1890, .inl u))])) := by
  refine CT.of (by decide) (nb rfl) ?_
  intro p e s m args below meth c C hr
  refine j_lv (lv' := [(0, .ref mo)]) rfl ?_
  refine j_aload_n (pc := 0) C d_Model_keepsDay_0 rfl 0 rfl ?_
  refine j_aload_n (pc := 1) C d_Model_keepsDay_1 rfl 0 rfl ?_
  refine j_get (pc := 2) C gf_Model_460 0 rfl rfl d_Model_keepsDay_2 ?_
  refine j_iconst (pc := 5) C (v := 1) d_Model_keepsDay_5 (by decide) ?_
  refine j_iadd (pc := 6) C (v := nI (ix + 1)) d_Model_keepsDay_6 (nI_add _ _) ?_
  refine j_bipush (pc := 7) C (v := 30) d_Model_keepsDay_7 (by decide) ?_
  refine j_irem (pc := 9) C (v := nI ((ix + 1) % 30)) d_Model_keepsDay_9 (by decide) (pk_rem (a := (ix + 1)) (d := 30) (by omega) (by omega) (by omega)) ?_
  refine j_put (pc := 10) C pf_Model_460 0 (ws' := [MB mo ma (nI t1) i2 i3 i4 i5 i6 i7 i8 i42 i49 i51 i53 i54 i59 i61 i64 (nI cn) (nI ((ix + 1) % 30)) i76 i78, (ma 62, .inl (y 0, 63, .inl g62)), (ma 65, .inl (y 0, 1890, .inl g65))]) rfl rfl rfl (nl rfl) rfl d_Model_keepsDay_10 ?_
  refine j_iconst (pc := 13) C (v := 0) d_Model_keepsDay_13 (by decide) ?_
  refine j_istore_n (pc := 14) C (lv' := [(1, .int 0), (0, .ref mo)]) d_Model_keepsDay_14 rfl (by decide) rfl ?_
  refine j_loop (α := Nat × (Nat → Int32)) (fun a => 63 - a.1) (fun a => (a.1 ≤ 63) ∧ (CPR a.2 g62 (63 * ((ix + 1) % 30)) a.1) ∧ (FRM a.2 g65 (63 * ((ix + 1) % 30)))) (fun a => [MB mo ma (nI t1) i2 i3 i4 i5 i6 i7 i8 i42 i49 i51 i53 i54 i59 i61 i64 (nI cn) (nI ((ix + 1) % 30)) i76 i78, (ma 62, .inl (y 0, 63, .inl g62)), (ma 65, .inl (y 0, 1890, .inl a.2))]) (fun a => [(1, .int (nI a.1)), (0, .ref mo)]) (0, g65) rfl rfl ⟨(show 0 ≤ 63 by omega), cpr_0, frm_0⟩ ?_
  rintro ⟨iz, dz⟩ hP3 ih4
  obtain ⟨hi__, hp__, hf__⟩ := hP3
  have hi_ : iz ≤ 63 := hi__
  have hp_ : CPR dz g62 (63 * ((ix + 1) % 30)) iz := hp__
  have hf_ : FRM dz g65 (63 * ((ix + 1) % 30)) := hf__
  refine j_ws (ws' := [MB mo ma (nI t1) i2 i3 i4 i5 i6 i7 i8 i42 i49 i51 i53 i54 i59 i61 i64 (nI cn) (nI ((ix + 1) % 30)) i76 i78, (ma 62, .inl (y 0, 63, .inl g62)), (ma 65, .inl (y 0, 1890, .inl dz))]) rfl ?_
  refine j_lv (lv' := [(1, .int (nI iz)), (0, .ref mo)]) rfl ?_
  refine j_iload_n (pc := 15) C d_Model_keepsDay_15 rfl 0 rfl ?_
  refine j_bipush (pc := 16) C (v := 63) d_Model_keepsDay_16 (by decide) ?_
  by_cases c5 : 63 ≤ iz
  · refine j_icmp_geT (pc := 18) C (tgt := 47) d_Model_keepsDay_18 (by decide) (show nI 63 ≤ nI iz from nI_le (by omega) (by omega)) ?_
    refine j_aload_n (pc := 47) C d_Model_keepsDay_47 rfl 1 rfl ?_
    refine j_get (pc := 48) C gf_Model_415 0 rfl rfl d_Model_keepsDay_48 ?_
    refine j_bipush (pc := 51) C (v := 30) d_Model_keepsDay_51 (by decide) ?_
    by_cases c6 : 30 ≤ cn
    · refine j_icmp_geT (pc := 53) C (tgt := 66) d_Model_keepsDay_53 (by decide) (show nI 30 ≤ nI cn from nI_le (by omega) (by omega)) ?_
      refine j_ws (ws' := [MB mo ma (nI t1) i2 i3 i4 i5 i6 i7 i8 i42 i49 i51 i53 i54 i59 i61 i64 (nI (min 30 (cn + 1))) (nI ((ix + 1) % 30)) i76 i78, (ma 62, .inl (y 0, 63, .inl g62)), (ma 65, .inl (y 0, 1890, .inl dz))]) (by rw [show nI cn = nI (min 30 (cn + 1)) from (congrArg nI (by omega))]) ?_
      exact j_vret (pc := 66) C hr dz ⟨(show CPR dz g62 (63 * ((ix + 1) % 30)) 63 from (show iz = 63 by omega) ▸ hp_), hf_⟩ [0, 1, 2] rfl (by decide) (by decide) (by decide) d_Model_keepsDay_66
    · refine j_icmp_geF (pc := 53) C (tgt := 66) d_Model_keepsDay_53 (by decide) (show ¬ nI 30 ≤ nI cn from nI_ge (by omega) (by omega)) ?_
      refine j_aload_n (pc := 56) C d_Model_keepsDay_56 rfl 1 rfl ?_
      refine j_dup (pc := 57) C d_Model_keepsDay_57 rfl ?_
      refine j_get (pc := 58) C gf_Model_415 0 rfl rfl d_Model_keepsDay_58 ?_
      refine j_iconst (pc := 61) C (v := 1) d_Model_keepsDay_61 (by decide) ?_
      refine j_iadd (pc := 62) C (v := nI (cn + 1)) d_Model_keepsDay_62 (nI_add _ _) ?_
      refine j_put (pc := 63) C pf_Model_415 0 (ws' := [MB mo ma (nI t1) i2 i3 i4 i5 i6 i7 i8 i42 i49 i51 i53 i54 i59 i61 i64 (nI (cn + 1)) (nI ((ix + 1) % 30)) i76 i78, (ma 62, .inl (y 0, 63, .inl g62)), (ma 65, .inl (y 0, 1890, .inl dz))]) rfl rfl rfl (nl rfl) rfl d_Model_keepsDay_63 ?_
      refine j_ws (ws' := [MB mo ma (nI t1) i2 i3 i4 i5 i6 i7 i8 i42 i49 i51 i53 i54 i59 i61 i64 (nI (min 30 (cn + 1))) (nI ((ix + 1) % 30)) i76 i78, (ma 62, .inl (y 0, 63, .inl g62)), (ma 65, .inl (y 0, 1890, .inl dz))]) (by rw [show nI (cn + 1) = nI (min 30 (cn + 1)) from (congrArg nI (by omega))]) ?_
      exact j_vret (pc := 66) C hr dz ⟨(show CPR dz g62 (63 * ((ix + 1) % 30)) 63 from (show iz = 63 by omega) ▸ hp_), hf_⟩ [0, 1, 2] rfl (by decide) (by decide) (by decide) d_Model_keepsDay_66
  · refine j_icmp_geF (pc := 18) C (tgt := 47) d_Model_keepsDay_18 (by decide) (show ¬ nI 63 ≤ nI iz from nI_ge (by omega) (by omega)) ?_
    refine j_aload_n (pc := 21) C d_Model_keepsDay_21 rfl 1 rfl ?_
    refine j_get (pc := 22) C gf_Model_164 0 rfl rfl d_Model_keepsDay_22 ?_
    refine j_bipush (pc := 25) C (v := 63) d_Model_keepsDay_25 (by decide) ?_
    refine j_aload_n (pc := 27) C d_Model_keepsDay_27 rfl 1 rfl ?_
    refine j_get (pc := 28) C gf_Model_460 0 rfl rfl d_Model_keepsDay_28 ?_
    refine j_imul (pc := 31) C (v := nI (63 * ((ix + 1) % 30))) d_Model_keepsDay_31 (pk_mul _ _) ?_
    refine j_iload_n (pc := 32) C d_Model_keepsDay_32 rfl 0 rfl ?_
    refine j_iadd (pc := 33) C (v := nI ((63 * ((ix + 1) % 30)) + iz)) d_Model_keepsDay_33 (nI_add _ _) ?_
    refine j_aload_n (pc := 34) C d_Model_keepsDay_34 rfl 1 rfl ?_
    refine j_get (pc := 35) C gf_Model_158 0 rfl rfl d_Model_keepsDay_35 ?_
    refine j_iload_n (pc := 38) C d_Model_keepsDay_38 rfl 0 rfl ?_
    refine j_iald (pc := 39) C 1 rfl (v := g62 iz) (vp_in_nI (by omega) (by decide)) (by rw [nI_clamp (by omega)]) d_Model_keepsDay_39 ?_
    refine j_iast (pc := 40) C 2 rfl (ws' := [MB mo ma (nI t1) i2 i3 i4 i5 i6 i7 i8 i42 i49 i51 i53 i54 i59 i61 i64 (nI cn) (nI ((ix + 1) % 30)) i76 i78, (ma 62, .inl (y 0, 63, .inl g62)), (ma 65, .inl (y 0, 1890, .inl (upd dz ((63 * ((ix + 1) % 30)) + iz) (g62 iz))))]) (vp_in_nI (by omega) (by decide)) (by rw [nI_clamp (by omega)]; rfl) d_Model_keepsDay_40 ?_
    refine j_iinc (pc := 41) C (v := nI (iz + 1)) (lv' := [(1, .int (nI (iz + 1))), (0, .ref mo)]) d_Model_keepsDay_41 0 rfl (nI_add _ _) (by decide) rfl ?_
    refine j_goto (pc := 44) C (tgt := 15) d_Model_keepsDay_44 (by decide) ?_
    exact ih4 ((iz + 1), (upd dz ((63 * ((ix + 1) % 30)) + iz) (g62 iz))) ⟨(show (iz + 1) ≤ 63 by omega), (cpr_up hp_), (frm_up hf_ (by omega))⟩ (show 63 - (iz + 1) < 63 - iz by omega)
set_option maxHeartbeats 4000000 in
set_option maxRecDepth 100000 in
theorem c_mnothing (l : Launch) (D : va_G) (y : Nat → ClassId) (mo : Nat) (ma : Nat → Nat) (t1 : Nat) (i2 : Int32) (i3 : Int32) (i4 : Int32) (i5 : Int32) (i6 : Int32) (i7 : Int32) (i8 : Int32) (i42 : Int32) (i49 : Int32) (i51 : Int32) (i53 : Int32) (i54 : Int32) (i59 : Int32) (i61 : Int32) (i64 : Int32) (i66 : Int32) (t67 : Nat) (i76 : Int64) (i78 : Int32) (g62 : Nat → Int32)  : CT l D y ⟨"NineBoardsModel", "nothing", "()V"⟩ prog_13_method_53_code 2 none ({ frames := 0, cells := 0, slots := 0, locals := 0 } : Room) [.ref mo] [MB mo ma (nI t1) i2 i3 i4 i5 i6 i7 i8 i42 i49 i51 i53 i54 i59 i61 i64 i66 (nI t67) i76 i78, (ma 62, .inl (y 0, 63, .inl g62))] (QV D [MB mo ma (nI t1) i2 i3 i4 i5 i6 i7 i8 i42 i49 i51 i53 i54 i59 i61 i64 i66 (nI t67) i76 i78, (ma 62, .inl (y 0, 63, .inl g62))] (fun (u : Nat → Int32) => ZRO u 63 ∧ NW u 0 0 0 0 (fun _ => 0) (fun _ => 0) (fun _ => 0) (fun _ => 0) (fun _ => 0) (fun _ => 0) (fun _ => 0)) (fun u => [MB mo ma (nI t1) i2 i3 i4 i5 i6 i7 i8 i42 i49 i51 i53 i54 i59 i61 i64 (nI 0) (nI t67) i76 i78, (ma 62, .inl (y 0, 63, .inl u))])) := by
  refine CT.of (by decide) (nb rfl) ?_
  intro p e s m args below meth c C hr
  refine j_lv (lv' := [(0, .ref mo)]) rfl ?_
  refine j_iconst (pc := 0) C (v := 0) d_Model_nothing_0 (by decide) ?_
  refine j_istore_n (pc := 1) C (lv' := [(1, .int 0), (0, .ref mo)]) d_Model_nothing_1 rfl (by decide) rfl ?_
  refine j_loop (α := Nat × (Nat → Int32)) (fun a => 63 - a.1) (fun a => (a.1 ≤ 63) ∧ (ZRO a.2 a.1)) (fun a => [MB mo ma (nI t1) i2 i3 i4 i5 i6 i7 i8 i42 i49 i51 i53 i54 i59 i61 i64 i66 (nI t67) i76 i78, (ma 62, .inl (y 0, 63, .inl a.2))]) (fun a => [(1, .int (nI a.1)), (0, .ref mo)]) (0, g62) rfl rfl ⟨(show 0 ≤ 63 by omega), zro_0⟩ ?_
  rintro ⟨iz, dz⟩ hP2 ih3
  obtain ⟨hi__, hp__⟩ := hP2
  have hi_ : iz ≤ 63 := hi__
  have hp_ : ZRO dz iz := hp__
  refine j_ws (ws' := [MB mo ma (nI t1) i2 i3 i4 i5 i6 i7 i8 i42 i49 i51 i53 i54 i59 i61 i64 i66 (nI t67) i76 i78, (ma 62, .inl (y 0, 63, .inl dz))]) rfl ?_
  refine j_lv (lv' := [(1, .int (nI iz)), (0, .ref mo)]) rfl ?_
  refine j_iload_n (pc := 2) C d_Model_nothing_2 rfl 0 rfl ?_
  refine j_bipush (pc := 3) C (v := 63) d_Model_nothing_3 (by decide) ?_
  by_cases c4 : 63 ≤ iz
  · refine j_icmp_geT (pc := 5) C (tgt := 21) d_Model_nothing_5 (by decide) (show nI 63 ≤ nI iz from nI_le (by omega) (by omega)) ?_
    refine j_aload_n (pc := 21) C d_Model_nothing_21 rfl 1 rfl ?_
    refine j_iconst (pc := 22) C (v := 0) d_Model_nothing_22 (by decide) ?_
    refine j_put (pc := 23) C pf_Model_415 0 (ws' := [MB mo ma (nI t1) i2 i3 i4 i5 i6 i7 i8 i42 i49 i51 i53 i54 i59 i61 i64 0 (nI t67) i76 i78, (ma 62, .inl (y 0, 63, .inl dz))]) rfl rfl rfl (nl rfl) rfl d_Model_nothing_23 ?_
    exact j_vret (pc := 26) C hr dz ⟨(show ZRO dz 63 from (show iz = 63 by omega) ▸ hp_), nw_zro (show ZRO dz 63 from (show iz = 63 by omega) ▸ hp_)⟩ [0, 1] rfl (by decide) (by decide) (by decide) d_Model_nothing_26
  · refine j_icmp_geF (pc := 5) C (tgt := 21) d_Model_nothing_5 (by decide) (show ¬ nI 63 ≤ nI iz from nI_ge (by omega) (by omega)) ?_
    refine j_aload_n (pc := 8) C d_Model_nothing_8 rfl 1 rfl ?_
    refine j_get (pc := 9) C gf_Model_158 0 rfl rfl d_Model_nothing_9 ?_
    refine j_iload_n (pc := 12) C d_Model_nothing_12 rfl 0 rfl ?_
    refine j_iconst (pc := 13) C (v := 0) d_Model_nothing_13 (by decide) ?_
    refine j_iast (pc := 14) C 1 rfl (ws' := [MB mo ma (nI t1) i2 i3 i4 i5 i6 i7 i8 i42 i49 i51 i53 i54 i59 i61 i64 i66 (nI t67) i76 i78, (ma 62, .inl (y 0, 63, .inl (upd dz iz 0)))]) (vp_in_nI (by omega) (by decide)) (by rw [nI_clamp (by omega)]; rfl) d_Model_nothing_14 ?_
    refine j_iinc (pc := 15) C (v := nI (iz + 1)) (lv' := [(1, .int (nI (iz + 1))), (0, .ref mo)]) d_Model_nothing_15 0 rfl (nI_add _ _) (by decide) rfl ?_
    refine j_goto (pc := 18) C (tgt := 2) d_Model_nothing_18 (by decide) ?_
    exact ih3 ((iz + 1), (upd dz iz 0)) ⟨(show (iz + 1) ≤ 63 by omega), (zro_up hp_)⟩ (show 63 - (iz + 1) < 63 - iz by omega)
set_option maxHeartbeats 4000000 in
set_option maxRecDepth 100000 in
theorem c_m_act_y (l : Launch) (D : va_G) (y : Nat → ClassId) (mo : Nat) (ma : Nat → Nat) (t1 : Nat) (i2 : Int32) (i3 : Int32) (i4 : Int32) (i5 : Int32) (i6 : Int32) (i7 : Int32) (i8 : Int32) (i42 : Int32) (i49 : Int32) (i51 : Int32) (i53 : Int32) (i54 : Int32) (i59 : Int32) (i61 : Int32) (i64 : Int32) (cn : Nat) (ix : Nat) (i76 : Int64) (i78 : Int32) (g43 : Nat → Int32) (g45 : Nat → Int32) (g46 : Nat → Int32) (g47 : Nat → Int32) (g48 : Nat → Int32) (g50 : Nat → Int32) (g55 : Nat → Int32) (g56 : Nat → Int32) (g57 : Nat → Int32) (g58 : Nat → Int32) (g60 : Nat → Int64) (g62 : Nat → Int32) (g63 : Nat → Int32) (g65 : Nat → Int32) (aq : Nat) (gt : LA_) (dy : Nat) (wa : Nat) (la : Nat) (bd : Nat → Nat) (fl : Nat → Nat) (st : Nat → Nat) (wo : Nat → Int) (ly : Nat → Int) (se : Nat → Nat) (su : Nat → Nat) (pp : Nat → ST_) (hto : TOQ gt) (hnw : NW g62 0 dy wa la bd fl st wo ly se su) (hs_many : MC gt (fun j => g43 (4 + j))) (hs_lake : LR gt (fun j => g45 (7 + j))) (hs_gates : GR gt (fun j => g46 (54 + j))) (hs_gateOf : OR_ gt (fun j => g47 (6 + j))) (hs_things : TR gt (fun j => g48 (112 + j))) (hs_codes : CD gt.cs (fun j => g50 (1600 + j)) gt.cs.length) (hs_rules : SLR gt g55 g56 g57 g58) (hbd : BN (gt.s 9) bd 20) (hwa : wa ≤ 9999) (hla : la ≤ 2) (hc : cn ≤ 30) (hi : ix < 30) (hdr : DREL g65 cn ix pp) (hdy : dy < 999) (ha : aq ≤ 2) (hm : mayT gt bd la dy 0 aq) : CT l D y ⟨"NineBoardsModel", "act", "(I)I"⟩ prog_13_method_81_code 2 (some .int) ({ frames := 5, cells := 0, slots := 0, locals := 129 } : Room) [.ref mo, .int (nI aq)] [MB mo ma (nI t1) i2 i3 i4 i5 i6 i7 i8 i42 i49 i51 i53 i54 i59 i61 i64 (nI cn) (nI ix) i76 i78, (ma 43, .inl (y 0, 8, .inl g43)), (ma 45, .inl (y 0, 14, .inl g45)), (ma 46, .inl (y 0, 108, .inl g46)), (ma 47, .inl (y 0, 12, .inl g47)), (ma 48, .inl (y 0, 224, .inl g48)), (ma 50, .inl (y 0, 3200, .inl g50)), (ma 55, .inl (y 2, 16, .inl g55)), (ma 56, .inl (y 0, 16, .inl g56)), (ma 57, .inl (y 0, 16, .inl g57)), (ma 58, .inl (y 0, 16, .inl g58)), (ma 60, .inl (y 1, 1700, .inr (.inl g60))), (ma 62, .inl (y 0, 63, .inl g62)), (ma 63, .inl (y 0, 9, .inl g63)), (ma 65, .inl (y 0, 1890, .inl g65))] (QI D [MB mo ma (nI t1) i2 i3 i4 i5 i6 i7 i8 i42 i49 i51 i53 i54 i59 i61 i64 (nI cn) (nI ix) i76 i78, (ma 43, .inl (y 0, 8, .inl g43)), (ma 45, .inl (y 0, 14, .inl g45)), (ma 46, .inl (y 0, 108, .inl g46)), (ma 47, .inl (y 0, 12, .inl g47)), (ma 48, .inl (y 0, 224, .inl g48)), (ma 50, .inl (y 0, 3200, .inl g50)), (ma 55, .inl (y 2, 16, .inl g55)), (ma 56, .inl (y 0, 16, .inl g56)), (ma 57, .inl (y 0, 16, .inl g57)), (ma 58, .inl (y 0, 16, .inl g58)), (ma 60, .inl (y 1, 1700, .inr (.inl g60))), (ma 62, .inl (y 0, 63, .inl g62)), (ma 63, .inl (y 0, 9, .inl g63)), (ma 65, .inl (y 0, 1890, .inl g65))] (fun (r : Int32) (u : (Nat → Int32) × (Nat → Int32) × (Nat → Int32) × (Nat → Int64) × Int32 × Int32) => r = nI (ST_.wa (dayT gt ((dy, wa, actL la aq), actB gt bd dy aq, fl, st, wo, ly, se, su) 0) / gt.s 1) ∧ NW u.1 0 (ST_.dy (dayT gt ((dy, wa, actL la aq), actB gt bd dy aq, fl, st, wo, ly, se, su) 0)) (ST_.wa (dayT gt ((dy, wa, actL la aq), actB gt bd dy aq, fl, st, wo, ly, se, su) 0)) (ST_.la (dayT gt ((dy, wa, actL la aq), actB gt bd dy aq, fl, st, wo, ly, se, su) 0)) (ST_.bd (dayT gt ((dy, wa, actL la aq), actB gt bd dy aq, fl, st, wo, ly, se, su) 0)) (ST_.fl (dayT gt ((dy, wa, actL la aq), actB gt bd dy aq, fl, st, wo, ly, se, su) 0)) (ST_.st (dayT gt ((dy, wa, actL la aq), actB gt bd dy aq, fl, st, wo, ly, se, su) 0)) (ST_.wo (dayT gt ((dy, wa, actL la aq), actB gt bd dy aq, fl, st, wo, ly, se, su) 0)) (ST_.ly (dayT gt ((dy, wa, actL la aq), actB gt bd dy aq, fl, st, wo, ly, se, su) 0)) (ST_.se (dayT gt ((dy, wa, actL la aq), actB gt bd dy aq, fl, st, wo, ly, se, su) 0)) (ST_.su (dayT gt ((dy, wa, actL la aq), actB gt bd dy aq, fl, st, wo, ly, se, su) 0)) ∧ DREL u.2.1 (min 30 (cn + 1)) ((ix + 1) % 30) (pushP ((dy, wa, la), bd, fl, st, wo, ly, se, su) pp)) (fun u => [MB mo ma (nI t1) i2 i3 i4 i5 i6 i7 i8 i42 i49 i51 i53 i54 i59 u.2.2.2.2.1 u.2.2.2.2.2 (nI (min 30 (cn + 1))) (nI ((ix + 1) % 30)) i76 i78, (ma 43, .inl (y 0, 8, .inl g43)), (ma 45, .inl (y 0, 14, .inl g45)), (ma 46, .inl (y 0, 108, .inl g46)), (ma 47, .inl (y 0, 12, .inl g47)), (ma 48, .inl (y 0, 224, .inl g48)), (ma 50, .inl (y 0, 3200, .inl g50)), (ma 55, .inl (y 2, 16, .inl g55)), (ma 56, .inl (y 0, 16, .inl g56)), (ma 57, .inl (y 0, 16, .inl g57)), (ma 58, .inl (y 0, 16, .inl g58)), (ma 60, .inl (y 1, 1700, .inr (.inl u.2.2.2.1))), (ma 62, .inl (y 0, 63, .inl u.1)), (ma 63, .inl (y 0, 9, .inl u.2.2.1)), (ma 65, .inl (y 0, 1890, .inl u.2.1))])) := by
  refine CT.of (by decide) (nb rfl) ?_
  intro p e s m args below meth c C hr
  refine j_lv (lv' := [(0, .ref mo), (1, .int (nI aq))]) rfl ?_
  obtain ⟨_, _, _, _, b9, b4, b10, b11⟩ := id hs_many
  obtain ⟨b1, b1x, b2, b2x, b3, b5, b6, b7, b8⟩ := to_n hto
  refine j_iload_n (pc := 0) C d_Model_act_0 rfl 1 rfl ?_
  refine j_i2l (pc := 1) C (v := nL aq) d_Model_act_1 (nId_L (by omega)) ?_
  refine j_lconst (pc := 2) C (v := 0) d_Model_act_2 (by decide) ?_
  refine j_ldc2 (pc := 3) C (v := 2) (mt_7 (List.mem_of_getElem? (i := 115) rfl) rfl) d_Model_act_3 ?_
  refine j_callSi (pc := 6) C (c_misInN l D y aq 0 2 (by omega) (by omega) (by omega)) kw_Model_240 ks_Model_isIn ⟨by decide, by decide⟩ ⟨by decide, by decide⟩ (wr := [MB mo ma (nI t1) i2 i3 i4 i5 i6 i7 i8 i42 i49 i51 i53 i54 i59 i61 i64 (nI cn) (nI ix) i76 i78, (ma 43, .inl (y 0, 8, .inl g43)), (ma 45, .inl (y 0, 14, .inl g45)), (ma 46, .inl (y 0, 108, .inl g46)), (ma 47, .inl (y 0, 12, .inl g47)), (ma 48, .inl (y 0, 224, .inl g48)), (ma 50, .inl (y 0, 3200, .inl g50)), (ma 55, .inl (y 2, 16, .inl g55)), (ma 56, .inl (y 0, 16, .inl g56)), (ma 57, .inl (y 0, 16, .inl g57)), (ma 58, .inl (y 0, 16, .inl g58)), (ma 60, .inl (y 1, 1700, .inr (.inl g60))), (ma 62, .inl (y 0, 63, .inl g62)), (ma 63, .inl (y 0, 9, .inl g63)), (ma 65, .inl (y 0, 1890, .inl g65))]) [] [0, 1, 2, 3, 4, 5, 6, 7, 8, 9, 10, 11, 12, 13, 14] rfl rfl (by decide +kernel) (by decide +kernel) (by decide +kernel) (As := [.long (nL aq), .long 0, .long 2]) (rest := []) rfl (nb rfl) rfl d_Model_act_6 (fun r1 _ hr1 => ?_)
  refine j_ws (ws' := [MB mo ma (nI t1) i2 i3 i4 i5 i6 i7 i8 i42 i49 i51 i53 i54 i59 i61 i64 (nI cn) (nI ix) i76 i78, (ma 43, .inl (y 0, 8, .inl g43)), (ma 45, .inl (y 0, 14, .inl g45)), (ma 46, .inl (y 0, 108, .inl g46)), (ma 47, .inl (y 0, 12, .inl g47)), (ma 48, .inl (y 0, 224, .inl g48)), (ma 50, .inl (y 0, 3200, .inl g50)), (ma 55, .inl (y 2, 16, .inl g55)), (ma 56, .inl (y 0, 16, .inl g56)), (ma 57, .inl (y 0, 16, .inl g57)), (ma 58, .inl (y 0, 16, .inl g58)), (ma 60, .inl (y 1, 1700, .inr (.inl g60))), (ma 62, .inl (y 0, 63, .inl g62)), (ma 63, .inl (y 0, 9, .inl g63)), (ma 65, .inl (y 0, 1890, .inl g65))]) rfl ?_
  rcases hr1 with ⟨rfl, xh3⟩ | ⟨rfl, xh4⟩
  · refine j_if_eqF (pc := 9) C (tgt := 33) d_Model_act_9 (by decide) (by decide) ?_
    refine j_aload_n (pc := 12) C d_Model_act_12 rfl 0 rfl ?_
    refine j_get (pc := 13) C gf_Model_158 0 rfl rfl d_Model_act_13 ?_
    refine j_iconst (pc := 16) C (v := 0) d_Model_act_16 (by decide) ?_
    refine j_iald (pc := 17) C 12 rfl (v := nI dy) (vin (by decide)) (nw_dy hnw) d_Model_act_17 ?_
    refine j_sipush (pc := 18) C (v := 999) d_Model_act_18 (by decide) ?_
    refine j_icmp_eqF (pc := 21) C (tgt := 33) d_Model_act_21 (by decide) (show ¬ nI dy = nI 999 from fun e => absurd ((nI_eq (by omega) (by omega)).mp e) (by omega)) ?_
    refine j_aload_n (pc := 24) C d_Model_act_24 rfl 0 rfl ?_
    refine j_iconst (pc := 25) C (v := 0) d_Model_act_25 (by decide) ?_
    refine j_iload_n (pc := 26) C d_Model_act_26 rfl 1 rfl ?_
    refine j_callVi (pc := 27) C (c_mmayDo l D y mo ma t1 i2 i3 i4 i5 i6 i7 i8 i42 i49 i51 i53 i54 i59 i61 i64 (nI cn) ix i76 i78 g43 g46 g47 g62 0 aq gt dy wa la bd fl st wo ly se su hto hnw hs_many hs_gates hs_gateOf hbd (by omega) ha (by omega) hla) kw_Model_478 kv_Model_mayDo 0 10 rfl rfl ⟨by decide, by decide⟩ ⟨by decide, by decide⟩ (wr := [(ma 45, .inl (y 0, 14, .inl g45)), (ma 48, .inl (y 0, 224, .inl g48)), (ma 50, .inl (y 0, 3200, .inl g50)), (ma 55, .inl (y 2, 16, .inl g55)), (ma 56, .inl (y 0, 16, .inl g56)), (ma 57, .inl (y 0, 16, .inl g57)), (ma 58, .inl (y 0, 16, .inl g58)), (ma 60, .inl (y 1, 1700, .inr (.inl g60))), (ma 63, .inl (y 0, 9, .inl g63)), (ma 65, .inl (y 0, 1890, .inl g65))]) [0, 1, 3, 4, 12] [2, 5, 6, 7, 8, 9, 10, 11, 13, 14] rfl rfl (by decide +kernel) (by decide +kernel) (by decide +kernel) (As := [.int 0, .int (nI aq)]) (rest := []) rfl (nb rfl) rfl d_Model_act_27 (fun r5 _ hr5 => ?_)
    refine j_ws (ws' := [(ma 45, .inl (y 0, 14, .inl g45)), (ma 48, .inl (y 0, 224, .inl g48)), (ma 50, .inl (y 0, 3200, .inl g50)), (ma 55, .inl (y 2, 16, .inl g55)), (ma 56, .inl (y 0, 16, .inl g56)), (ma 57, .inl (y 0, 16, .inl g57)), (ma 58, .inl (y 0, 16, .inl g58)), (ma 60, .inl (y 1, 1700, .inr (.inl g60))), (ma 63, .inl (y 0, 9, .inl g63)), (ma 65, .inl (y 0, 1890, .inl g65)), MB mo ma (nI t1) i2 i3 i4 i5 i6 i7 i8 i42 i49 i51 i53 i54 i59 i61 i64 (nI cn) (nI ix) i76 i78, (ma 43, .inl (y 0, 8, .inl g43)), (ma 46, .inl (y 0, 108, .inl g46)), (ma 47, .inl (y 0, 12, .inl g47)), (ma 62, .inl (y 0, 63, .inl g62))]) rfl ?_
    rcases hr5 with ⟨rfl, xh7⟩ | ⟨rfl, xh8⟩
    · refine j_if_neT (pc := 30) C (tgt := 35) d_Model_act_30 (by decide) (by decide) ?_
      refine j_aload_n (pc := 35) C d_Model_act_35 rfl 0 rfl ?_
      refine j_callVv (pc := 36) C (c_mkeepsDay l D y mo ma t1 i2 i3 i4 i5 i6 i7 i8 i42 i49 i51 i53 i54 i59 i61 i64 cn ix i76 i78 g62 g65 hc hi) kw_Model_482 kv_Model_keepsDay 0 10 rfl rfl ⟨by decide, by decide⟩ ⟨by decide, by decide⟩ (wr := [(ma 45, .inl (y 0, 14, .inl g45)), (ma 48, .inl (y 0, 224, .inl g48)), (ma 50, .inl (y 0, 3200, .inl g50)), (ma 55, .inl (y 2, 16, .inl g55)), (ma 56, .inl (y 0, 16, .inl g56)), (ma 57, .inl (y 0, 16, .inl g57)), (ma 58, .inl (y 0, 16, .inl g58)), (ma 60, .inl (y 1, 1700, .inr (.inl g60))), (ma 63, .inl (y 0, 9, .inl g63)), (ma 43, .inl (y 0, 8, .inl g43)), (ma 46, .inl (y 0, 108, .inl g46)), (ma 47, .inl (y 0, 12, .inl g47))]) [10, 14, 9] [0, 1, 2, 3, 4, 5, 6, 7, 8, 11, 12, 13] rfl rfl (by decide +kernel) (by decide +kernel) (by decide +kernel) (As := []) (rest := []) rfl (nb rfl) rfl d_Model_act_36 (fun u9 hu10 => ?_)
      obtain ⟨xh11, xh12⟩ := hu10
      refine j_ws (ws' := [(ma 45, .inl (y 0, 14, .inl g45)), (ma 48, .inl (y 0, 224, .inl g48)), (ma 50, .inl (y 0, 3200, .inl g50)), (ma 55, .inl (y 2, 16, .inl g55)), (ma 56, .inl (y 0, 16, .inl g56)), (ma 57, .inl (y 0, 16, .inl g57)), (ma 58, .inl (y 0, 16, .inl g58)), (ma 60, .inl (y 1, 1700, .inr (.inl g60))), (ma 63, .inl (y 0, 9, .inl g63)), (ma 43, .inl (y 0, 8, .inl g43)), (ma 46, .inl (y 0, 108, .inl g46)), (ma 47, .inl (y 0, 12, .inl g47)), MB mo ma (nI t1) i2 i3 i4 i5 i6 i7 i8 i42 i49 i51 i53 i54 i59 i61 i64 (nI (min 30 (cn + 1))) (nI ((ix + 1) % 30)) i76 i78, (ma 62, .inl (y 0, 63, .inl g62)), (ma 65, .inl (y 0, 1890, .inl u9))]) rfl ?_
      refine j_aload_n (pc := 39) C d_Model_act_39 rfl 0 rfl ?_
      refine j_iload_n (pc := 40) C d_Model_act_40 rfl 1 rfl ?_
      refine j_callVv (pc := 41) C (c_macts l D y mo ma t1 i2 i3 i4 i5 i6 i7 i8 i42 i49 i51 i53 i54 i59 i61 i64 (nI (min 30 (cn + 1))) ((ix + 1) % 30) i76 i78 g43 g46 g47 g62 aq gt dy wa la bd fl st wo ly se su hto hnw hs_many hs_gates hs_gateOf hbd (by omega) ha (may_pass hm)) kw_Model_485 kv_Model_acts 0 10 rfl rfl ⟨by decide, by decide⟩ ⟨by decide, by decide⟩ (wr := [(ma 45, .inl (y 0, 14, .inl g45)), (ma 48, .inl (y 0, 224, .inl g48)), (ma 50, .inl (y 0, 3200, .inl g50)), (ma 55, .inl (y 2, 16, .inl g55)), (ma 56, .inl (y 0, 16, .inl g56)), (ma 57, .inl (y 0, 16, .inl g57)), (ma 58, .inl (y 0, 16, .inl g58)), (ma 60, .inl (y 1, 1700, .inr (.inl g60))), (ma 63, .inl (y 0, 9, .inl g63)), (ma 65, .inl (y 0, 1890, .inl u9))]) [12, 9, 10, 11, 13] [0, 1, 2, 3, 4, 5, 6, 7, 8, 14] rfl rfl (by decide +kernel) (by decide +kernel) (by decide +kernel) (As := [.int (nI aq)]) (rest := []) rfl (nb rfl) rfl d_Model_act_41 (fun u13 hu14 => ?_)
      obtain ⟨xh15, xh16⟩ := hu14
      refine j_ws (ws' := [(ma 45, .inl (y 0, 14, .inl g45)), (ma 48, .inl (y 0, 224, .inl g48)), (ma 50, .inl (y 0, 3200, .inl g50)), (ma 55, .inl (y 2, 16, .inl g55)), (ma 56, .inl (y 0, 16, .inl g56)), (ma 57, .inl (y 0, 16, .inl g57)), (ma 58, .inl (y 0, 16, .inl g58)), (ma 60, .inl (y 1, 1700, .inr (.inl g60))), (ma 63, .inl (y 0, 9, .inl g63)), (ma 65, .inl (y 0, 1890, .inl u9)), MB mo ma (nI t1) i2 i3 i4 i5 i6 i7 i8 i42 i49 i51 i53 i54 i59 i61 i64 (nI (min 30 (cn + 1))) (nI ((ix + 1) % 30)) i76 i78, (ma 43, .inl (y 0, 8, .inl g43)), (ma 46, .inl (y 0, 108, .inl g46)), (ma 47, .inl (y 0, 12, .inl g47)), (ma 62, .inl (y 0, 63, .inl u13))]) rfl ?_
      refine j_aload_n (pc := 44) C d_Model_act_44 rfl 0 rfl ?_
      refine j_iconst (pc := 45) C (v := 0) d_Model_act_45 (by decide) ?_
      refine j_callVv (pc := 46) C (c_mgoesBy l D y mo ma t1 i2 i3 i4 i5 i6 i7 i8 i42 i49 i51 i53 i54 i59 i61 i64 (nI (min 30 (cn + 1))) ((ix + 1) % 30) i76 i78 g43 g45 g46 g48 g50 g55 g56 g57 g58 g60 u13 g63 0 gt dy wa (actL la aq) (actB gt bd dy aq) fl st wo ly se su hto xh15 hs_many hs_lake hs_gates hs_things hs_codes hs_rules xh16 (by omega) hwa (by omega)) kw_Model_488 kv_Model_goesBy 0 10 rfl rfl ⟨by decide, by decide⟩ ⟨by decide, by decide⟩ (wr := [(ma 65, .inl (y 0, 1890, .inl u9)), (ma 47, .inl (y 0, 12, .inl g47))]) [10, 11, 0, 12, 1, 2, 3, 4, 5, 6, 7, 14, 8] [9, 13] rfl rfl (by decide +kernel) (by decide +kernel) (by decide +kernel) (As := [.int 0]) (rest := []) rfl (nb rfl) rfl d_Model_act_46 (fun u17 hu18 => ?_)
      obtain ⟨xh19, xh20, xh21⟩ := hu18
      refine j_ws (ws' := [(ma 65, .inl (y 0, 1890, .inl u9)), (ma 47, .inl (y 0, 12, .inl g47)), MB mo ma (nI t1) i2 i3 i4 i5 i6 i7 i8 i42 i49 i51 i53 i54 i59 u17.2.2.2 (nI (spT gt ((dy, wa, (actL la aq)), (actB gt bd dy aq), fl, st, wo, ly, se, su) 0)) (nI (min 30 (cn + 1))) (nI ((ix + 1) % 30)) i76 i78, (ma 43, .inl (y 0, 8, .inl g43)), (ma 45, .inl (y 0, 14, .inl g45)), (ma 46, .inl (y 0, 108, .inl g46)), (ma 48, .inl (y 0, 224, .inl g48)), (ma 50, .inl (y 0, 3200, .inl g50)), (ma 55, .inl (y 2, 16, .inl g55)), (ma 56, .inl (y 0, 16, .inl g56)), (ma 57, .inl (y 0, 16, .inl g57)), (ma 58, .inl (y 0, 16, .inl g58)), (ma 60, .inl (y 1, 1700, .inr (.inl u17.2.2.1))), (ma 62, .inl (y 0, 63, .inl u17.1)), (ma 63, .inl (y 0, 9, .inl u17.2.1))]) rfl ?_
      refine j_aload_n (pc := 49) C d_Model_act_49 rfl 0 rfl ?_
      refine j_callVi (pc := 50) C (c_mlevel l D y mo ma t1 i2 i3 i4 i5 i6 i7 i8 i42 i49 i51 i53 i54 i59 u17.2.2.2 (nI (spT gt ((dy, wa, (actL la aq)), (actB gt bd dy aq), fl, st, wo, ly, se, su) 0)) (nI (min 30 (cn + 1))) ((ix + 1) % 30) i76 i78 g45 u17.1 gt (ST_.dy (dayT gt ((dy, wa, (actL la aq)), (actB gt bd dy aq), fl, st, wo, ly, se, su) 0)) (ST_.wa (dayT gt ((dy, wa, (actL la aq)), (actB gt bd dy aq), fl, st, wo, ly, se, su) 0)) (ST_.la (dayT gt ((dy, wa, (actL la aq)), (actB gt bd dy aq), fl, st, wo, ly, se, su) 0)) (ST_.bd (dayT gt ((dy, wa, (actL la aq)), (actB gt bd dy aq), fl, st, wo, ly, se, su) 0)) (ST_.fl (dayT gt ((dy, wa, (actL la aq)), (actB gt bd dy aq), fl, st, wo, ly, se, su) 0)) (ST_.st (dayT gt ((dy, wa, (actL la aq)), (actB gt bd dy aq), fl, st, wo, ly, se, su) 0)) (ST_.wo (dayT gt ((dy, wa, (actL la aq)), (actB gt bd dy aq), fl, st, wo, ly, se, su) 0)) (ST_.ly (dayT gt ((dy, wa, (actL la aq)), (actB gt bd dy aq), fl, st, wo, ly, se, su) 0)) (ST_.se (dayT gt ((dy, wa, (actL la aq)), (actB gt bd dy aq), fl, st, wo, ly, se, su) 0)) (ST_.su (dayT gt ((dy, wa, (actL la aq)), (actB gt bd dy aq), fl, st, wo, ly, se, su) 0)) hto xh19 hs_lake (by omega)) kw_Model_427 kv_Model_level 0 10 rfl rfl ⟨by decide, by decide⟩ ⟨by decide, by decide⟩ (wr := [(ma 65, .inl (y 0, 1890, .inl u9)), (ma 47, .inl (y 0, 12, .inl g47)), (ma 43, .inl (y 0, 8, .inl g43)), (ma 46, .inl (y 0, 108, .inl g46)), (ma 48, .inl (y 0, 224, .inl g48)), (ma 50, .inl (y 0, 3200, .inl g50)), (ma 55, .inl (y 2, 16, .inl g55)), (ma 56, .inl (y 0, 16, .inl g56)), (ma 57, .inl (y 0, 16, .inl g57)), (ma 58, .inl (y 0, 16, .inl g58)), (ma 60, .inl (y 1, 1700, .inr (.inl u17.2.2.1))), (ma 63, .inl (y 0, 9, .inl u17.2.1))]) [2, 4, 13] [0, 1, 3, 5, 6, 7, 8, 9, 10, 11, 12, 14] rfl rfl (by decide +kernel) (by decide +kernel) (by decide +kernel) (As := []) (rest := []) rfl (nb rfl) rfl d_Model_act_50 (fun r22 _ hr22 => ?_)
      obtain rfl := hr22
      refine j_ws (ws' := [(ma 65, .inl (y 0, 1890, .inl u9)), (ma 47, .inl (y 0, 12, .inl g47)), (ma 43, .inl (y 0, 8, .inl g43)), (ma 46, .inl (y 0, 108, .inl g46)), (ma 48, .inl (y 0, 224, .inl g48)), (ma 50, .inl (y 0, 3200, .inl g50)), (ma 55, .inl (y 2, 16, .inl g55)), (ma 56, .inl (y 0, 16, .inl g56)), (ma 57, .inl (y 0, 16, .inl g57)), (ma 58, .inl (y 0, 16, .inl g58)), (ma 60, .inl (y 1, 1700, .inr (.inl u17.2.2.1))), (ma 63, .inl (y 0, 9, .inl u17.2.1)), MB mo ma (nI t1) i2 i3 i4 i5 i6 i7 i8 i42 i49 i51 i53 i54 i59 u17.2.2.2 (nI (spT gt ((dy, wa, (actL la aq)), (actB gt bd dy aq), fl, st, wo, ly, se, su) 0)) (nI (min 30 (cn + 1))) (nI ((ix + 1) % 30)) i76 i78, (ma 45, .inl (y 0, 14, .inl g45)), (ma 62, .inl (y 0, 63, .inl u17.1))]) rfl ?_
      exact j_iret (pc := 53) C hr rfl (u17.1, u9, u17.2.1, u17.2.2.1, u17.2.2.2, nI (spT gt ((dy, wa, (actL la aq)), (actB gt bd dy aq), fl, st, wo, ly, se, su) 0)) ⟨rfl, xh19, drel_push hdr hc hi hnw xh11 xh12⟩ [12, 2, 13, 3, 1, 4, 5, 6, 7, 8, 9, 10, 14, 11, 0] rfl (by decide) (by decide) (by decide) d_Model_act_53
    · exact absurd (may_to hm) xh8
  · exact absurd ⟨by omega, by omega⟩ xh4
set_option maxHeartbeats 4000000 in
set_option maxRecDepth 100000 in
theorem c_m_act_n (l : Launch) (D : va_G) (y : Nat → ClassId) (mo : Nat) (ma : Nat → Nat) (t1 : Nat) (i2 : Int32) (i3 : Int32) (i4 : Int32) (i5 : Int32) (i6 : Int32) (i7 : Int32) (i8 : Int32) (i42 : Int32) (i49 : Int32) (i51 : Int32) (i53 : Int32) (i54 : Int32) (i59 : Int32) (i61 : Int32) (i64 : Int32) (cn : Nat) (ix : Nat) (i76 : Int64) (i78 : Int32) (g43 : Nat → Int32) (g45 : Nat → Int32) (g46 : Nat → Int32) (g47 : Nat → Int32) (g48 : Nat → Int32) (g50 : Nat → Int32) (g55 : Nat → Int32) (g56 : Nat → Int32) (g57 : Nat → Int32) (g58 : Nat → Int32) (g60 : Nat → Int64) (g62 : Nat → Int32) (g63 : Nat → Int32) (g65 : Nat → Int32) (v : Int32) (gt : LA_) (dy : Nat) (wa : Nat) (la : Nat) (bd : Nat → Nat) (fl : Nat → Nat) (st : Nat → Nat) (wo : Nat → Int) (ly : Nat → Int) (se : Nat → Nat) (su : Nat → Nat) (hto : TOQ gt) (hnw : NW g62 0 dy wa la bd fl st wo ly se su) (hs_many : MC gt (fun j => g43 (4 + j))) (hs_gates : GR gt (fun j => g46 (54 + j))) (hs_gateOf : OR_ gt (fun j => g47 (6 + j))) (hbd : BN (gt.s 9) bd 20) (hla : la ≤ 2) (hdy : dy ≤ 999) (hno : ¬ OKA gt bd la dy v) : CT l D y ⟨"NineBoardsModel", "act", "(I)I"⟩ prog_13_method_81_code 2 (some .int) ({ frames := 4, cells := 0, slots := 0, locals := 94 } : Room) [.ref mo, .int v] [MB mo ma (nI t1) i2 i3 i4 i5 i6 i7 i8 i42 i49 i51 i53 i54 i59 i61 i64 (nI cn) (nI ix) i76 i78, (ma 43, .inl (y 0, 8, .inl g43)), (ma 45, .inl (y 0, 14, .inl g45)), (ma 46, .inl (y 0, 108, .inl g46)), (ma 47, .inl (y 0, 12, .inl g47)), (ma 48, .inl (y 0, 224, .inl g48)), (ma 50, .inl (y 0, 3200, .inl g50)), (ma 55, .inl (y 2, 16, .inl g55)), (ma 56, .inl (y 0, 16, .inl g56)), (ma 57, .inl (y 0, 16, .inl g57)), (ma 58, .inl (y 0, 16, .inl g58)), (ma 60, .inl (y 1, 1700, .inr (.inl g60))), (ma 62, .inl (y 0, 63, .inl g62)), (ma 63, .inl (y 0, 9, .inl g63)), (ma 65, .inl (y 0, 1890, .inl g65))] (QI D [MB mo ma (nI t1) i2 i3 i4 i5 i6 i7 i8 i42 i49 i51 i53 i54 i59 i61 i64 (nI cn) (nI ix) i76 i78, (ma 43, .inl (y 0, 8, .inl g43)), (ma 45, .inl (y 0, 14, .inl g45)), (ma 46, .inl (y 0, 108, .inl g46)), (ma 47, .inl (y 0, 12, .inl g47)), (ma 48, .inl (y 0, 224, .inl g48)), (ma 50, .inl (y 0, 3200, .inl g50)), (ma 55, .inl (y 2, 16, .inl g55)), (ma 56, .inl (y 0, 16, .inl g56)), (ma 57, .inl (y 0, 16, .inl g57)), (ma 58, .inl (y 0, 16, .inl g58)), (ma 60, .inl (y 1, 1700, .inr (.inl g60))), (ma 62, .inl (y 0, 63, .inl g62)), (ma 63, .inl (y 0, 9, .inl g63)), (ma 65, .inl (y 0, 1890, .inl g65))] (fun (r : Int32) (u : Unit) => r = -1) (fun _ => [MB mo ma (nI t1) i2 i3 i4 i5 i6 i7 i8 i42 i49 i51 i53 i54 i59 i61 i64 (nI cn) (nI ix) i76 i78, (ma 43, .inl (y 0, 8, .inl g43)), (ma 45, .inl (y 0, 14, .inl g45)), (ma 46, .inl (y 0, 108, .inl g46)), (ma 47, .inl (y 0, 12, .inl g47)), (ma 48, .inl (y 0, 224, .inl g48)), (ma 50, .inl (y 0, 3200, .inl g50)), (ma 55, .inl (y 2, 16, .inl g55)), (ma 56, .inl (y 0, 16, .inl g56)), (ma 57, .inl (y 0, 16, .inl g57)), (ma 58, .inl (y 0, 16, .inl g58)), (ma 60, .inl (y 1, 1700, .inr (.inl g60))), (ma 62, .inl (y 0, 63, .inl g62)), (ma 63, .inl (y 0, 9, .inl g63)), (ma 65, .inl (y 0, 1890, .inl g65))])) := by
  refine CT.of (by decide) (nb rfl) ?_
  intro p e s m args below meth c C hr
  refine j_lv (lv' := [(0, .ref mo), (1, .int v)]) rfl ?_
  obtain ⟨_, _, _, _, b9, b4, b10, b11⟩ := id hs_many
  obtain ⟨b1, b1x, b2, b2x, b3, b5, b6, b7, b8⟩ := to_n hto
  refine j_iload_n (pc := 0) C d_Model_act_0 rfl 1 rfl ?_
  refine j_i2l (pc := 1) C (v := v.toInt64) d_Model_act_1 rfl ?_
  refine j_lconst (pc := 2) C (v := 0) d_Model_act_2 (by decide) ?_
  refine j_ldc2 (pc := 3) C (v := 2) (mt_7 (List.mem_of_getElem? (i := 115) rfl) rfl) d_Model_act_3 ?_
  refine j_callSi (pc := 6) C (c_isInx_0_2 l D y v) kw_Model_240 ks_Model_isIn ⟨by decide, by decide⟩ ⟨by decide, by decide⟩ (wr := [MB mo ma (nI t1) i2 i3 i4 i5 i6 i7 i8 i42 i49 i51 i53 i54 i59 i61 i64 (nI cn) (nI ix) i76 i78, (ma 43, .inl (y 0, 8, .inl g43)), (ma 45, .inl (y 0, 14, .inl g45)), (ma 46, .inl (y 0, 108, .inl g46)), (ma 47, .inl (y 0, 12, .inl g47)), (ma 48, .inl (y 0, 224, .inl g48)), (ma 50, .inl (y 0, 3200, .inl g50)), (ma 55, .inl (y 2, 16, .inl g55)), (ma 56, .inl (y 0, 16, .inl g56)), (ma 57, .inl (y 0, 16, .inl g57)), (ma 58, .inl (y 0, 16, .inl g58)), (ma 60, .inl (y 1, 1700, .inr (.inl g60))), (ma 62, .inl (y 0, 63, .inl g62)), (ma 63, .inl (y 0, 9, .inl g63)), (ma 65, .inl (y 0, 1890, .inl g65))]) [] [0, 1, 2, 3, 4, 5, 6, 7, 8, 9, 10, 11, 12, 13, 14] rfl rfl (by decide +kernel) (by decide +kernel) (by decide +kernel) (As := [.long v.toInt64, .long 0, .long 2]) (rest := []) rfl (nb rfl) rfl d_Model_act_6 (fun r1 _ hr1 => ?_)
  refine j_ws (ws' := [MB mo ma (nI t1) i2 i3 i4 i5 i6 i7 i8 i42 i49 i51 i53 i54 i59 i61 i64 (nI cn) (nI ix) i76 i78, (ma 43, .inl (y 0, 8, .inl g43)), (ma 45, .inl (y 0, 14, .inl g45)), (ma 46, .inl (y 0, 108, .inl g46)), (ma 47, .inl (y 0, 12, .inl g47)), (ma 48, .inl (y 0, 224, .inl g48)), (ma 50, .inl (y 0, 3200, .inl g50)), (ma 55, .inl (y 2, 16, .inl g55)), (ma 56, .inl (y 0, 16, .inl g56)), (ma 57, .inl (y 0, 16, .inl g57)), (ma 58, .inl (y 0, 16, .inl g58)), (ma 60, .inl (y 1, 1700, .inr (.inl g60))), (ma 62, .inl (y 0, 63, .inl g62)), (ma 63, .inl (y 0, 9, .inl g63)), (ma 65, .inl (y 0, 1890, .inl g65))]) rfl ?_
  rcases hr1 with ⟨rfl, xh4⟩ | ⟨rfl, j2, xh3, rfl⟩
  · refine j_if_eqT (pc := 9) C (tgt := 33) d_Model_act_9 (by decide) (by decide) ?_
    refine j_iconst (pc := 33) C (v := (-1)) d_Model_act_33 (by decide) ?_
    exact j_iret (pc := 34) C hr rfl () rfl [0, 1, 2, 3, 4, 5, 6, 7, 8, 9, 10, 11, 12, 13, 14] rfl (by decide) (by decide) (by decide) d_Model_act_34
  · refine j_if_eqF (pc := 9) C (tgt := 33) d_Model_act_9 (by decide) (by decide) ?_
    refine j_aload_n (pc := 12) C d_Model_act_12 rfl 0 rfl ?_
    refine j_get (pc := 13) C gf_Model_158 0 rfl rfl d_Model_act_13 ?_
    refine j_iconst (pc := 16) C (v := 0) d_Model_act_16 (by decide) ?_
    refine j_iald (pc := 17) C 12 rfl (v := nI dy) (vin (by decide)) (nw_dy hnw) d_Model_act_17 ?_
    refine j_sipush (pc := 18) C (v := 999) d_Model_act_18 (by decide) ?_
    by_cases c5 : dy = 999
    · refine j_icmp_eqT (pc := 21) C (tgt := 33) d_Model_act_21 (by decide) (show nI dy = nI 999 from (nI_eq (by omega) (by omega)).mpr (by omega)) ?_
      refine j_iconst (pc := 33) C (v := (-1)) d_Model_act_33 (by decide) ?_
      exact j_iret (pc := 34) C hr rfl () rfl [0, 1, 2, 3, 4, 5, 6, 7, 8, 9, 10, 11, 12, 13, 14] rfl (by decide) (by decide) (by decide) d_Model_act_34
    · refine j_icmp_eqF (pc := 21) C (tgt := 33) d_Model_act_21 (by decide) (show ¬ nI dy = nI 999 from fun e => absurd ((nI_eq (by omega) (by omega)).mp e) (by omega)) ?_
      refine j_aload_n (pc := 24) C d_Model_act_24 rfl 0 rfl ?_
      refine j_iconst (pc := 25) C (v := 0) d_Model_act_25 (by decide) ?_
      refine j_iload_n (pc := 26) C d_Model_act_26 rfl 1 rfl ?_
      refine j_callVi (pc := 27) C (c_mmayDo l D y mo ma t1 i2 i3 i4 i5 i6 i7 i8 i42 i49 i51 i53 i54 i59 i61 i64 (nI cn) ix i76 i78 g43 g46 g47 g62 0 j2 gt dy wa la bd fl st wo ly se su hto hnw hs_many hs_gates hs_gateOf hbd (by omega) (by omega) (by omega) hla) kw_Model_478 kv_Model_mayDo 0 10 rfl rfl ⟨by decide, by decide⟩ ⟨by decide, by decide⟩ (wr := [(ma 45, .inl (y 0, 14, .inl g45)), (ma 48, .inl (y 0, 224, .inl g48)), (ma 50, .inl (y 0, 3200, .inl g50)), (ma 55, .inl (y 2, 16, .inl g55)), (ma 56, .inl (y 0, 16, .inl g56)), (ma 57, .inl (y 0, 16, .inl g57)), (ma 58, .inl (y 0, 16, .inl g58)), (ma 60, .inl (y 1, 1700, .inr (.inl g60))), (ma 63, .inl (y 0, 9, .inl g63)), (ma 65, .inl (y 0, 1890, .inl g65))]) [0, 1, 3, 4, 12] [2, 5, 6, 7, 8, 9, 10, 11, 13, 14] rfl rfl (by decide +kernel) (by decide +kernel) (by decide +kernel) (As := [.int 0, .int (nI j2)]) (rest := []) rfl (nb rfl) rfl d_Model_act_27 (fun r6 _ hr6 => ?_)
      refine j_ws (ws' := [(ma 45, .inl (y 0, 14, .inl g45)), (ma 48, .inl (y 0, 224, .inl g48)), (ma 50, .inl (y 0, 3200, .inl g50)), (ma 55, .inl (y 2, 16, .inl g55)), (ma 56, .inl (y 0, 16, .inl g56)), (ma 57, .inl (y 0, 16, .inl g57)), (ma 58, .inl (y 0, 16, .inl g58)), (ma 60, .inl (y 1, 1700, .inr (.inl g60))), (ma 63, .inl (y 0, 9, .inl g63)), (ma 65, .inl (y 0, 1890, .inl g65)), MB mo ma (nI t1) i2 i3 i4 i5 i6 i7 i8 i42 i49 i51 i53 i54 i59 i61 i64 (nI cn) (nI ix) i76 i78, (ma 43, .inl (y 0, 8, .inl g43)), (ma 46, .inl (y 0, 108, .inl g46)), (ma 47, .inl (y 0, 12, .inl g47)), (ma 62, .inl (y 0, 63, .inl g62))]) rfl ?_
      rcases hr6 with ⟨rfl, xh8⟩ | ⟨rfl, xh9⟩
      · exact absurd (⟨j2, by omega, rfl, by omega, may_of (by omega) xh8⟩ : OKA gt bd la dy (nI j2)) hno
      · refine j_if_neF (pc := 30) C (tgt := 35) d_Model_act_30 (by decide) (by decide) ?_
        refine j_iconst (pc := 33) C (v := (-1)) d_Model_act_33 (by decide) ?_
        exact j_iret (pc := 34) C hr rfl () rfl [10, 11, 0, 12, 13, 1, 2, 3, 4, 5, 6, 7, 14, 8, 9] rfl (by decide) (by decide) (by decide) d_Model_act_34
set_option maxHeartbeats 4000000 in
set_option maxRecDepth 100000 in
theorem c_m_rest_y (l : Launch) (D : va_G) (y : Nat → ClassId) (mo : Nat) (ma : Nat → Nat) (t1 : Nat) (i2 : Int32) (i3 : Int32) (i4 : Int32) (i5 : Int32) (i6 : Int32) (i7 : Int32) (i8 : Int32) (i42 : Int32) (i49 : Int32) (i51 : Int32) (i53 : Int32) (i54 : Int32) (i59 : Int32) (i61 : Int32) (i64 : Int32) (cn : Nat) (ix : Nat) (i76 : Int64) (i78 : Int32) (g43 : Nat → Int32) (g45 : Nat → Int32) (g46 : Nat → Int32) (g48 : Nat → Int32) (g50 : Nat → Int32) (g55 : Nat → Int32) (g56 : Nat → Int32) (g57 : Nat → Int32) (g58 : Nat → Int32) (g60 : Nat → Int64) (g62 : Nat → Int32) (g63 : Nat → Int32) (g65 : Nat → Int32) (nq : Nat) (gt : LA_) (dy : Nat) (wa : Nat) (la : Nat) (bd : Nat → Nat) (fl : Nat → Nat) (st : Nat → Nat) (wo : Nat → Int) (ly : Nat → Int) (se : Nat → Nat) (su : Nat → Nat) (pp : Nat → ST_) (hto : TOQ gt) (hnw : NW g62 0 dy wa la bd fl st wo ly se su) (hs_many : MC gt (fun j => g43 (4 + j))) (hs_lake : LR gt (fun j => g45 (7 + j))) (hs_gates : GR gt (fun j => g46 (54 + j))) (hs_things : TR gt (fun j => g48 (112 + j))) (hs_codes : CD gt.cs (fun j => g50 (1600 + j)) gt.cs.length) (hs_rules : SLR gt g55 g56 g57 g58) (hbd : BN (gt.s 9) bd 20) (hwa : wa ≤ 9999) (hla : la ≤ 2) (hc : cn ≤ 30) (hi : ix < 30) (hdr : DREL g65 cn ix pp) (hdy : dy ≤ 999) (hn1 : 1 ≤ nq) (hn2 : nq ≤ 99) : CT l D y ⟨"NineBoardsModel", "rest", "(I)I"⟩ prog_13_method_82_code 3 (some .int) ({ frames := 5, cells := 0, slots := 0, locals := 129 } : Room) [.ref mo, .int (nI nq)] [MB mo ma (nI t1) i2 i3 i4 i5 i6 i7 i8 i42 i49 i51 i53 i54 i59 i61 i64 (nI cn) (nI ix) i76 i78, (ma 43, .inl (y 0, 8, .inl g43)), (ma 45, .inl (y 0, 14, .inl g45)), (ma 46, .inl (y 0, 108, .inl g46)), (ma 48, .inl (y 0, 224, .inl g48)), (ma 50, .inl (y 0, 3200, .inl g50)), (ma 55, .inl (y 2, 16, .inl g55)), (ma 56, .inl (y 0, 16, .inl g56)), (ma 57, .inl (y 0, 16, .inl g57)), (ma 58, .inl (y 0, 16, .inl g58)), (ma 60, .inl (y 1, 1700, .inr (.inl g60))), (ma 62, .inl (y 0, 63, .inl g62)), (ma 63, .inl (y 0, 9, .inl g63)), (ma 65, .inl (y 0, 1890, .inl g65))] (QI D [MB mo ma (nI t1) i2 i3 i4 i5 i6 i7 i8 i42 i49 i51 i53 i54 i59 i61 i64 (nI cn) (nI ix) i76 i78, (ma 43, .inl (y 0, 8, .inl g43)), (ma 45, .inl (y 0, 14, .inl g45)), (ma 46, .inl (y 0, 108, .inl g46)), (ma 48, .inl (y 0, 224, .inl g48)), (ma 50, .inl (y 0, 3200, .inl g50)), (ma 55, .inl (y 2, 16, .inl g55)), (ma 56, .inl (y 0, 16, .inl g56)), (ma 57, .inl (y 0, 16, .inl g57)), (ma 58, .inl (y 0, 16, .inl g58)), (ma 60, .inl (y 1, 1700, .inr (.inl g60))), (ma 62, .inl (y 0, 63, .inl g62)), (ma 63, .inl (y 0, 9, .inl g63)), (ma 65, .inl (y 0, 1890, .inl g65))] (fun (r : Int32) (u : (Nat → Int32) × (Nat → Int32) × (Nat → Int32) × (Nat → Int64) × Int32 × Int32) => r = nI (min nq (999 - dy)) ∧ NW u.1 0 (ST_.dy ((rsT gt (min nq (999 - dy)) (((dy, wa, la), bd, fl, st, wo, ly, se, su), pp)).1)) (ST_.wa ((rsT gt (min nq (999 - dy)) (((dy, wa, la), bd, fl, st, wo, ly, se, su), pp)).1)) (ST_.la ((rsT gt (min nq (999 - dy)) (((dy, wa, la), bd, fl, st, wo, ly, se, su), pp)).1)) (ST_.bd ((rsT gt (min nq (999 - dy)) (((dy, wa, la), bd, fl, st, wo, ly, se, su), pp)).1)) (ST_.fl ((rsT gt (min nq (999 - dy)) (((dy, wa, la), bd, fl, st, wo, ly, se, su), pp)).1)) (ST_.st ((rsT gt (min nq (999 - dy)) (((dy, wa, la), bd, fl, st, wo, ly, se, su), pp)).1)) (ST_.wo ((rsT gt (min nq (999 - dy)) (((dy, wa, la), bd, fl, st, wo, ly, se, su), pp)).1)) (ST_.ly ((rsT gt (min nq (999 - dy)) (((dy, wa, la), bd, fl, st, wo, ly, se, su), pp)).1)) (ST_.se ((rsT gt (min nq (999 - dy)) (((dy, wa, la), bd, fl, st, wo, ly, se, su), pp)).1)) (ST_.su ((rsT gt (min nq (999 - dy)) (((dy, wa, la), bd, fl, st, wo, ly, se, su), pp)).1)) ∧ DREL u.2.1 (min 30 (cn + (min nq (999 - dy)))) ((ix + (min nq (999 - dy))) % 30) (rsT gt (min nq (999 - dy)) (((dy, wa, la), bd, fl, st, wo, ly, se, su), pp)).2) (fun u => [MB mo ma (nI t1) i2 i3 i4 i5 i6 i7 i8 i42 i49 i51 i53 i54 i59 u.2.2.2.2.1 u.2.2.2.2.2 (nI (min 30 (cn + (min nq (999 - dy))))) (nI ((ix + (min nq (999 - dy))) % 30)) i76 i78, (ma 43, .inl (y 0, 8, .inl g43)), (ma 45, .inl (y 0, 14, .inl g45)), (ma 46, .inl (y 0, 108, .inl g46)), (ma 48, .inl (y 0, 224, .inl g48)), (ma 50, .inl (y 0, 3200, .inl g50)), (ma 55, .inl (y 2, 16, .inl g55)), (ma 56, .inl (y 0, 16, .inl g56)), (ma 57, .inl (y 0, 16, .inl g57)), (ma 58, .inl (y 0, 16, .inl g58)), (ma 60, .inl (y 1, 1700, .inr (.inl u.2.2.2.1))), (ma 62, .inl (y 0, 63, .inl u.1)), (ma 63, .inl (y 0, 9, .inl u.2.2.1)), (ma 65, .inl (y 0, 1890, .inl u.2.1))])) := by
  refine CT.of (by decide) (nb rfl) ?_
  intro p e s m args below meth c C hr
  refine j_lv (lv' := [(0, .ref mo), (1, .int (nI nq))]) rfl ?_
  obtain ⟨_, _, _, _, b9, b4, b10, b11⟩ := id hs_many
  obtain ⟨b1, b1x, b2, b2x, b3, b5, b6, b7, b8⟩ := to_n hto
  refine j_iload_n (pc := 0) C d_Model_rest_0 rfl 1 rfl ?_
  refine j_i2l (pc := 1) C (v := nL nq) d_Model_rest_1 (nId_L (by omega)) ?_
  refine j_lconst (pc := 2) C (v := 1) d_Model_rest_2 (by decide) ?_
  refine j_ldc2 (pc := 3) C (v := 99) (mt_7 (List.mem_of_getElem? (i := 171) rfl) rfl) d_Model_rest_3 ?_
  refine j_callSi (pc := 6) C (c_misInN l D y nq 1 99 (by omega) (by omega) (by omega)) kw_Model_240 ks_Model_isIn ⟨by decide, by decide⟩ ⟨by decide, by decide⟩ (wr := [MB mo ma (nI t1) i2 i3 i4 i5 i6 i7 i8 i42 i49 i51 i53 i54 i59 i61 i64 (nI cn) (nI ix) i76 i78, (ma 43, .inl (y 0, 8, .inl g43)), (ma 45, .inl (y 0, 14, .inl g45)), (ma 46, .inl (y 0, 108, .inl g46)), (ma 48, .inl (y 0, 224, .inl g48)), (ma 50, .inl (y 0, 3200, .inl g50)), (ma 55, .inl (y 2, 16, .inl g55)), (ma 56, .inl (y 0, 16, .inl g56)), (ma 57, .inl (y 0, 16, .inl g57)), (ma 58, .inl (y 0, 16, .inl g58)), (ma 60, .inl (y 1, 1700, .inr (.inl g60))), (ma 62, .inl (y 0, 63, .inl g62)), (ma 63, .inl (y 0, 9, .inl g63)), (ma 65, .inl (y 0, 1890, .inl g65))]) [] [0, 1, 2, 3, 4, 5, 6, 7, 8, 9, 10, 11, 12, 13] rfl rfl (by decide +kernel) (by decide +kernel) (by decide +kernel) (As := [.long (nL nq), .long 1, .long 99]) (rest := []) rfl (nb rfl) rfl d_Model_rest_6 (fun r1 _ hr1 => ?_)
  refine j_ws (ws' := [MB mo ma (nI t1) i2 i3 i4 i5 i6 i7 i8 i42 i49 i51 i53 i54 i59 i61 i64 (nI cn) (nI ix) i76 i78, (ma 43, .inl (y 0, 8, .inl g43)), (ma 45, .inl (y 0, 14, .inl g45)), (ma 46, .inl (y 0, 108, .inl g46)), (ma 48, .inl (y 0, 224, .inl g48)), (ma 50, .inl (y 0, 3200, .inl g50)), (ma 55, .inl (y 2, 16, .inl g55)), (ma 56, .inl (y 0, 16, .inl g56)), (ma 57, .inl (y 0, 16, .inl g57)), (ma 58, .inl (y 0, 16, .inl g58)), (ma 60, .inl (y 1, 1700, .inr (.inl g60))), (ma 62, .inl (y 0, 63, .inl g62)), (ma 63, .inl (y 0, 9, .inl g63)), (ma 65, .inl (y 0, 1890, .inl g65))]) rfl ?_
  rcases hr1 with ⟨rfl, xh3⟩ | ⟨rfl, xh4⟩
  · refine j_if_neT (pc := 9) C (tgt := 14) d_Model_rest_9 (by decide) (by decide) ?_
    refine j_iconst (pc := 14) C (v := 0) d_Model_rest_14 (by decide) ?_
    refine j_istore_n (pc := 15) C (lv' := [(2, .int 0), (0, .ref mo), (1, .int (nI nq))]) d_Model_rest_15 rfl (by decide) rfl ?_
    refine j_loop (α := Nat × Nat × Nat × (Nat → Int32) × (Nat → Int32) × Int32 × Int32 × (Nat → Int64) × (Nat → Int32) × ST_ × (Nat → ST_)) (fun a => nq - a.1) (fun a => (a.1 ≤ nq) ∧ ((a.2.2.2.2.2.2.2.2.2.1, a.2.2.2.2.2.2.2.2.2.2) = rsT gt a.1 (((dy, wa, la), bd, fl, st, wo, ly, se, su), pp)) ∧ (ST_.dy a.2.2.2.2.2.2.2.2.2.1 = dy + a.1) ∧ (dy + a.1 ≤ 999) ∧ (ST_.wa a.2.2.2.2.2.2.2.2.2.1 ≤ 9999) ∧ (BN (gt.s 9) (ST_.bd a.2.2.2.2.2.2.2.2.2.1) 20) ∧ (a.2.1 = min 30 (cn + a.1)) ∧ (a.2.2.1 = (ix + a.1) % 30) ∧ (DREL a.2.2.2.2.1 a.2.1 a.2.2.1 a.2.2.2.2.2.2.2.2.2.2) ∧ (NW a.2.2.2.1 0 (ST_.dy a.2.2.2.2.2.2.2.2.2.1) (ST_.wa a.2.2.2.2.2.2.2.2.2.1) (ST_.la a.2.2.2.2.2.2.2.2.2.1) (ST_.bd a.2.2.2.2.2.2.2.2.2.1) (ST_.fl a.2.2.2.2.2.2.2.2.2.1) (ST_.st a.2.2.2.2.2.2.2.2.2.1) (ST_.wo a.2.2.2.2.2.2.2.2.2.1) (ST_.ly a.2.2.2.2.2.2.2.2.2.1) (ST_.se a.2.2.2.2.2.2.2.2.2.1) (ST_.su a.2.2.2.2.2.2.2.2.2.1))) (fun a => [MB mo ma (nI t1) i2 i3 i4 i5 i6 i7 i8 i42 i49 i51 i53 i54 i59 a.2.2.2.2.2.1 a.2.2.2.2.2.2.1 (nI a.2.1) (nI a.2.2.1) i76 i78, (ma 43, .inl (y 0, 8, .inl g43)), (ma 45, .inl (y 0, 14, .inl g45)), (ma 46, .inl (y 0, 108, .inl g46)), (ma 48, .inl (y 0, 224, .inl g48)), (ma 50, .inl (y 0, 3200, .inl g50)), (ma 55, .inl (y 2, 16, .inl g55)), (ma 56, .inl (y 0, 16, .inl g56)), (ma 57, .inl (y 0, 16, .inl g57)), (ma 58, .inl (y 0, 16, .inl g58)), (ma 60, .inl (y 1, 1700, .inr (.inl a.2.2.2.2.2.2.2.1))), (ma 62, .inl (y 0, 63, .inl a.2.2.2.1)), (ma 63, .inl (y 0, 9, .inl a.2.2.2.2.2.2.2.2.1)), (ma 65, .inl (y 0, 1890, .inl a.2.2.2.2.1))]) (fun a => [(2, .int (nI a.1)), (0, .ref mo), (1, .int (nI nq))]) (0, cn, ix, g62, g65, i61, i64, g60, g63, ((dy, wa, la), bd, fl, st, wo, ly, se, su), pp) rfl rfl ⟨(show 0 ≤ nq by omega), rfl, rfl, (show dy + 0 ≤ 999 by omega), hwa, hbd, (show cn = min 30 (cn + 0) by omega), (show ix = (ix + 0) % 30 by omega), hdr, hnw⟩ ?_
    rintro ⟨iz, cz, xz, nz, ddz, z16, z17, z18, z19, sz, pz⟩ hP31 ih32
    obtain ⟨hi__, hsz__, hdz__, hd9__, hwz__, hbz__, hcz__, hxz__, hkz__, hnz__⟩ := hP31
    have hi_ : iz ≤ nq := hi__
    have hsz_ : (sz, pz) = rsT gt iz (((dy, wa, la), bd, fl, st, wo, ly, se, su), pp) := hsz__
    have hdz_ : ST_.dy sz = dy + iz := hdz__
    have hd9_ : dy + iz ≤ 999 := hd9__
    have hwz_ : ST_.wa sz ≤ 9999 := hwz__
    have hbz_ : BN (gt.s 9) (ST_.bd sz) 20 := hbz__
    have hcz_ : cz = min 30 (cn + iz) := hcz__
    have hxz_ : xz = (ix + iz) % 30 := hxz__
    have hkz_ : DREL ddz cz xz pz := hkz__
    have hnz_ : NW nz 0 (ST_.dy sz) (ST_.wa sz) (ST_.la sz) (ST_.bd sz) (ST_.fl sz) (ST_.st sz) (ST_.wo sz) (ST_.ly sz) (ST_.se sz) (ST_.su sz) := hnz__
    refine j_ws (ws' := [MB mo ma (nI t1) i2 i3 i4 i5 i6 i7 i8 i42 i49 i51 i53 i54 i59 z16 z17 (nI cz) (nI xz) i76 i78, (ma 43, .inl (y 0, 8, .inl g43)), (ma 45, .inl (y 0, 14, .inl g45)), (ma 46, .inl (y 0, 108, .inl g46)), (ma 48, .inl (y 0, 224, .inl g48)), (ma 50, .inl (y 0, 3200, .inl g50)), (ma 55, .inl (y 2, 16, .inl g55)), (ma 56, .inl (y 0, 16, .inl g56)), (ma 57, .inl (y 0, 16, .inl g57)), (ma 58, .inl (y 0, 16, .inl g58)), (ma 60, .inl (y 1, 1700, .inr (.inl z18))), (ma 62, .inl (y 0, 63, .inl nz)), (ma 63, .inl (y 0, 9, .inl z19)), (ma 65, .inl (y 0, 1890, .inl ddz))]) rfl ?_
    refine j_lv (lv' := [(2, .int (nI iz)), (0, .ref mo), (1, .int (nI nq))]) rfl ?_
    refine j_iload_n (pc := 16) C d_Model_rest_16 rfl 0 rfl ?_
    refine j_iload_n (pc := 17) C d_Model_rest_17 rfl 2 rfl ?_
    by_cases c33 : nq ≤ iz
    · refine j_icmp_geT (pc := 18) C (tgt := 48) d_Model_rest_18 (by decide) (show nI nq ≤ nI iz from nI_le (by omega) (by omega)) ?_
      obtain rfl : iz = (min nq (999 - dy)) := by omega
      obtain rfl : sz = ((rsT gt (min nq (999 - dy)) (((dy, wa, la), bd, fl, st, wo, ly, se, su), pp)).1) := congrArg Prod.fst hsz_
      obtain rfl : pz = (rsT gt (min nq (999 - dy)) (((dy, wa, la), bd, fl, st, wo, ly, se, su), pp)).2 := congrArg Prod.snd hsz_
      subst hcz_ hxz_
      refine j_iload_n (pc := 48) C d_Model_rest_48 rfl 0 rfl ?_
      exact j_iret (pc := 49) C hr rfl (nz, ddz, z19, z18, z16, z17) ⟨rfl, hnz_, hkz_⟩ [0, 1, 2, 3, 4, 5, 6, 7, 8, 9, 10, 11, 12, 13] rfl (by decide) (by decide) (by decide) d_Model_rest_49
    · refine j_icmp_geF (pc := 18) C (tgt := 48) d_Model_rest_18 (by decide) (show ¬ nI nq ≤ nI iz from nI_ge (by omega) (by omega)) ?_
      refine j_aload_n (pc := 21) C d_Model_rest_21 rfl 1 rfl ?_
      refine j_get (pc := 22) C gf_Model_158 0 rfl rfl d_Model_rest_22 ?_
      refine j_iconst (pc := 25) C (v := 0) d_Model_rest_25 (by decide) ?_
      refine j_iald (pc := 26) C 11 rfl (v := nI (ST_.dy sz)) (vin (by decide)) (nw_dy hnz_) d_Model_rest_26 ?_
      refine j_sipush (pc := 27) C (v := 999) d_Model_rest_27 (by decide) ?_
      by_cases c34 : 999 ≤ (ST_.dy sz)
      · refine j_icmp_geT (pc := 30) C (tgt := 48) d_Model_rest_30 (by decide) (show nI 999 ≤ nI (ST_.dy sz) from nI_le (by omega) (by omega)) ?_
        obtain rfl : iz = (min nq (999 - dy)) := by omega
        obtain rfl : sz = ((rsT gt (min nq (999 - dy)) (((dy, wa, la), bd, fl, st, wo, ly, se, su), pp)).1) := congrArg Prod.fst hsz_
        obtain rfl : pz = (rsT gt (min nq (999 - dy)) (((dy, wa, la), bd, fl, st, wo, ly, se, su), pp)).2 := congrArg Prod.snd hsz_
        subst hcz_ hxz_
        refine j_iload_n (pc := 48) C d_Model_rest_48 rfl 0 rfl ?_
        exact j_iret (pc := 49) C hr rfl (nz, ddz, z19, z18, z16, z17) ⟨rfl, hnz_, hkz_⟩ [0, 1, 2, 3, 4, 5, 6, 7, 8, 9, 10, 11, 12, 13] rfl (by decide) (by decide) (by decide) d_Model_rest_49
      · refine j_icmp_geF (pc := 30) C (tgt := 48) d_Model_rest_30 (by decide) (show ¬ nI 999 ≤ nI (ST_.dy sz) from nI_ge (by omega) (by omega)) ?_
        refine j_aload_n (pc := 33) C d_Model_rest_33 rfl 1 rfl ?_
        refine j_callVv (pc := 34) C (c_mkeepsDay l D y mo ma t1 i2 i3 i4 i5 i6 i7 i8 i42 i49 i51 i53 i54 i59 z16 z17 cz xz i76 i78 nz ddz (by omega) (by omega)) kw_Model_482 kv_Model_keepsDay 0 10 rfl rfl ⟨by decide, by decide⟩ ⟨by decide, by decide⟩ (wr := [(ma 43, .inl (y 0, 8, .inl g43)), (ma 45, .inl (y 0, 14, .inl g45)), (ma 46, .inl (y 0, 108, .inl g46)), (ma 48, .inl (y 0, 224, .inl g48)), (ma 50, .inl (y 0, 3200, .inl g50)), (ma 55, .inl (y 2, 16, .inl g55)), (ma 56, .inl (y 0, 16, .inl g56)), (ma 57, .inl (y 0, 16, .inl g57)), (ma 58, .inl (y 0, 16, .inl g58)), (ma 60, .inl (y 1, 1700, .inr (.inl z18))), (ma 63, .inl (y 0, 9, .inl z19))]) [0, 11, 13] [1, 2, 3, 4, 5, 6, 7, 8, 9, 10, 12] rfl rfl (by decide +kernel) (by decide +kernel) (by decide +kernel) (As := []) (rest := []) rfl (nb rfl) rfl d_Model_rest_34 (fun u35 hu36 => ?_)
        obtain ⟨xh37, xh38⟩ := hu36
        refine j_ws (ws' := [(ma 43, .inl (y 0, 8, .inl g43)), (ma 45, .inl (y 0, 14, .inl g45)), (ma 46, .inl (y 0, 108, .inl g46)), (ma 48, .inl (y 0, 224, .inl g48)), (ma 50, .inl (y 0, 3200, .inl g50)), (ma 55, .inl (y 2, 16, .inl g55)), (ma 56, .inl (y 0, 16, .inl g56)), (ma 57, .inl (y 0, 16, .inl g57)), (ma 58, .inl (y 0, 16, .inl g58)), (ma 60, .inl (y 1, 1700, .inr (.inl z18))), (ma 63, .inl (y 0, 9, .inl z19)), MB mo ma (nI t1) i2 i3 i4 i5 i6 i7 i8 i42 i49 i51 i53 i54 i59 z16 z17 (nI (min 30 (cz + 1))) (nI ((xz + 1) % 30)) i76 i78, (ma 62, .inl (y 0, 63, .inl nz)), (ma 65, .inl (y 0, 1890, .inl u35))]) rfl ?_
        refine j_aload_n (pc := 37) C d_Model_rest_37 rfl 1 rfl ?_
        refine j_iconst (pc := 38) C (v := 0) d_Model_rest_38 (by decide) ?_
        refine j_callVv (pc := 39) C (c_mgoesBy l D y mo ma t1 i2 i3 i4 i5 i6 i7 i8 i42 i49 i51 i53 i54 i59 z16 z17 (nI (min 30 (cz + 1))) ((xz + 1) % 30) i76 i78 g43 g45 g46 g48 g50 g55 g56 g57 g58 z18 nz z19 0 gt (ST_.dy sz) (ST_.wa sz) (ST_.la sz) (ST_.bd sz) (ST_.fl sz) (ST_.st sz) (ST_.wo sz) (ST_.ly sz) (ST_.se sz) (ST_.su sz) hto hnz_ hs_many hs_lake hs_gates hs_things hs_codes hs_rules hbz_ (by omega) hwz_ (by omega)) kw_Model_488 kv_Model_goesBy 0 10 rfl rfl ⟨by decide, by decide⟩ ⟨by decide, by decide⟩ (wr := [(ma 65, .inl (y 0, 1890, .inl u35))]) [11, 0, 1, 2, 3, 4, 5, 6, 7, 8, 9, 12, 10] [13] rfl rfl (by decide +kernel) (by decide +kernel) (by decide +kernel) (As := [.int 0]) (rest := []) rfl (nb rfl) rfl d_Model_rest_39 (fun u39 hu40 => ?_)
        obtain ⟨xh41, xh42, xh43⟩ := hu40
        refine j_ws (ws' := [(ma 65, .inl (y 0, 1890, .inl u35)), MB mo ma (nI t1) i2 i3 i4 i5 i6 i7 i8 i42 i49 i51 i53 i54 i59 u39.2.2.2 (nI (spT gt (((ST_.dy sz), (ST_.wa sz), (ST_.la sz)), (ST_.bd sz), (ST_.fl sz), (ST_.st sz), (ST_.wo sz), (ST_.ly sz), (ST_.se sz), (ST_.su sz)) 0)) (nI (min 30 (cz + 1))) (nI ((xz + 1) % 30)) i76 i78, (ma 43, .inl (y 0, 8, .inl g43)), (ma 45, .inl (y 0, 14, .inl g45)), (ma 46, .inl (y 0, 108, .inl g46)), (ma 48, .inl (y 0, 224, .inl g48)), (ma 50, .inl (y 0, 3200, .inl g50)), (ma 55, .inl (y 2, 16, .inl g55)), (ma 56, .inl (y 0, 16, .inl g56)), (ma 57, .inl (y 0, 16, .inl g57)), (ma 58, .inl (y 0, 16, .inl g58)), (ma 60, .inl (y 1, 1700, .inr (.inl u39.2.2.1))), (ma 62, .inl (y 0, 63, .inl u39.1)), (ma 63, .inl (y 0, 9, .inl u39.2.1))]) rfl ?_
        refine j_iinc (pc := 42) C (v := nI (iz + 1)) (lv' := [(2, .int (nI (iz + 1))), (0, .ref mo), (1, .int (nI nq))]) d_Model_rest_42 0 rfl (nI_add _ _) (by decide) rfl ?_
        refine j_goto (pc := 45) C (tgt := 16) d_Model_rest_45 (by decide) ?_
        refine j_sub (ws' := [MB mo ma (nI t1) i2 i3 i4 i5 i6 i7 i8 i42 i49 i51 i53 i54 i59 u39.2.2.2 (nI (spT gt (((ST_.dy sz), (ST_.wa sz), (ST_.la sz)), (ST_.bd sz), (ST_.fl sz), (ST_.st sz), (ST_.wo sz), (ST_.ly sz), (ST_.se sz), (ST_.su sz)) 0)) (nI (min 30 (cz + 1))) (nI ((xz + 1) % 30)) i76 i78, (ma 43, .inl (y 0, 8, .inl g43)), (ma 45, .inl (y 0, 14, .inl g45)), (ma 46, .inl (y 0, 108, .inl g46)), (ma 48, .inl (y 0, 224, .inl g48)), (ma 50, .inl (y 0, 3200, .inl g50)), (ma 55, .inl (y 2, 16, .inl g55)), (ma 56, .inl (y 0, 16, .inl g56)), (ma 57, .inl (y 0, 16, .inl g57)), (ma 58, .inl (y 0, 16, .inl g58)), (ma 60, .inl (y 1, 1700, .inr (.inl u39.2.2.1))), (ma 62, .inl (y 0, 63, .inl u39.1)), (ma 63, .inl (y 0, 9, .inl u39.2.1)), (ma 65, .inl (y 0, 1890, .inl u35))]) [1, 2, 3, 4, 5, 6, 7, 8, 9, 10, 11, 12, 13, 0] rfl (by decide +kernel) ?_
        exact ih32 ((iz + 1), (min 30 (cz + 1)), ((xz + 1) % 30), u39.1, u35, u39.2.2.2, nI (spT gt (((ST_.dy sz), (ST_.wa sz), (ST_.la sz)), (ST_.bd sz), (ST_.fl sz), (ST_.st sz), (ST_.wo sz), (ST_.ly sz), (ST_.se sz), (ST_.su sz)) 0), u39.2.2.1, u39.2.1, (dayT gt ((ST_.dy sz, ST_.wa sz, ST_.la sz), ST_.bd sz, ST_.fl sz, ST_.st sz, ST_.wo sz, ST_.ly sz, ST_.se sz, ST_.su sz) 0), (pushP sz pz)) ⟨(show (iz + 1) ≤ nq by omega), (show ((dayT gt ((ST_.dy sz, ST_.wa sz, ST_.la sz), ST_.bd sz, ST_.fl sz, ST_.st sz, ST_.wo sz, ST_.ly sz, ST_.se sz, ST_.su sz) 0), (pushP sz pz)) = rsT gt (iz + 1) (((dy, wa, la), bd, fl, st, wo, ly, se, su), pp) from congrArg (fun q => (dayT gt q.1 0, pushP q.1 q.2)) hsz_), (show ST_.dy (dayT gt ((ST_.dy sz, ST_.wa sz, ST_.la sz), ST_.bd sz, ST_.fl sz, ST_.st sz, ST_.wo sz, ST_.ly sz, ST_.se sz, ST_.su sz) 0) = dy + (iz + 1) from (congrArg (· + 1) hdz_).trans (by omega)), (show dy + (iz + 1) ≤ 999 by omega), xh43.1, hbz_, (show (min 30 (cz + 1)) = min 30 (cn + (iz + 1)) by omega), (show ((xz + 1) % 30) = (ix + (iz + 1)) % 30 by omega), (drel_push hkz_ (by omega) (by omega) hnz_ xh37 xh38), xh41⟩ (show nq - (iz + 1) < nq - iz by omega)
  · exact absurd ⟨by omega, by omega⟩ xh4
set_option maxHeartbeats 4000000 in
set_option maxRecDepth 100000 in
theorem c_m_rest_n (l : Launch) (D : va_G) (y : Nat → ClassId) (mo : Nat) (ma : Nat → Nat) (t1 : Nat) (i2 : Int32) (i3 : Int32) (i4 : Int32) (i5 : Int32) (i6 : Int32) (i7 : Int32) (i8 : Int32) (i42 : Int32) (i49 : Int32) (i51 : Int32) (i53 : Int32) (i54 : Int32) (i59 : Int32) (i61 : Int32) (i64 : Int32) (cn : Nat) (ix : Nat) (i76 : Int64) (i78 : Int32) (g43 : Nat → Int32) (g45 : Nat → Int32) (g46 : Nat → Int32) (g48 : Nat → Int32) (g50 : Nat → Int32) (g55 : Nat → Int32) (g56 : Nat → Int32) (g57 : Nat → Int32) (g58 : Nat → Int32) (g60 : Nat → Int64) (g62 : Nat → Int32) (g63 : Nat → Int32) (g65 : Nat → Int32) (v : Int32) (hno : ¬ ∃ n : Nat, 1 ≤ n ∧ n ≤ 99 ∧ v = nI n) : CT l D y ⟨"NineBoardsModel", "rest", "(I)I"⟩ prog_13_method_82_code 3 (some .int) ({ frames := 1, cells := 0, slots := 0, locals := 25 } : Room) [.ref mo, .int v] [MB mo ma (nI t1) i2 i3 i4 i5 i6 i7 i8 i42 i49 i51 i53 i54 i59 i61 i64 (nI cn) (nI ix) i76 i78, (ma 43, .inl (y 0, 8, .inl g43)), (ma 45, .inl (y 0, 14, .inl g45)), (ma 46, .inl (y 0, 108, .inl g46)), (ma 48, .inl (y 0, 224, .inl g48)), (ma 50, .inl (y 0, 3200, .inl g50)), (ma 55, .inl (y 2, 16, .inl g55)), (ma 56, .inl (y 0, 16, .inl g56)), (ma 57, .inl (y 0, 16, .inl g57)), (ma 58, .inl (y 0, 16, .inl g58)), (ma 60, .inl (y 1, 1700, .inr (.inl g60))), (ma 62, .inl (y 0, 63, .inl g62)), (ma 63, .inl (y 0, 9, .inl g63)), (ma 65, .inl (y 0, 1890, .inl g65))] (QI D [MB mo ma (nI t1) i2 i3 i4 i5 i6 i7 i8 i42 i49 i51 i53 i54 i59 i61 i64 (nI cn) (nI ix) i76 i78, (ma 43, .inl (y 0, 8, .inl g43)), (ma 45, .inl (y 0, 14, .inl g45)), (ma 46, .inl (y 0, 108, .inl g46)), (ma 48, .inl (y 0, 224, .inl g48)), (ma 50, .inl (y 0, 3200, .inl g50)), (ma 55, .inl (y 2, 16, .inl g55)), (ma 56, .inl (y 0, 16, .inl g56)), (ma 57, .inl (y 0, 16, .inl g57)), (ma 58, .inl (y 0, 16, .inl g58)), (ma 60, .inl (y 1, 1700, .inr (.inl g60))), (ma 62, .inl (y 0, 63, .inl g62)), (ma 63, .inl (y 0, 9, .inl g63)), (ma 65, .inl (y 0, 1890, .inl g65))] (fun (r : Int32) (u : Unit) => r = -1) (fun _ => [MB mo ma (nI t1) i2 i3 i4 i5 i6 i7 i8 i42 i49 i51 i53 i54 i59 i61 i64 (nI cn) (nI ix) i76 i78, (ma 43, .inl (y 0, 8, .inl g43)), (ma 45, .inl (y 0, 14, .inl g45)), (ma 46, .inl (y 0, 108, .inl g46)), (ma 48, .inl (y 0, 224, .inl g48)), (ma 50, .inl (y 0, 3200, .inl g50)), (ma 55, .inl (y 2, 16, .inl g55)), (ma 56, .inl (y 0, 16, .inl g56)), (ma 57, .inl (y 0, 16, .inl g57)), (ma 58, .inl (y 0, 16, .inl g58)), (ma 60, .inl (y 1, 1700, .inr (.inl g60))), (ma 62, .inl (y 0, 63, .inl g62)), (ma 63, .inl (y 0, 9, .inl g63)), (ma 65, .inl (y 0, 1890, .inl g65))])) := by
  refine CT.of (by decide) (nb rfl) ?_
  intro p e s m args below meth c C hr
  refine j_lv (lv' := [(0, .ref mo), (1, .int v)]) rfl ?_
  refine j_iload_n (pc := 0) C d_Model_rest_0 rfl 1 rfl ?_
  refine j_i2l (pc := 1) C (v := v.toInt64) d_Model_rest_1 rfl ?_
  refine j_lconst (pc := 2) C (v := 1) d_Model_rest_2 (by decide) ?_
  refine j_ldc2 (pc := 3) C (v := 99) (mt_7 (List.mem_of_getElem? (i := 171) rfl) rfl) d_Model_rest_3 ?_
  refine j_callSi (pc := 6) C (c_isInx_1_99 l D y v) kw_Model_240 ks_Model_isIn ⟨by decide, by decide⟩ ⟨by decide, by decide⟩ (wr := [MB mo ma (nI t1) i2 i3 i4 i5 i6 i7 i8 i42 i49 i51 i53 i54 i59 i61 i64 (nI cn) (nI ix) i76 i78, (ma 43, .inl (y 0, 8, .inl g43)), (ma 45, .inl (y 0, 14, .inl g45)), (ma 46, .inl (y 0, 108, .inl g46)), (ma 48, .inl (y 0, 224, .inl g48)), (ma 50, .inl (y 0, 3200, .inl g50)), (ma 55, .inl (y 2, 16, .inl g55)), (ma 56, .inl (y 0, 16, .inl g56)), (ma 57, .inl (y 0, 16, .inl g57)), (ma 58, .inl (y 0, 16, .inl g58)), (ma 60, .inl (y 1, 1700, .inr (.inl g60))), (ma 62, .inl (y 0, 63, .inl g62)), (ma 63, .inl (y 0, 9, .inl g63)), (ma 65, .inl (y 0, 1890, .inl g65))]) [] [0, 1, 2, 3, 4, 5, 6, 7, 8, 9, 10, 11, 12, 13] rfl rfl (by decide +kernel) (by decide +kernel) (by decide +kernel) (As := [.long v.toInt64, .long 1, .long 99]) (rest := []) rfl (nb rfl) rfl d_Model_rest_6 (fun r1 _ hr1 => ?_)
  refine j_ws (ws' := [MB mo ma (nI t1) i2 i3 i4 i5 i6 i7 i8 i42 i49 i51 i53 i54 i59 i61 i64 (nI cn) (nI ix) i76 i78, (ma 43, .inl (y 0, 8, .inl g43)), (ma 45, .inl (y 0, 14, .inl g45)), (ma 46, .inl (y 0, 108, .inl g46)), (ma 48, .inl (y 0, 224, .inl g48)), (ma 50, .inl (y 0, 3200, .inl g50)), (ma 55, .inl (y 2, 16, .inl g55)), (ma 56, .inl (y 0, 16, .inl g56)), (ma 57, .inl (y 0, 16, .inl g57)), (ma 58, .inl (y 0, 16, .inl g58)), (ma 60, .inl (y 1, 1700, .inr (.inl g60))), (ma 62, .inl (y 0, 63, .inl g62)), (ma 63, .inl (y 0, 9, .inl g63)), (ma 65, .inl (y 0, 1890, .inl g65))]) rfl ?_
  rcases hr1 with ⟨rfl, xh4⟩ | ⟨rfl, j2, xh3, rfl⟩
  · refine j_if_neF (pc := 9) C (tgt := 14) d_Model_rest_9 (by decide) (by decide) ?_
    refine j_iconst (pc := 12) C (v := (-1)) d_Model_rest_12 (by decide) ?_
    exact j_iret (pc := 13) C hr rfl () rfl [0, 1, 2, 3, 4, 5, 6, 7, 8, 9, 10, 11, 12, 13] rfl (by decide) (by decide) (by decide) d_Model_rest_13
  · refine j_if_neT (pc := 9) C (tgt := 14) d_Model_rest_9 (by decide) (by decide) ?_
    exact absurd ⟨j2, by omega, by omega, rfl⟩ hno
set_option maxHeartbeats 4000000 in
set_option maxRecDepth 100000 in
theorem c_m_undo_0 (l : Launch) (D : va_G) (y : Nat → ClassId) (mo : Nat) (ma : Nat → Nat) (t1 : Nat) (i2 : Int32) (i3 : Int32) (i4 : Int32) (i5 : Int32) (i6 : Int32) (i7 : Int32) (i8 : Int32) (i42 : Int32) (i49 : Int32) (i51 : Int32) (i53 : Int32) (i54 : Int32) (i59 : Int32) (i61 : Int32) (i64 : Int32) (cn : Nat) (ix : Nat) (i76 : Int64) (i78 : Int32) (g62 : Nat → Int32) (g65 : Nat → Int32) (h0 : cn = 0) : CT l D y ⟨"NineBoardsModel", "undo", "()Z"⟩ prog_13_method_83_code 2 (some .boolean) ({ frames := 0, cells := 0, slots := 0, locals := 0 } : Room) [.ref mo] [MB mo ma (nI t1) i2 i3 i4 i5 i6 i7 i8 i42 i49 i51 i53 i54 i59 i61 i64 (nI cn) (nI ix) i76 i78, (ma 62, .inl (y 0, 63, .inl g62)), (ma 65, .inl (y 0, 1890, .inl g65))] (QI D [MB mo ma (nI t1) i2 i3 i4 i5 i6 i7 i8 i42 i49 i51 i53 i54 i59 i61 i64 (nI cn) (nI ix) i76 i78, (ma 62, .inl (y 0, 63, .inl g62)), (ma 65, .inl (y 0, 1890, .inl g65))] (fun (r : Int32) (u : Unit) => r = 0) (fun _ => [MB mo ma (nI t1) i2 i3 i4 i5 i6 i7 i8 i42 i49 i51 i53 i54 i59 i61 i64 (nI cn) (nI ix) i76 i78, (ma 62, .inl (y 0, 63, .inl g62)), (ma 65, .inl (y 0, 1890, .inl g65))])) := by
  refine CT.of (by decide) (nb rfl) ?_
  intro p e s m args below meth c C hr
  refine j_lv (lv' := [(0, .ref mo)]) rfl ?_
  refine j_aload_n (pc := 0) C d_Model_undo_0 rfl 0 rfl ?_
  refine j_get (pc := 1) C gf_Model_415 0 rfl rfl d_Model_undo_1 ?_
  refine j_if_neF (pc := 4) C (tgt := 9) d_Model_undo_4 (by decide) (show nI cn = nI 0 from (nI_eq (by omega) (by omega)).mpr (by omega)) ?_
  refine j_iconst (pc := 7) C (v := 0) d_Model_undo_7 (by decide) ?_
  exact j_iret (pc := 8) C hr (by decide) () rfl [0, 1, 2] rfl (by decide) (by decide) (by decide) d_Model_undo_8
set_option maxHeartbeats 4000000 in
set_option maxRecDepth 100000 in
theorem c_m_undo_1 (l : Launch) (D : va_G) (y : Nat → ClassId) (mo : Nat) (ma : Nat → Nat) (t1 : Nat) (i2 : Int32) (i3 : Int32) (i4 : Int32) (i5 : Int32) (i6 : Int32) (i7 : Int32) (i8 : Int32) (i42 : Int32) (i49 : Int32) (i51 : Int32) (i53 : Int32) (i54 : Int32) (i59 : Int32) (i61 : Int32) (i64 : Int32) (cn : Nat) (ix : Nat) (i76 : Int64) (i78 : Int32) (g62 : Nat → Int32) (g65 : Nat → Int32) (pp : Nat → ST_) (h0 : 0 < cn) (hc : cn ≤ 30) (hi : ix < 30) (hdr : DREL g65 cn ix pp) : CT l D y ⟨"NineBoardsModel", "undo", "()Z"⟩ prog_13_method_83_code 2 (some .boolean) ({ frames := 0, cells := 0, slots := 0, locals := 0 } : Room) [.ref mo] [MB mo ma (nI t1) i2 i3 i4 i5 i6 i7 i8 i42 i49 i51 i53 i54 i59 i61 i64 (nI cn) (nI ix) i76 i78, (ma 62, .inl (y 0, 63, .inl g62)), (ma 65, .inl (y 0, 1890, .inl g65))] (QI D [MB mo ma (nI t1) i2 i3 i4 i5 i6 i7 i8 i42 i49 i51 i53 i54 i59 i61 i64 (nI cn) (nI ix) i76 i78, (ma 62, .inl (y 0, 63, .inl g62)), (ma 65, .inl (y 0, 1890, .inl g65))] (fun (r : Int32) (u : Nat → Int32) => r = 1 ∧ NW u 0 (ST_.dy (pp 0)) (ST_.wa (pp 0)) (ST_.la (pp 0)) (ST_.bd (pp 0)) (ST_.fl (pp 0)) (ST_.st (pp 0)) (ST_.wo (pp 0)) (ST_.ly (pp 0)) (ST_.se (pp 0)) (ST_.su (pp 0)) ∧ DREL g65 (cn - 1) ((ix + 29) % 30) (popP pp)) (fun u => [MB mo ma (nI t1) i2 i3 i4 i5 i6 i7 i8 i42 i49 i51 i53 i54 i59 i61 i64 (nI (cn - 1)) (nI ((ix + 29) % 30)) i76 i78, (ma 62, .inl (y 0, 63, .inl u)), (ma 65, .inl (y 0, 1890, .inl g65))])) := by
  refine CT.of (by decide) (nb rfl) ?_
  intro p e s m args below meth c C hr
  refine j_lv (lv' := [(0, .ref mo)]) rfl ?_
  refine j_aload_n (pc := 0) C d_Model_undo_0 rfl 0 rfl ?_
  refine j_get (pc := 1) C gf_Model_415 0 rfl rfl d_Model_undo_1 ?_
  refine j_if_neT (pc := 4) C (tgt := 9) d_Model_undo_4 (by decide) (show ¬ nI cn = nI 0 from fun e => absurd ((nI_eq (by omega) (by omega)).mp e) (by omega)) ?_
  refine j_iconst (pc := 9) C (v := 0) d_Model_undo_9 (by decide) ?_
  refine j_istore_n (pc := 10) C (lv' := [(1, .int 0), (0, .ref mo)]) d_Model_undo_10 rfl (by decide) rfl ?_
  refine j_loop (α := Nat × (Nat → Int32)) (fun a => 63 - a.1) (fun a => (a.1 ≤ 63) ∧ (∀ j, j < a.1 → a.2 j = g65 (63 * ix + j))) (fun a => [MB mo ma (nI t1) i2 i3 i4 i5 i6 i7 i8 i42 i49 i51 i53 i54 i59 i61 i64 (nI cn) (nI ix) i76 i78, (ma 62, .inl (y 0, 63, .inl a.2)), (ma 65, .inl (y 0, 1890, .inl g65))]) (fun a => [(1, .int (nI a.1)), (0, .ref mo)]) (0, g62) rfl rfl ⟨(show 0 ≤ 63 by omega), (fun j hj => absurd hj (Nat.not_lt_zero _))⟩ ?_
  rintro ⟨iz, dz⟩ hP2 ih3
  obtain ⟨hi__, hp__⟩ := hP2
  have hi_ : iz ≤ 63 := hi__
  have hp_ : ∀ j, j < iz → dz j = g65 (63 * ix + j) := hp__
  refine j_ws (ws' := [MB mo ma (nI t1) i2 i3 i4 i5 i6 i7 i8 i42 i49 i51 i53 i54 i59 i61 i64 (nI cn) (nI ix) i76 i78, (ma 62, .inl (y 0, 63, .inl dz)), (ma 65, .inl (y 0, 1890, .inl g65))]) rfl ?_
  refine j_lv (lv' := [(1, .int (nI iz)), (0, .ref mo)]) rfl ?_
  refine j_iload_n (pc := 11) C d_Model_undo_11 rfl 0 rfl ?_
  refine j_bipush (pc := 12) C (v := 63) d_Model_undo_12 (by decide) ?_
  by_cases c4 : 63 ≤ iz
  · refine j_icmp_geT (pc := 14) C (tgt := 43) d_Model_undo_14 (by decide) (show nI 63 ≤ nI iz from nI_le (by omega) (by omega)) ?_
    refine j_aload_n (pc := 43) C d_Model_undo_43 rfl 1 rfl ?_
    refine j_aload_n (pc := 44) C d_Model_undo_44 rfl 1 rfl ?_
    refine j_get (pc := 45) C gf_Model_460 0 rfl rfl d_Model_undo_45 ?_
    refine j_bipush (pc := 48) C (v := 30) d_Model_undo_48 (by decide) ?_
    refine j_iadd (pc := 50) C (v := nI (ix + 30)) d_Model_undo_50 (nI_add _ _) ?_
    refine j_iconst (pc := 51) C (v := 1) d_Model_undo_51 (by decide) ?_
    refine j_isub (pc := 52) C (v := nI ((ix + 30) - 1)) d_Model_undo_52 (pk_sub (a := (ix + 30)) (b := 1) (by omega)) ?_
    refine j_bipush (pc := 53) C (v := 30) d_Model_undo_53 (by decide) ?_
    refine j_irem (pc := 55) C (v := nI (((ix + 30) - 1) % 30)) d_Model_undo_55 (by decide) (pk_rem (a := ((ix + 30) - 1)) (d := 30) (by omega) (by omega) (by omega)) ?_
    refine j_put (pc := 56) C pf_Model_460 0 (ws' := [MB mo ma (nI t1) i2 i3 i4 i5 i6 i7 i8 i42 i49 i51 i53 i54 i59 i61 i64 (nI cn) (nI (((ix + 30) - 1) % 30)) i76 i78, (ma 62, .inl (y 0, 63, .inl dz)), (ma 65, .inl (y 0, 1890, .inl g65))]) rfl rfl rfl (nl rfl) rfl d_Model_undo_56 ?_
    refine j_aload_n (pc := 59) C d_Model_undo_59 rfl 1 rfl ?_
    refine j_dup (pc := 60) C d_Model_undo_60 rfl ?_
    refine j_get (pc := 61) C gf_Model_415 0 rfl rfl d_Model_undo_61 ?_
    refine j_iconst (pc := 64) C (v := 1) d_Model_undo_64 (by decide) ?_
    refine j_isub (pc := 65) C (v := nI (cn - 1)) d_Model_undo_65 (pk_sub (a := cn) (b := 1) (by omega)) ?_
    refine j_put (pc := 66) C pf_Model_415 0 (ws' := [MB mo ma (nI t1) i2 i3 i4 i5 i6 i7 i8 i42 i49 i51 i53 i54 i59 i61 i64 (nI (cn - 1)) (nI (((ix + 30) - 1) % 30)) i76 i78, (ma 62, .inl (y 0, 63, .inl dz)), (ma 65, .inl (y 0, 1890, .inl g65))]) rfl rfl rfl (nl rfl) rfl d_Model_undo_66 ?_
    refine j_ws (ws' := [MB mo ma (nI t1) i2 i3 i4 i5 i6 i7 i8 i42 i49 i51 i53 i54 i59 i61 i64 (nI (cn - 1)) (nI ((ix + 29) % 30)) i76 i78, (ma 62, .inl (y 0, 63, .inl dz)), (ma 65, .inl (y 0, 1890, .inl g65))]) (by rw [show nI (((ix + 30) - 1) % 30) = nI ((ix + 29) % 30) from (congrArg nI (by omega))]) ?_
    refine j_iconst (pc := 69) C (v := 1) d_Model_undo_69 (by decide) ?_
    exact j_iret (pc := 70) C hr (by decide) dz ⟨rfl, nw_cp (drel_pop hdr h0 hc hi).1 (fun j hj => by rw [Nat.zero_add]; exact hp_ j (by omega)), (drel_pop hdr h0 hc hi).2⟩ [0, 1, 2] rfl (by decide) (by decide) (by decide) d_Model_undo_70
  · refine j_icmp_geF (pc := 14) C (tgt := 43) d_Model_undo_14 (by decide) (show ¬ nI 63 ≤ nI iz from nI_ge (by omega) (by omega)) ?_
    refine j_aload_n (pc := 17) C d_Model_undo_17 rfl 1 rfl ?_
    refine j_get (pc := 18) C gf_Model_158 0 rfl rfl d_Model_undo_18 ?_
    refine j_iload_n (pc := 21) C d_Model_undo_21 rfl 0 rfl ?_
    refine j_aload_n (pc := 22) C d_Model_undo_22 rfl 1 rfl ?_
    refine j_get (pc := 23) C gf_Model_164 0 rfl rfl d_Model_undo_23 ?_
    refine j_bipush (pc := 26) C (v := 63) d_Model_undo_26 (by decide) ?_
    refine j_aload_n (pc := 28) C d_Model_undo_28 rfl 1 rfl ?_
    refine j_get (pc := 29) C gf_Model_460 0 rfl rfl d_Model_undo_29 ?_
    refine j_imul (pc := 32) C (v := nI (63 * ix)) d_Model_undo_32 (pk_mul _ _) ?_
    refine j_iload_n (pc := 33) C d_Model_undo_33 rfl 0 rfl ?_
    refine j_iadd (pc := 34) C (v := nI ((63 * ix) + iz)) d_Model_undo_34 (nI_add _ _) ?_
    refine j_iald (pc := 35) C 2 rfl (v := g65 ((63 * ix) + iz)) (vp_in_nI (by omega) (by decide)) (by rw [nI_clamp (by omega)]) d_Model_undo_35 ?_
    refine j_iast (pc := 36) C 1 rfl (ws' := [MB mo ma (nI t1) i2 i3 i4 i5 i6 i7 i8 i42 i49 i51 i53 i54 i59 i61 i64 (nI cn) (nI ix) i76 i78, (ma 62, .inl (y 0, 63, .inl (upd dz iz (g65 ((63 * ix) + iz))))), (ma 65, .inl (y 0, 1890, .inl g65))]) (vp_in_nI (by omega) (by decide)) (by rw [nI_clamp (by omega)]; rfl) d_Model_undo_36 ?_
    refine j_iinc (pc := 37) C (v := nI (iz + 1)) (lv' := [(1, .int (nI (iz + 1))), (0, .ref mo)]) d_Model_undo_37 0 rfl (nI_add _ _) (by decide) rfl ?_
    refine j_goto (pc := 40) C (tgt := 11) d_Model_undo_40 (by decide) ?_
    exact ih3 ((iz + 1), (upd dz iz (g65 ((63 * ix) + iz)))) ⟨(show (iz + 1) ≤ 63 by omega), (show ∀ j, j < (iz + 1) → (upd dz iz (g65 ((63 * ix) + iz))) j = g65 (63 * ix + j) from fun j hj => if e : j = iz then (by rw [e]; exact pk_us) else ((pk_un e).trans (hp_ j (by omega))))⟩ (show 63 - (iz + 1) < 63 - iz by omega)
set_option maxHeartbeats 4000000 in
set_option maxRecDepth 100000 in
theorem c_m_steal_y (l : Launch) (D : va_G) (y : Nat → ClassId) (mo : Nat) (ma : Nat → Nat) (t1 : Nat) (i2 : Int32) (i3 : Int32) (i4 : Int32) (i5 : Int32) (i6 : Int32) (i7 : Int32) (i8 : Int32) (i42 : Int32) (i49 : Int32) (i51 : Int32) (i53 : Int32) (i54 : Int32) (i59 : Int32) (i61 : Int32) (i64 : Int32) (i66 : Int32) (t67 : Nat) (i76 : Int64) (i78 : Int32) (g43 : Nat → Int32) (g46 : Nat → Int32) (g62 : Nat → Int32) (gq : Nat) (gt : LA_) (dy : Nat) (wa : Nat) (la : Nat) (bd : Nat → Nat) (fl : Nat → Nat) (st : Nat → Nat) (wo : Nat → Int) (ly : Nat → Int) (se : Nat → Nat) (su : Nat → Nat) (hto : TOQ gt) (hnw : NW g62 0 dy wa la bd fl st wo ly se su) (hs_many : MC gt (fun j => g43 (4 + j))) (hs_gates : GR gt (fun j => g46 (54 + j))) (hbd : BN (gt.s 9) bd 20) (hg : gq < gt.s 9) (hcl : 0 < bd gq ∧ (gt.r 6 gq = 0 ∨ 0 < bd (gt.r 6 gq - 1))) : CT l D y ⟨"NineBoardsModel", "steal", "(I)I"⟩ prog_13_method_111_code 2 (some .int) ({ frames := 2, cells := 0, slots := 0, locals := 49 } : Room) [.ref mo, .int (nI gq)] [MB mo ma (nI t1) i2 i3 i4 i5 i6 i7 i8 i42 i49 i51 i53 i54 i59 i61 i64 i66 (nI t67) i76 i78, (ma 43, .inl (y 0, 8, .inl g43)), (ma 46, .inl (y 0, 108, .inl g46)), (ma 62, .inl (y 0, 63, .inl g62))] (QI D [MB mo ma (nI t1) i2 i3 i4 i5 i6 i7 i8 i42 i49 i51 i53 i54 i59 i61 i64 i66 (nI t67) i76 i78, (ma 43, .inl (y 0, 8, .inl g43)), (ma 46, .inl (y 0, 108, .inl g46)), (ma 62, .inl (y 0, 63, .inl g62))] (fun (r : Int32) (u : Nat → Int32) => r = nI (mvB gt bd gq 1 gq) ∧ NW u 0 dy wa la (mvB gt bd gq 1) fl st wo ly se su) (fun u => [MB mo ma (nI t1) i2 i3 i4 i5 i6 i7 i8 i42 i49 i51 i53 i54 i59 i61 i64 i66 (nI t67) i76 i78, (ma 43, .inl (y 0, 8, .inl g43)), (ma 46, .inl (y 0, 108, .inl g46)), (ma 62, .inl (y 0, 63, .inl u))])) := by
  refine CT.of (by decide) (nb rfl) ?_
  intro p e s m args below meth c C hr
  refine j_lv (lv' := [(0, .ref mo), (1, .int (nI gq))]) rfl ?_
  obtain ⟨_, _, _, _, b9, b4, b10, b11⟩ := id hs_many
  obtain ⟨b1, b1x, b2, b2x, b3, b5, b6, b7, b8⟩ := to_n hto
  refine j_aload_n (pc := 0) C d_Model_steal_0 rfl 0 rfl ?_
  refine j_iload_n (pc := 1) C d_Model_steal_1 rfl 1 rfl ?_
  refine j_callVi (pc := 2) C (c_misGate l D y mo ma t1 i2 i3 i4 i5 i6 i7 i8 i42 i49 i51 i53 i54 i59 i61 i64 i66 t67 i76 i78 g43 (nI gq) gt hto hs_many) kw_Model_465 kv_Model_isGate 0 10 rfl rfl ⟨by decide, by decide⟩ ⟨by decide, by decide⟩ (wr := [(ma 46, .inl (y 0, 108, .inl g46)), (ma 62, .inl (y 0, 63, .inl g62))]) [0, 1] [2, 3] rfl rfl (by decide) (by decide) (by decide) (As := [.int (nI gq)]) (rest := []) rfl (nb rfl) rfl d_Model_steal_2 (fun r1 _ hr1 => ?_)
  refine j_ws (ws' := [(ma 46, .inl (y 0, 108, .inl g46)), (ma 62, .inl (y 0, 63, .inl g62)), MB mo ma (nI t1) i2 i3 i4 i5 i6 i7 i8 i42 i49 i51 i53 i54 i59 i61 i64 i66 (nI t67) i76 i78, (ma 43, .inl (y 0, 8, .inl g43))]) rfl ?_
  rcases hr1 with ⟨rfl, xh4⟩ | ⟨rfl, j2, xh3, xh3e⟩
  · refine j_if_eqT (pc := 5) C (tgt := 19) d_Model_steal_5 (by decide) (by decide) ?_
    exact absurd rfl (xh4 gq hg)
  · refine j_if_eqF (pc := 5) C (tgt := 19) d_Model_steal_5 (by decide) (by decide) ?_
    refine j_aload_n (pc := 8) C d_Model_steal_8 rfl 0 rfl ?_
    refine j_iload_n (pc := 9) C d_Model_steal_9 rfl 1 rfl ?_
    refine j_iconst (pc := 10) C (v := 1) d_Model_steal_10 (by decide) ?_
    refine j_bipush (pc := 11) C (v := 20) d_Model_steal_11 (by decide) ?_
    refine j_callVi (pc := 13) C (c_mareBoards l D y mo ma t1 i2 i3 i4 i5 i6 i7 i8 i42 i49 i51 i53 i54 i59 i61 i64 i66 t67 i76 i78 g46 g62 gq 1 20 gt dy wa la bd fl st wo ly se su hto hnw hs_gates hg (by omega) hbd (by omega) (by omega)) kw_Model_424 kv_Model_areBoards 0 10 rfl rfl ⟨by decide, by decide⟩ ⟨by decide, by decide⟩ (wr := [(ma 43, .inl (y 0, 8, .inl g43))]) [2, 0, 1] [3] rfl rfl (by decide) (by decide) (by decide) (As := [.int (nI gq), .int 1, .int 20]) (rest := []) rfl (nb rfl) rfl d_Model_steal_13 (fun r5 _ hr5 => ?_)
    refine j_ws (ws' := [(ma 43, .inl (y 0, 8, .inl g43)), MB mo ma (nI t1) i2 i3 i4 i5 i6 i7 i8 i42 i49 i51 i53 i54 i59 i61 i64 i66 (nI t67) i76 i78, (ma 46, .inl (y 0, 108, .inl g46)), (ma 62, .inl (y 0, 63, .inl g62))]) rfl ?_
    rcases hr5 with ⟨rfl, xh7⟩ | ⟨rfl, xh8⟩
    · refine j_if_neT (pc := 16) C (tgt := 21) d_Model_steal_16 (by decide) (by decide) ?_
      refine j_aload_n (pc := 21) C d_Model_steal_21 rfl 0 rfl ?_
      refine j_iload_n (pc := 22) C d_Model_steal_22 rfl 1 rfl ?_
      refine j_iconst (pc := 23) C (v := (-1)) d_Model_steal_23 (by decide) ?_
      refine j_callVv (pc := 24) C (c_malters_1 l D y mo ma t1 i2 i3 i4 i5 i6 i7 i8 i42 i49 i51 i53 i54 i59 i61 i64 i66 t67 i76 i78 g46 g62 gq gt dy wa la bd fl st wo ly se su hto hnw hs_gates hg (by omega) (by omega) (by omega)) kw_Model_454 kv_Model_alters 0 10 rfl rfl ⟨by decide, by decide⟩ ⟨by decide, by decide⟩ (wr := [(ma 43, .inl (y 0, 8, .inl g43))]) [1, 2, 3] [0] rfl rfl (by decide) (by decide) (by decide) (As := [.int (nI gq), .int (-1)]) (rest := []) rfl (nb rfl) rfl d_Model_steal_24 (fun u9 hu10 => ?_)
      have xh11 := hu10
      refine j_ws (ws' := [(ma 43, .inl (y 0, 8, .inl g43)), MB mo ma (nI t1) i2 i3 i4 i5 i6 i7 i8 i42 i49 i51 i53 i54 i59 i61 i64 i66 (nI t67) i76 i78, (ma 46, .inl (y 0, 108, .inl g46)), (ma 62, .inl (y 0, 63, .inl u9))]) rfl ?_
      refine j_aload_n (pc := 27) C d_Model_steal_27 rfl 0 rfl ?_
      refine j_iload_n (pc := 28) C d_Model_steal_28 rfl 1 rfl ?_
      refine j_callVi (pc := 29) C (c_mboards l D y mo ma t1 i2 i3 i4 i5 i6 i7 i8 i42 i49 i51 i53 i54 i59 i61 i64 i66 t67 i76 i78 u9 gq dy wa la (mvB gt bd gq 1) fl st wo ly se su xh11 (by omega)) kw_Model_421 kv_Model_boards 0 10 rfl rfl ⟨by decide, by decide⟩ ⟨by decide, by decide⟩ (wr := [(ma 43, .inl (y 0, 8, .inl g43)), (ma 46, .inl (y 0, 108, .inl g46))]) [1, 3] [0, 2] rfl rfl (by decide) (by decide) (by decide) (As := [.int (nI gq)]) (rest := []) rfl (nb rfl) rfl d_Model_steal_29 (fun r12 _ hr12 => ?_)
      obtain rfl := hr12
      refine j_ws (ws' := [(ma 43, .inl (y 0, 8, .inl g43)), (ma 46, .inl (y 0, 108, .inl g46)), MB mo ma (nI t1) i2 i3 i4 i5 i6 i7 i8 i42 i49 i51 i53 i54 i59 i61 i64 i66 (nI t67) i76 i78, (ma 62, .inl (y 0, 63, .inl u9))]) rfl ?_
      exact j_iret (pc := 32) C hr rfl u9 ⟨rfl, xh11⟩ [2, 0, 1, 3] rfl (by decide) (by decide) (by decide) d_Model_steal_32
    · exact (xh8 ⟨by omega, hbd gq hg, hcl.2.elim Or.inl (fun q => (Nat.eq_zero_or_pos (gt.r 6 gq)).elim Or.inl (fun z => Or.inr ⟨q, hbd _ (by have := (to_j hto gq hg).1; omega)⟩))⟩).elim
set_option maxHeartbeats 4000000 in
set_option maxRecDepth 100000 in
theorem c_m_steal_n (l : Launch) (D : va_G) (y : Nat → ClassId) (mo : Nat) (ma : Nat → Nat) (t1 : Nat) (i2 : Int32) (i3 : Int32) (i4 : Int32) (i5 : Int32) (i6 : Int32) (i7 : Int32) (i8 : Int32) (i42 : Int32) (i49 : Int32) (i51 : Int32) (i53 : Int32) (i54 : Int32) (i59 : Int32) (i61 : Int32) (i64 : Int32) (i66 : Int32) (t67 : Nat) (i76 : Int64) (i78 : Int32) (g43 : Nat → Int32) (g46 : Nat → Int32) (g62 : Nat → Int32) (v : Int32) (gt : LA_) (dy : Nat) (wa : Nat) (la : Nat) (bd : Nat → Nat) (fl : Nat → Nat) (st : Nat → Nat) (wo : Nat → Int) (ly : Nat → Int) (se : Nat → Nat) (su : Nat → Nat) (hto : TOQ gt) (hnw : NW g62 0 dy wa la bd fl st wo ly se su) (hs_many : MC gt (fun j => g43 (4 + j))) (hs_gates : GR gt (fun j => g46 (54 + j))) (hbd : BN (gt.s 9) bd 20) (hno : ¬ OKS gt bd v) : CT l D y ⟨"NineBoardsModel", "steal", "(I)I"⟩ prog_13_method_111_code 2 (some .int) ({ frames := 2, cells := 0, slots := 0, locals := 49 } : Room) [.ref mo, .int v] [MB mo ma (nI t1) i2 i3 i4 i5 i6 i7 i8 i42 i49 i51 i53 i54 i59 i61 i64 i66 (nI t67) i76 i78, (ma 43, .inl (y 0, 8, .inl g43)), (ma 46, .inl (y 0, 108, .inl g46)), (ma 62, .inl (y 0, 63, .inl g62))] (QI D [MB mo ma (nI t1) i2 i3 i4 i5 i6 i7 i8 i42 i49 i51 i53 i54 i59 i61 i64 i66 (nI t67) i76 i78, (ma 43, .inl (y 0, 8, .inl g43)), (ma 46, .inl (y 0, 108, .inl g46)), (ma 62, .inl (y 0, 63, .inl g62))] (fun (r : Int32) (u : Unit) => r = -1) (fun _ => [MB mo ma (nI t1) i2 i3 i4 i5 i6 i7 i8 i42 i49 i51 i53 i54 i59 i61 i64 i66 (nI t67) i76 i78, (ma 43, .inl (y 0, 8, .inl g43)), (ma 46, .inl (y 0, 108, .inl g46)), (ma 62, .inl (y 0, 63, .inl g62))])) := by
  refine CT.of (by decide) (nb rfl) ?_
  intro p e s m args below meth c C hr
  refine j_lv (lv' := [(0, .ref mo), (1, .int v)]) rfl ?_
  obtain ⟨_, _, _, _, b9, b4, b10, b11⟩ := id hs_many
  obtain ⟨b1, b1x, b2, b2x, b3, b5, b6, b7, b8⟩ := to_n hto
  refine j_aload_n (pc := 0) C d_Model_steal_0 rfl 0 rfl ?_
  refine j_iload_n (pc := 1) C d_Model_steal_1 rfl 1 rfl ?_
  refine j_callVi (pc := 2) C (c_misGate l D y mo ma t1 i2 i3 i4 i5 i6 i7 i8 i42 i49 i51 i53 i54 i59 i61 i64 i66 t67 i76 i78 g43 v gt hto hs_many) kw_Model_465 kv_Model_isGate 0 10 rfl rfl ⟨by decide, by decide⟩ ⟨by decide, by decide⟩ (wr := [(ma 46, .inl (y 0, 108, .inl g46)), (ma 62, .inl (y 0, 63, .inl g62))]) [0, 1] [2, 3] rfl rfl (by decide) (by decide) (by decide) (As := [.int v]) (rest := []) rfl (nb rfl) rfl d_Model_steal_2 (fun r1 _ hr1 => ?_)
  refine j_ws (ws' := [(ma 46, .inl (y 0, 108, .inl g46)), (ma 62, .inl (y 0, 63, .inl g62)), MB mo ma (nI t1) i2 i3 i4 i5 i6 i7 i8 i42 i49 i51 i53 i54 i59 i61 i64 i66 (nI t67) i76 i78, (ma 43, .inl (y 0, 8, .inl g43))]) rfl ?_
  rcases hr1 with ⟨rfl, xh4⟩ | ⟨rfl, j2, xh3, rfl⟩
  · refine j_if_eqT (pc := 5) C (tgt := 19) d_Model_steal_5 (by decide) (by decide) ?_
    refine j_iconst (pc := 19) C (v := (-1)) d_Model_steal_19 (by decide) ?_
    exact j_iret (pc := 20) C hr rfl () rfl [2, 3, 0, 1] rfl (by decide) (by decide) (by decide) d_Model_steal_20
  · refine j_if_eqF (pc := 5) C (tgt := 19) d_Model_steal_5 (by decide) (by decide) ?_
    refine j_aload_n (pc := 8) C d_Model_steal_8 rfl 0 rfl ?_
    refine j_iload_n (pc := 9) C d_Model_steal_9 rfl 1 rfl ?_
    refine j_iconst (pc := 10) C (v := 1) d_Model_steal_10 (by decide) ?_
    refine j_bipush (pc := 11) C (v := 20) d_Model_steal_11 (by decide) ?_
    refine j_callVi (pc := 13) C (c_mareBoards l D y mo ma t1 i2 i3 i4 i5 i6 i7 i8 i42 i49 i51 i53 i54 i59 i61 i64 i66 t67 i76 i78 g46 g62 j2 1 20 gt dy wa la bd fl st wo ly se su hto hnw hs_gates (by omega) (by omega) hbd (by omega) (by omega)) kw_Model_424 kv_Model_areBoards 0 10 rfl rfl ⟨by decide, by decide⟩ ⟨by decide, by decide⟩ (wr := [(ma 43, .inl (y 0, 8, .inl g43))]) [2, 0, 1] [3] rfl rfl (by decide) (by decide) (by decide) (As := [.int (nI j2), .int 1, .int 20]) (rest := []) rfl (nb rfl) rfl d_Model_steal_13 (fun r5 _ hr5 => ?_)
    refine j_ws (ws' := [(ma 43, .inl (y 0, 8, .inl g43)), MB mo ma (nI t1) i2 i3 i4 i5 i6 i7 i8 i42 i49 i51 i53 i54 i59 i61 i64 i66 (nI t67) i76 i78, (ma 46, .inl (y 0, 108, .inl g46)), (ma 62, .inl (y 0, 63, .inl g62))]) rfl ?_
    rcases hr5 with ⟨rfl, xh7⟩ | ⟨rfl, xh8⟩
    · exact absurd (⟨j2, xh3, rfl, by omega⟩ : OKS gt bd (nI j2)) hno
    · refine j_if_neF (pc := 16) C (tgt := 21) d_Model_steal_16 (by decide) (by decide) ?_
      refine j_iconst (pc := 19) C (v := (-1)) d_Model_steal_19 (by decide) ?_
      exact j_iret (pc := 20) C hr rfl () rfl [1, 0, 2, 3] rfl (by decide) (by decide) (by decide) d_Model_steal_20
