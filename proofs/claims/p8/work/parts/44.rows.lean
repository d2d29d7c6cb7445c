/-- what is left of a row of acts, as a number -/
def rwM (f : Nat → Int32) : Nat → Nat
  | 0 => 0
  | d + 1 => rwM f d + (3 - (f d).toInt).toNat * 5 ^ (20 - d)
theorem rwM_up {f : Nat → Int32} {v : Int32} {k : Nat} : ∀ {d}, d ≤ k → rwM (upd f k v) d = rwM f d := by
  intro d
  induction d with
  | zero => intro _; rfl
  | succ d ih =>
    intro h
    unfold rwM
    rw [ih (by omega), pk_un (by omega)]
theorem m1_int {q : Nat} (h : q < 4) : (nI q - 1).toInt = (q : Int) - 1 := by
  have : q = 0 ∨ q = 1 ∨ q = 2 ∨ q = 3 := by omega
  rcases this with rfl | rfl | rfl | rfl <;> decide
def RI (f : Nat → Int32) (k c : Nat) : Prop := (∀ j, j < k → ∃ q, q < 4 ∧ f j = nI q - 1) ∧ (∀ j, j + 1 < k → (f j = 0 ∨ 0 < c))
theorem ri_0 {f : Nat → Int32} {c : Nat} : RI (upd f 0 (-1)) 1 c := ⟨fun j hj => ⟨0, by omega, by rw [show j = 0 by omega, pk_us]; decide⟩, fun j hj => absurd hj (by omega)⟩
theorem x3_q {x : Nat} (h : x < 3) : ∃ q, q < 4 ∧ nI x = nI q - 1 := by
  have : x = 0 ∨ x = 1 ∨ x = 2 := by omega
  rcases this with rfl | rfl | rfl
  · exact ⟨1, by omega, by decide⟩
  · exact ⟨2, by omega, by decide⟩
  · exact ⟨3, by omega, by decide⟩
theorem ri_a {f : Nat → Int32} {k K c x : Nat} (hk : K = k + 1) (h : RI f K c) (hx : x < 3) : RI (upd f k (nI x)) (k + 1) c := by
  subst hk
  refine ⟨fun j hj => ?_, fun j hj => ?_⟩
  · by_cases e : j = k
    · subst e
      rw [pk_us]
      exact x3_q hx
    · rw [pk_un e]
      exact h.1 j hj
  · rw [pk_un (by omega)]
    exact h.2 j hj
theorem ri_b {f : Nat → Int32} {k K c x : Nat} (hk : K = k + 1) (h : RI f K c) (hx : x < 3) (hm : nI x = 0 ∨ 0 < c) : RI (upd (upd f k (nI x)) (k + 1) (-1)) (k + 1 + 1) c := by
  subst hk
  refine ⟨fun j hj => ?_, fun j hj => ?_⟩
  · by_cases e : j = k + 1
    · subst e
      rw [pk_us]
      exact ⟨0, by omega, by decide⟩
    · rw [pk_un e]
      exact (ri_a rfl h hx).1 j (by omega)
  · rw [pk_un (by omega)]
    by_cases e : j = k
    · subst e
      rw [pk_us]
      exact hm
    · rw [pk_un e]
      exact h.2 j (by omega)
theorem ri_c {f : Nat → Int32} {k K c : Nat} (hk : K = k + 1) (h : RI f K c) : RI f k c := by
  subst hk
  exact ⟨fun j hj => h.1 j (by omega), fun j hj => h.2 j (by omega)⟩
theorem rw_a {f : Nat → Int32} {k K q x : Nat} (hk : K = k + 1) (hq : q < 4) (e : f k = nI q - 1) (h : q ≤ x) (hx : x < 3) : rwM (upd f k (nI x)) (k + 1) < rwM f K := by
  subst hk
  unfold rwM
  rw [rwM_up (Nat.le_refl _), pk_us, e, m1_int hq, nI_toInt (by omega)]
  have hp : 0 < 5 ^ (20 - k) := Nat.pow_pos (by decide)
  have : (3 - (x : Int)).toNat < (3 - ((q : Int) - 1)).toNat := by omega
  exact Nat.add_lt_add_left (Nat.mul_lt_mul_of_pos_right this hp) _
theorem rw_b {f : Nat → Int32} {k K q x : Nat} (hk : K = k + 1) (hk2 : k < 20) (hq : q < 4) (e : f k = nI q - 1) (h : q ≤ x) (hx : x < 3) : rwM (upd (upd f k (nI x)) (k + 1) (-1)) (k + 1 + 1) < rwM f K := by
  subst hk
  show rwM (upd (upd f k (nI x)) (k + 1) (-1)) (k + 1) + (3 - (upd (upd f k (nI x)) (k + 1) (-1) (k + 1)).toInt).toNat * 5 ^ (20 - (k + 1)) < rwM f k + (3 - (f k).toInt).toNat * 5 ^ (20 - k)
  rw [rwM_up (Nat.le_refl _), pk_us]
  show rwM (upd f k (nI x)) k + (3 - (upd f k (nI x) k).toInt).toNat * 5 ^ (20 - k) + 4 * 5 ^ (20 - (k + 1)) < _
  rw [rwM_up (Nat.le_refl _), pk_us, e, m1_int hq, nI_toInt (by omega), show 20 - k = (20 - (k + 1)) + 1 by omega, Nat.pow_succ]
  have hp : 0 < 5 ^ (20 - (k + 1)) := Nat.pow_pos (by decide)
  generalize 5 ^ (20 - (k + 1)) = W at *
  have h3 : (3 - (x : Int)).toNat + 1 ≤ (3 - ((q : Int) - 1)).toNat := by omega
  have h4 := Nat.mul_le_mul_right (W * 5) h3
  rw [Nat.add_mul] at h4
  omega
theorem rw_c {f : Nat → Int32} {k K q : Nat} (hk : K = k + 1) (hq : q < 4) (e : f k = nI q - 1) : rwM f k < rwM f K := by
  subst hk
  show _ < rwM f k + (3 - (f k).toInt).toNat * 5 ^ (20 - k)
  rw [e, m1_int hq]
  have hp : 0 < 5 ^ (20 - k) := Nat.pow_pos (by decide)
  have : 0 < (3 - ((q : Int) - 1)).toNat * 5 ^ (20 - k) := Nat.mul_pos (by omega) hp
  omega
theorem dn_s {k : Nat} : nI (k + 1) - 1 = nI k := by
  rw [show nI (k + 1) - 1 = nI (k + 1 - 1) from nI_s1 (by omega), Nat.add_sub_cancel]
theorem dn_m {k : Nat} : nI (k + 1) + -1 = nI k := by
  rw [m1s, dn_s]
theorem dn_lt {k : Nat} (h : k = 0) : nI k + -1 < 0 := by
  subst h
  decide
theorem dn_nlt {k : Nat} (h : ¬ k = 0) (hk : k ≤ 1000) : ¬ nI k + -1 < 0 := by
  rw [m1s]
  exact dn_1 h hk
theorem d_Model_unacts_0 : decode prog_13_method_108_code 0 = .ok (.aload_n 0, 1) := by decide +kernel
theorem d_Model_unacts_1 : decode prog_13_method_108_code 1 = .ok (.getfield 158, 3) := by decide +kernel
theorem d_Model_unacts_4 : decode prog_13_method_108_code 4 = .ok (.iconst 0, 1) := by decide +kernel
theorem d_Model_unacts_5 : decode prog_13_method_108_code 5 = .ok (.dup2, 1) := by decide +kernel
theorem d_Model_unacts_6 : decode prog_13_method_108_code 6 = .ok (.iaload, 1) := by decide +kernel
theorem d_Model_unacts_7 : decode prog_13_method_108_code 7 = .ok (.iconst 1, 1) := by decide +kernel
theorem d_Model_unacts_8 : decode prog_13_method_108_code 8 = .ok (.isub, 1) := by decide +kernel
theorem d_Model_unacts_9 : decode prog_13_method_108_code 9 = .ok (.iastore, 1) := by decide +kernel
theorem d_Model_unacts_10 : decode prog_13_method_108_code 10 = .ok (.aload_n 0, 1) := by decide +kernel
theorem d_Model_unacts_11 : decode prog_13_method_108_code 11 = .ok (.getfield 185, 3) := by decide +kernel
theorem gf_Model_185 : GF "NineBoardsModel" 185 10 74 := ⟨_, _, _, rfl, ci_Model, by decide, (mt_5 (List.mem_of_getElem? (i := 162) rfl) rfl)⟩
theorem d_Model_unacts_14 : decode prog_13_method_108_code 14 = .ok (.iload_n 1, 1) := by decide +kernel
theorem d_Model_unacts_15 : decode prog_13_method_108_code 15 = .ok (.iaload, 1) := by decide +kernel
theorem d_Model_unacts_16 : decode prog_13_method_108_code 16 = .ok (.ifCond .eq 34, 3) := by decide +kernel
theorem d_Model_unacts_50 : decode prog_13_method_108_code 50 = .ok (.aload_n 0, 1) := by decide +kernel
theorem d_Model_unacts_51 : decode prog_13_method_108_code 51 = .ok (.getfield 158, 3) := by decide +kernel
theorem d_Model_unacts_54 : decode prog_13_method_108_code 54 = .ok (.iconst 2, 1) := by decide +kernel
theorem d_Model_unacts_55 : decode prog_13_method_108_code 55 = .ok (.aload_n 0, 1) := by decide +kernel
theorem d_Model_unacts_56 : decode prog_13_method_108_code 56 = .ok (.getfield 188, 3) := by decide +kernel
theorem gf_Model_188 : GF "NineBoardsModel" 188 10 75 := ⟨_, _, _, rfl, ci_Model, by decide, (mt_5 (List.mem_of_getElem? (i := 163) rfl) rfl)⟩
theorem d_Model_unacts_59 : decode prog_13_method_108_code 59 = .ok (.iload_n 1, 1) := by decide +kernel
theorem d_Model_unacts_60 : decode prog_13_method_108_code 60 = .ok (.iaload, 1) := by decide +kernel
theorem d_Model_unacts_61 : decode prog_13_method_108_code 61 = .ok (.iastore, 1) := by decide +kernel
theorem d_Model_unacts_62 : decode prog_13_method_108_code 62 = .ok (.return_, 1) := by decide +kernel
theorem d_Model_unacts_19 : decode prog_13_method_108_code 19 = .ok (.aload_n 0, 1) := by decide +kernel
theorem d_Model_unacts_20 : decode prog_13_method_108_code 20 = .ok (.aload_n 0, 1) := by decide +kernel
theorem d_Model_unacts_21 : decode prog_13_method_108_code 21 = .ok (.getfield 130, 3) := by decide +kernel
theorem d_Model_unacts_24 : decode prog_13_method_108_code 24 = .ok (.bipush 6, 2) := by decide +kernel
theorem d_Model_unacts_26 : decode prog_13_method_108_code 26 = .ok (.aload_n 0, 1) := by decide +kernel
theorem d_Model_unacts_27 : decode prog_13_method_108_code 27 = .ok (.invokevirtual 451, 3) := by decide +kernel
theorem d_Model_unacts_30 : decode prog_13_method_108_code 30 = .ok (.iadd, 1) := by decide +kernel
theorem d_Model_unacts_31 : decode prog_13_method_108_code 31 = .ok (.iaload, 1) := by decide +kernel
theorem d_Model_unacts_32 : decode prog_13_method_108_code 32 = .ok (.aload_n 0, 1) := by decide +kernel
theorem d_Model_unacts_33 : decode prog_13_method_108_code 33 = .ok (.getfield 185, 3) := by decide +kernel
theorem d_Model_unacts_36 : decode prog_13_method_108_code 36 = .ok (.iload_n 1, 1) := by decide +kernel
theorem d_Model_unacts_37 : decode prog_13_method_108_code 37 = .ok (.iaload, 1) := by decide +kernel
theorem d_Model_unacts_38 : decode prog_13_method_108_code 38 = .ok (.iconst 1, 1) := by decide +kernel
theorem d_Model_unacts_39 : decode prog_13_method_108_code 39 = .ok (.if_icmp .ne 7, 3) := by decide +kernel
theorem d_Model_unacts_46 : decode prog_13_method_108_code 46 = .ok (.iconst (-1), 1) := by decide +kernel
theorem d_Model_unacts_47 : decode prog_13_method_108_code 47 = .ok (.invokevirtual 454, 3) := by decide +kernel
theorem d_Model_unacts_42 : decode prog_13_method_108_code 42 = .ok (.iconst 1, 1) := by decide +kernel
theorem d_Model_unacts_43 : decode prog_13_method_108_code 43 = .ok (.goto 4, 3) := by decide +kernel
set_option maxHeartbeats 4000000 in
set_option maxRecDepth 100000 in
theorem c_M_unacts (l : Launch) (D : va_G) (y : Nat → ClassId) (mo : Nat) (ma : Nat → Nat) (t1 : Nat) (i2 : Int32) (i3 : Int32) (i4 : Int32) (i5 : Int32) (i6 : Int32) (i7 : Int32) (i8 : Int32) (i42 : Int32) (i49 : Int32) (i51 : Int32) (i53 : Int32) (i54 : Int32) (i59 : Int32) (i61 : Int32) (i64 : Int32) (i66 : Int32) (t67 : Nat) (i76 : Int64) (i78 : Int32) (g43 : Nat → Int32) (g46 : Nat → Int32) (g47 : Nat → Int32) (g62 : Nat → Int32) (g74 : Nat → Int32) (g75 : Nat → Int32) (j : Nat) (c1 : Nat) (dy : Nat) (hc1 : g43 5 = nI c1) (bc1 : c1 ≤ 6) (hG : ∀ j, j < 9 → g46 (54 + 6 * j + 5) = -1 ∨ ∃ q, q < 9 ∧ g46 (54 + 6 * j + 5) = nI q) (hO : ∀ j, j < 6 → ∃ q, q < 9 ∧ g47 (6 + j) = nI q) (hD : g62 0 = nI dy) (bD : dy ≤ 2000) (hd1 : 1 ≤ dy) (hj : j < 13) (hv : (g74 j = 0 ∨ 0 < c1)) : CT l D y ⟨"NineBoardsModel", "unacts", "(I)V"⟩ prog_13_method_108_code 2 none ({ frames := 2, cells := 0, slots := 0, locals := 43 } : Room) [.ref mo, .int (nI j)] [MB mo ma (nI t1) i2 i3 i4 i5 i6 i7 i8 i42 i49 i51 i53 i54 i59 i61 i64 i66 (nI t67) i76 i78, (ma 43, .inl (y 0, 8, .inl g43)), (ma 46, .inl (y 0, 108, .inl g46)), (ma 47, .inl (y 0, 12, .inl g47)), (ma 62, .inl (y 0, 63, .inl g62)), (ma 74, .inl (y 0, 13, .inl g74)), (ma 75, .inl (y 0, 13, .inl g75))] (QV D [MB mo ma (nI t1) i2 i3 i4 i5 i6 i7 i8 i42 i49 i51 i53 i54 i59 i61 i64 i66 (nI t67) i76 i78, (ma 43, .inl (y 0, 8, .inl g43)), (ma 46, .inl (y 0, 108, .inl g46)), (ma 47, .inl (y 0, 12, .inl g47)), (ma 62, .inl (y 0, 63, .inl g62)), (ma 74, .inl (y 0, 13, .inl g74)), (ma 75, .inl (y 0, 13, .inl g75))] (fun (u : (Nat → Int32)) => u 0 = nI (dy - 1)) (fun u => [MB mo ma (nI t1) i2 i3 i4 i5 i6 i7 i8 i42 i49 i51 i53 i54 i59 i61 i64 i66 (nI t67) i76 i78, (ma 43, .inl (y 0, 8, .inl g43)), (ma 46, .inl (y 0, 108, .inl g46)), (ma 47, .inl (y 0, 12, .inl g47)), (ma 62, .inl (y 0, 63, .inl u)), (ma 74, .inl (y 0, 13, .inl g74)), (ma 75, .inl (y 0, 13, .inl g75))])) := by
  refine CT.of (by decide) (nb rfl) ?_
  intro p e s m args below meth c C hr
  refine j_lv (lv' := [(0, .ref mo), (1, .int (nI j))]) rfl ?_
  refine j_aload_n (pc := 0) C d_Model_unacts_0 rfl 0 rfl ?_
  refine j_get (pc := 1) C gf_Model_158 0 rfl rfl d_Model_unacts_1 ?_
  refine j_iconst (pc := 4) C (v := 0) d_Model_unacts_4 (by decide) ?_
  refine j_dup2 (pc := 5) C d_Model_unacts_5 rfl rfl ?_
  refine j_iald (pc := 6) C 4 rfl (v := nI dy) (vin (by decide)) (by exact hD) d_Model_unacts_6 ?_
  refine j_iconst (pc := 7) C (v := 1) d_Model_unacts_7 (by decide) ?_
  refine j_isub (pc := 8) C (v := nI (dy - 1)) d_Model_unacts_8 (pk_sub (a := dy) (b := 1) (by omega)) ?_
  refine j_iast (pc := 9) C 4 rfl (ws' := [MB mo ma (nI t1) i2 i3 i4 i5 i6 i7 i8 i42 i49 i51 i53 i54 i59 i61 i64 i66 (nI t67) i76 i78, (ma 43, .inl (y 0, 8, .inl g43)), (ma 46, .inl (y 0, 108, .inl g46)), (ma 47, .inl (y 0, 12, .inl g47)), (ma 62, .inl (y 0, 63, .inl (upd g62 0 (nI (dy - 1))))), (ma 74, .inl (y 0, 13, .inl g74)), (ma 75, .inl (y 0, 13, .inl g75))]) (vin (by decide)) rfl d_Model_unacts_9 ?_
  refine j_genW (fun f1 => [MB mo ma (nI t1) i2 i3 i4 i5 i6 i7 i8 i42 i49 i51 i53 i54 i59 i61 i64 i66 (nI t67) i76 i78, (ma 43, .inl (y 0, 8, .inl g43)), (ma 46, .inl (y 0, 108, .inl g46)), (ma 47, .inl (y 0, 12, .inl g47)), (ma 62, .inl (y 0, 63, .inl f1)), (ma 74, .inl (y 0, 13, .inl g74)), (ma 75, .inl (y 0, 13, .inl g75))]) (upd g62 0 (nI (dy - 1))) rfl (fun f1 => (f1 0 = nI (dy - 1))) (show upd g62 0 (nI (dy - 1)) 0 = nI (dy - 1) from pk_us) ?_
  rintro f1 xh2
  refine j_ws (ws' := [MB mo ma (nI t1) i2 i3 i4 i5 i6 i7 i8 i42 i49 i51 i53 i54 i59 i61 i64 i66 (nI t67) i76 i78, (ma 43, .inl (y 0, 8, .inl g43)), (ma 46, .inl (y 0, 108, .inl g46)), (ma 47, .inl (y 0, 12, .inl g47)), (ma 62, .inl (y 0, 63, .inl f1)), (ma 74, .inl (y 0, 13, .inl g74)), (ma 75, .inl (y 0, 13, .inl g75))]) rfl ?_
  have xh2 : f1 0 = nI (dy - 1) := xh2
  refine j_aload_n (pc := 10) C d_Model_unacts_10 rfl 0 rfl ?_
  refine j_get (pc := 11) C gf_Model_185 0 rfl rfl d_Model_unacts_11 ?_
  refine j_iload_n (pc := 14) C d_Model_unacts_14 rfl 1 rfl ?_
  refine j_iald (pc := 15) C 5 rfl (v := g74 j) (vp_in_nI (by omega) (by decide)) (by rw [nI_clamp (by omega)]) d_Model_unacts_15 ?_
  refine j_if_eq (pc := 16) C (tgt := 50) d_Model_unacts_16 (by decide) (fun c3 => ?_) (fun c3 => ?_)
  · refine j_aload_n (pc := 50) C d_Model_unacts_50 rfl 0 rfl ?_
    refine j_get (pc := 51) C gf_Model_158 0 rfl rfl d_Model_unacts_51 ?_
    refine j_iconst (pc := 54) C (v := 2) d_Model_unacts_54 (by decide) ?_
    refine j_aload_n (pc := 55) C d_Model_unacts_55 rfl 0 rfl ?_
    refine j_get (pc := 56) C gf_Model_188 0 rfl rfl d_Model_unacts_56 ?_
    refine j_iload_n (pc := 59) C d_Model_unacts_59 rfl 1 rfl ?_
    refine j_iald (pc := 60) C 6 rfl (v := g75 j) (vp_in_nI (by omega) (by decide)) (by rw [nI_clamp (by omega)]) d_Model_unacts_60 ?_
    refine j_iast (pc := 61) C 4 rfl (ws' := [MB mo ma (nI t1) i2 i3 i4 i5 i6 i7 i8 i42 i49 i51 i53 i54 i59 i61 i64 i66 (nI t67) i76 i78, (ma 43, .inl (y 0, 8, .inl g43)), (ma 46, .inl (y 0, 108, .inl g46)), (ma 47, .inl (y 0, 12, .inl g47)), (ma 62, .inl (y 0, 63, .inl (upd f1 2 (g75 j)))), (ma 74, .inl (y 0, 13, .inl g74)), (ma 75, .inl (y 0, 13, .inl g75))]) (vin (by decide)) rfl d_Model_unacts_61 ?_
    refine j_genW (fun f4 => [MB mo ma (nI t1) i2 i3 i4 i5 i6 i7 i8 i42 i49 i51 i53 i54 i59 i61 i64 i66 (nI t67) i76 i78, (ma 43, .inl (y 0, 8, .inl g43)), (ma 46, .inl (y 0, 108, .inl g46)), (ma 47, .inl (y 0, 12, .inl g47)), (ma 62, .inl (y 0, 63, .inl f4)), (ma 74, .inl (y 0, 13, .inl g74)), (ma 75, .inl (y 0, 13, .inl g75))]) (upd f1 2 (g75 j)) rfl (fun f4 => (f4 0 = nI (dy - 1))) (show upd f1 2 (g75 j) 0 = nI (dy - 1) by rw [pk_un (by omega)]; exact xh2) ?_
    rintro f4 xh5
    refine j_ws (ws' := [MB mo ma (nI t1) i2 i3 i4 i5 i6 i7 i8 i42 i49 i51 i53 i54 i59 i61 i64 i66 (nI t67) i76 i78, (ma 43, .inl (y 0, 8, .inl g43)), (ma 46, .inl (y 0, 108, .inl g46)), (ma 47, .inl (y 0, 12, .inl g47)), (ma 62, .inl (y 0, 63, .inl f4)), (ma 74, .inl (y 0, 13, .inl g74)), (ma 75, .inl (y 0, 13, .inl g75))]) rfl ?_
    have xh5 : f4 0 = nI (dy - 1) := xh5
    exact j_vret (pc := 62) C hr f4 xh5 [0, 1, 2, 3, 4, 5, 6] rfl (by decide) (by decide) (by decide) d_Model_unacts_62
  · refine j_aload_n (pc := 19) C d_Model_unacts_19 rfl 0 rfl ?_
    refine j_aload_n (pc := 20) C d_Model_unacts_20 rfl 0 rfl ?_
    refine j_get (pc := 21) C gf_Model_130 0 rfl rfl d_Model_unacts_21 ?_
    refine j_bipush (pc := 24) C (v := 6) d_Model_unacts_24 (by decide) ?_
    refine j_aload_n (pc := 26) C d_Model_unacts_26 rfl 0 rfl ?_
    refine j_callVi (pc := 27) C (c_M_todays l D y mo ma t1 i2 i3 i4 i5 i6 i7 i8 i42 i49 i51 i53 i54 i59 i61 i64 i66 t67 i76 i78 g43 f1 c1 (dy - 1) hc1 bc1 xh2 (by omega)) kw_Model_451 kv_Model_todays 0 10 rfl rfl ⟨by decide, by decide⟩ ⟨by decide, by decide⟩ (wr := [(ma 46, .inl (y 0, 108, .inl g46)), (ma 47, .inl (y 0, 12, .inl g47)), (ma 74, .inl (y 0, 13, .inl g74)), (ma 75, .inl (y 0, 13, .inl g75))]) [0, 1, 4] [2, 3, 5, 6] rfl rfl (by decide +kernel) (by decide +kernel) (by decide +kernel) (As := []) (rest := [.int 6, .ref (ma 47), .ref mo]) rfl (nb rfl) rfl d_Model_unacts_27 (fun r6 _ hr6 => ?_)
    refine j_ws (ws' := [(ma 46, .inl (y 0, 108, .inl g46)), (ma 47, .inl (y 0, 12, .inl g47)), (ma 74, .inl (y 0, 13, .inl g74)), (ma 75, .inl (y 0, 13, .inl g75)), MB mo ma (nI t1) i2 i3 i4 i5 i6 i7 i8 i42 i49 i51 i53 i54 i59 i61 i64 i66 (nI t67) i76 i78, (ma 43, .inl (y 0, 8, .inl g43)), (ma 62, .inl (y 0, 63, .inl f1))]) rfl ?_
    rcases hr6 with ⟨rfl, xh8⟩ | ⟨q9, xh10, rfl⟩
    · exact absurd (hv.resolve_left c3) (by omega)
    · refine j_iadd (pc := 30) C (v := nI (6 + q9)) d_Model_unacts_30 (nI_add _ _) ?_
      obtain ⟨q11, xh12, e13⟩ := hO q9 (by omega)
      refine j_iald (pc := 31) C 1 rfl (v := nI q11) (vp_in_nI (by omega) (by decide)) (by rw [nI_clamp (by omega)]; exact e13) d_Model_unacts_31 ?_
      refine j_aload_n (pc := 32) C d_Model_unacts_32 rfl 0 rfl ?_
      refine j_get (pc := 33) C gf_Model_185 4 rfl rfl d_Model_unacts_33 ?_
      refine j_iload_n (pc := 36) C d_Model_unacts_36 rfl 1 rfl ?_
      refine j_iald (pc := 37) C 2 rfl (v := g74 j) (vp_in_nI (by omega) (by decide)) (by rw [nI_clamp (by omega)]) d_Model_unacts_37 ?_
      refine j_iconst (pc := 38) C (v := 1) d_Model_unacts_38 (by decide) ?_
      refine j_icmp_ne (pc := 39) C (tgt := 46) d_Model_unacts_39 (by decide) (fun c14 => ?_) (fun c14 => ?_)
      · refine j_iconst (pc := 46) C (v := (-1)) d_Model_unacts_46 (by decide) ?_
        refine j_callVv (pc := 47) C (c_M_alters l D y mo ma t1 i2 i3 i4 i5 i6 i7 i8 i42 i49 i51 i53 i54 i59 i61 i64 i66 t67 i76 i78 g46 f1 q11 (-1) (dy - 1) (by omega) (by omega) xh2) kw_Model_454 kv_Model_alters 0 10 rfl rfl ⟨by decide, by decide⟩ ⟨by decide, by decide⟩ (wr := [(ma 47, .inl (y 0, 12, .inl g47)), (ma 74, .inl (y 0, 13, .inl g74)), (ma 75, .inl (y 0, 13, .inl g75)), (ma 43, .inl (y 0, 8, .inl g43))]) [4, 0, 6] [1, 2, 3, 5] rfl rfl (by decide +kernel) (by decide +kernel) (by decide +kernel) (As := [.int (nI q11), .int (-1)]) (rest := []) rfl (nb rfl) rfl d_Model_unacts_47 (fun u15 hu16 => ?_)
        have xh17 := hu16
        refine j_ws (ws' := [(ma 47, .inl (y 0, 12, .inl g47)), (ma 74, .inl (y 0, 13, .inl g74)), (ma 75, .inl (y 0, 13, .inl g75)), (ma 43, .inl (y 0, 8, .inl g43)), MB mo ma (nI t1) i2 i3 i4 i5 i6 i7 i8 i42 i49 i51 i53 i54 i59 i61 i64 i66 (nI t67) i76 i78, (ma 46, .inl (y 0, 108, .inl g46)), (ma 62, .inl (y 0, 63, .inl u15))]) rfl ?_
        refine j_aload_n (pc := 50) C d_Model_unacts_50 rfl 0 rfl ?_
        refine j_get (pc := 51) C gf_Model_158 4 rfl rfl d_Model_unacts_51 ?_
        refine j_iconst (pc := 54) C (v := 2) d_Model_unacts_54 (by decide) ?_
        refine j_aload_n (pc := 55) C d_Model_unacts_55 rfl 0 rfl ?_
        refine j_get (pc := 56) C gf_Model_188 4 rfl rfl d_Model_unacts_56 ?_
        refine j_iload_n (pc := 59) C d_Model_unacts_59 rfl 1 rfl ?_
        refine j_iald (pc := 60) C 2 rfl (v := g75 j) (vp_in_nI (by omega) (by decide)) (by rw [nI_clamp (by omega)]) d_Model_unacts_60 ?_
        refine j_iast (pc := 61) C 6 rfl (ws' := [(ma 47, .inl (y 0, 12, .inl g47)), (ma 74, .inl (y 0, 13, .inl g74)), (ma 75, .inl (y 0, 13, .inl g75)), (ma 43, .inl (y 0, 8, .inl g43)), MB mo ma (nI t1) i2 i3 i4 i5 i6 i7 i8 i42 i49 i51 i53 i54 i59 i61 i64 i66 (nI t67) i76 i78, (ma 46, .inl (y 0, 108, .inl g46)), (ma 62, .inl (y 0, 63, .inl (upd u15 2 (g75 j))))]) (vin (by decide)) rfl d_Model_unacts_61 ?_
        refine j_genW (fun f18 => [(ma 47, .inl (y 0, 12, .inl g47)), (ma 74, .inl (y 0, 13, .inl g74)), (ma 75, .inl (y 0, 13, .inl g75)), (ma 43, .inl (y 0, 8, .inl g43)), MB mo ma (nI t1) i2 i3 i4 i5 i6 i7 i8 i42 i49 i51 i53 i54 i59 i61 i64 i66 (nI t67) i76 i78, (ma 46, .inl (y 0, 108, .inl g46)), (ma 62, .inl (y 0, 63, .inl f18))]) (upd u15 2 (g75 j)) rfl (fun f18 => (f18 0 = nI (dy - 1))) (show upd u15 2 (g75 j) 0 = nI (dy - 1) by rw [pk_un (by omega)]; exact xh17) ?_
        rintro f18 xh19
        refine j_ws (ws' := [(ma 47, .inl (y 0, 12, .inl g47)), (ma 74, .inl (y 0, 13, .inl g74)), (ma 75, .inl (y 0, 13, .inl g75)), (ma 43, .inl (y 0, 8, .inl g43)), MB mo ma (nI t1) i2 i3 i4 i5 i6 i7 i8 i42 i49 i51 i53 i54 i59 i61 i64 i66 (nI t67) i76 i78, (ma 46, .inl (y 0, 108, .inl g46)), (ma 62, .inl (y 0, 63, .inl f18))]) rfl ?_
        have xh19 : f18 0 = nI (dy - 1) := xh19
        exact j_vret (pc := 62) C hr f18 xh19 [4, 3, 5, 0, 6, 1, 2] rfl (by decide) (by decide) (by decide) d_Model_unacts_62
      · refine j_iconst (pc := 42) C (v := 1) d_Model_unacts_42 (by decide) ?_
        refine j_goto (pc := 43) C (tgt := 47) d_Model_unacts_43 (by decide) ?_
        refine j_callVv (pc := 47) C (c_M_alters l D y mo ma t1 i2 i3 i4 i5 i6 i7 i8 i42 i49 i51 i53 i54 i59 i61 i64 i66 t67 i76 i78 g46 f1 q11 1 (dy - 1) (by omega) (by omega) xh2) kw_Model_454 kv_Model_alters 0 10 rfl rfl ⟨by decide, by decide⟩ ⟨by decide, by decide⟩ (wr := [(ma 47, .inl (y 0, 12, .inl g47)), (ma 74, .inl (y 0, 13, .inl g74)), (ma 75, .inl (y 0, 13, .inl g75)), (ma 43, .inl (y 0, 8, .inl g43))]) [4, 0, 6] [1, 2, 3, 5] rfl rfl (by decide +kernel) (by decide +kernel) (by decide +kernel) (As := [.int (nI q11), .int 1]) (rest := []) rfl (nb rfl) rfl d_Model_unacts_47 (fun u20 hu21 => ?_)
        have xh22 := hu21
        refine j_ws (ws' := [(ma 47, .inl (y 0, 12, .inl g47)), (ma 74, .inl (y 0, 13, .inl g74)), (ma 75, .inl (y 0, 13, .inl g75)), (ma 43, .inl (y 0, 8, .inl g43)), MB mo ma (nI t1) i2 i3 i4 i5 i6 i7 i8 i42 i49 i51 i53 i54 i59 i61 i64 i66 (nI t67) i76 i78, (ma 46, .inl (y 0, 108, .inl g46)), (ma 62, .inl (y 0, 63, .inl u20))]) rfl ?_
        refine j_aload_n (pc := 50) C d_Model_unacts_50 rfl 0 rfl ?_
        refine j_get (pc := 51) C gf_Model_158 4 rfl rfl d_Model_unacts_51 ?_
        refine j_iconst (pc := 54) C (v := 2) d_Model_unacts_54 (by decide) ?_
        refine j_aload_n (pc := 55) C d_Model_unacts_55 rfl 0 rfl ?_
        refine j_get (pc := 56) C gf_Model_188 4 rfl rfl d_Model_unacts_56 ?_
        refine j_iload_n (pc := 59) C d_Model_unacts_59 rfl 1 rfl ?_
        refine j_iald (pc := 60) C 2 rfl (v := g75 j) (vp_in_nI (by omega) (by decide)) (by rw [nI_clamp (by omega)]) d_Model_unacts_60 ?_
        refine j_iast (pc := 61) C 6 rfl (ws' := [(ma 47, .inl (y 0, 12, .inl g47)), (ma 74, .inl (y 0, 13, .inl g74)), (ma 75, .inl (y 0, 13, .inl g75)), (ma 43, .inl (y 0, 8, .inl g43)), MB mo ma (nI t1) i2 i3 i4 i5 i6 i7 i8 i42 i49 i51 i53 i54 i59 i61 i64 i66 (nI t67) i76 i78, (ma 46, .inl (y 0, 108, .inl g46)), (ma 62, .inl (y 0, 63, .inl (upd u20 2 (g75 j))))]) (vin (by decide)) rfl d_Model_unacts_61 ?_
        refine j_genW (fun f23 => [(ma 47, .inl (y 0, 12, .inl g47)), (ma 74, .inl (y 0, 13, .inl g74)), (ma 75, .inl (y 0, 13, .inl g75)), (ma 43, .inl (y 0, 8, .inl g43)), MB mo ma (nI t1) i2 i3 i4 i5 i6 i7 i8 i42 i49 i51 i53 i54 i59 i61 i64 i66 (nI t67) i76 i78, (ma 46, .inl (y 0, 108, .inl g46)), (ma 62, .inl (y 0, 63, .inl f23))]) (upd u20 2 (g75 j)) rfl (fun f23 => (f23 0 = nI (dy - 1))) (show upd u20 2 (g75 j) 0 = nI (dy - 1) by rw [pk_un (by omega)]; exact xh22) ?_
        rintro f23 xh24
        refine j_ws (ws' := [(ma 47, .inl (y 0, 12, .inl g47)), (ma 74, .inl (y 0, 13, .inl g74)), (ma 75, .inl (y 0, 13, .inl g75)), (ma 43, .inl (y 0, 8, .inl g43)), MB mo ma (nI t1) i2 i3 i4 i5 i6 i7 i8 i42 i49 i51 i53 i54 i59 i61 i64 i66 (nI t67) i76 i78, (ma 46, .inl (y 0, 108, .inl g46)), (ma 62, .inl (y 0, 63, .inl f23))]) rfl ?_
        have xh24 : f23 0 = nI (dy - 1) := xh24
        exact j_vret (pc := 62) C hr f23 xh24 [4, 3, 5, 0, 6, 1, 2] rfl (by decide) (by decide) (by decide) d_Model_unacts_62
theorem d_Model_rows_0 : decode prog_13_method_109_code 0 = .ok (.iload_n 1, 1) := by decide +kernel
theorem d_Model_rows_1 : decode prog_13_method_109_code 1 = .ok (.i2l, 1) := by decide +kernel
theorem d_Model_rows_2 : decode prog_13_method_109_code 2 = .ok (.lconst 1, 1) := by decide +kernel
theorem d_Model_rows_3 : decode prog_13_method_109_code 3 = .ok (.ldc2_w 553, 3) := by decide +kernel
theorem d_Model_rows_6 : decode prog_13_method_109_code 6 = .ok (.invokestatic 240, 3) := by decide +kernel
theorem d_Model_rows_9 : decode prog_13_method_109_code 9 = .ok (.ifCond .eq 17, 3) := by decide +kernel
theorem d_Model_rows_26 : decode prog_13_method_109_code 26 = .ok (.iconst (-1), 1) := by decide +kernel
theorem d_Model_rows_27 : decode prog_13_method_109_code 27 = .ok (.ireturn, 1) := by decide +kernel
theorem d_Model_rows_12 : decode prog_13_method_109_code 12 = .ok (.aload_n 0, 1) := by decide +kernel
theorem d_Model_rows_13 : decode prog_13_method_109_code 13 = .ok (.getfield 158, 3) := by decide +kernel
theorem d_Model_rows_16 : decode prog_13_method_109_code 16 = .ok (.iconst 0, 1) := by decide +kernel
theorem d_Model_rows_17 : decode prog_13_method_109_code 17 = .ok (.iaload, 1) := by decide +kernel
theorem d_Model_rows_18 : decode prog_13_method_109_code 18 = .ok (.iload_n 1, 1) := by decide +kernel
theorem d_Model_rows_19 : decode prog_13_method_109_code 19 = .ok (.iadd, 1) := by decide +kernel
theorem d_Model_rows_20 : decode prog_13_method_109_code 20 = .ok (.sipush 999, 3) := by decide +kernel
theorem d_Model_rows_23 : decode prog_13_method_109_code 23 = .ok (.if_icmp .le 5, 3) := by decide +kernel
theorem d_Model_rows_28 : decode prog_13_method_109_code 28 = .ok (.iconst 0, 1) := by decide +kernel
theorem d_Model_rows_29 : decode prog_13_method_109_code 29 = .ok (.istore_n 2, 1) := by decide +kernel
theorem d_Model_rows_30 : decode prog_13_method_109_code 30 = .ok (.iconst 0, 1) := by decide +kernel
theorem d_Model_rows_31 : decode prog_13_method_109_code 31 = .ok (.istore_n 3, 1) := by decide +kernel
theorem d_Model_rows_32 : decode prog_13_method_109_code 32 = .ok (.aload_n 0, 1) := by decide +kernel
theorem d_Model_rows_33 : decode prog_13_method_109_code 33 = .ok (.invokevirtual 510, 3) := by decide +kernel
theorem d_Model_rows_36 : decode prog_13_method_109_code 36 = .ok (.aload_n 0, 1) := by decide +kernel
theorem d_Model_rows_37 : decode prog_13_method_109_code 37 = .ok (.getfield 185, 3) := by decide +kernel
theorem d_Model_rows_40 : decode prog_13_method_109_code 40 = .ok (.iconst 0, 1) := by decide +kernel
theorem d_Model_rows_41 : decode prog_13_method_109_code 41 = .ok (.iconst (-1), 1) := by decide +kernel
theorem d_Model_rows_42 : decode prog_13_method_109_code 42 = .ok (.iastore, 1) := by decide +kernel
theorem d_Model_rows_43 : decode prog_13_method_109_code 43 = .ok (.iload_n 3, 1) := by decide +kernel
theorem d_Model_rows_44 : decode prog_13_method_109_code 44 = .ok (.ifCond .lt 118, 3) := by decide +kernel
theorem d_Model_rows_162 : decode prog_13_method_109_code 162 = .ok (.aload_n 0, 1) := by decide +kernel
theorem d_Model_rows_163 : decode prog_13_method_109_code 163 = .ok (.invokevirtual 495, 3) := by decide +kernel
theorem d_Model_rows_166 : decode prog_13_method_109_code 166 = .ok (.iload_n 2, 1) := by decide +kernel
theorem d_Model_rows_167 : decode prog_13_method_109_code 167 = .ok (.ireturn, 1) := by decide +kernel
theorem d_Model_rows_47 : decode prog_13_method_109_code 47 = .ok (.aload_n 0, 1) := by decide +kernel
theorem d_Model_rows_48 : decode prog_13_method_109_code 48 = .ok (.getfield 185, 3) := by decide +kernel
theorem d_Model_rows_51 : decode prog_13_method_109_code 51 = .ok (.iload_n 3, 1) := by decide +kernel
theorem d_Model_rows_52 : decode prog_13_method_109_code 52 = .ok (.iaload, 1) := by decide +kernel
theorem d_Model_rows_53 : decode prog_13_method_109_code 53 = .ok (.iconst 1, 1) := by decide +kernel
theorem d_Model_rows_54 : decode prog_13_method_109_code 54 = .ok (.iadd, 1) := by decide +kernel
theorem d_Model_rows_55 : decode prog_13_method_109_code 55 = .ok (.istore 4, 2) := by decide +kernel
theorem d_Model_rows_57 : decode prog_13_method_109_code 57 = .ok (.iload 4, 2) := by decide +kernel
theorem d_Model_rows_59 : decode prog_13_method_109_code 59 = .ok (.iconst 2, 1) := by decide +kernel
theorem d_Model_rows_60 : decode prog_13_method_109_code 60 = .ok (.if_icmp .gt 19, 3) := by decide +kernel
theorem d_Model_rows_79 : decode prog_13_method_109_code 79 = .ok (.iload 4, 2) := by decide +kernel
theorem d_Model_rows_81 : decode prog_13_method_109_code 81 = .ok (.iconst 2, 1) := by decide +kernel
theorem d_Model_rows_82 : decode prog_13_method_109_code 82 = .ok (.if_icmp .le 18, 3) := by decide +kernel
theorem d_Model_rows_85 : decode prog_13_method_109_code 85 = .ok (.iinc 3 (-1), 3) := by decide +kernel
theorem d_Model_rows_88 : decode prog_13_method_109_code 88 = .ok (.iload_n 3, 1) := by decide +kernel
theorem d_Model_rows_89 : decode prog_13_method_109_code 89 = .ok (.ifCond .lt (-46), 3) := by decide +kernel
theorem d_Model_rows_92 : decode prog_13_method_109_code 92 = .ok (.aload_n 0, 1) := by decide +kernel
theorem d_Model_rows_93 : decode prog_13_method_109_code 93 = .ok (.iload_n 3, 1) := by decide +kernel
theorem d_Model_rows_94 : decode prog_13_method_109_code 94 = .ok (.invokevirtual 555, 3) := by decide +kernel
theorem kw_Model_555 : KW "NineBoardsModel" 555 ⟨"NineBoardsModel", "unacts", "(I)V"⟩ prog_13_method_108_code 2 none 1 := ⟨(mt_8 (List.mem_of_getElem? (i := 49) rfl) rfl), (mt_1 (List.mem_of_getElem? (i := 16) rfl) rfl), (mt_8 (List.mem_of_getElem? (i := 52) rfl) rfl), by decide +kernel⟩
theorem kv_Model_unacts : Cond.instanceMethod ⟨"NineBoardsModel", "unacts", "(I)V"⟩ ∈ TB ∧ Cond.selects "NineBoardsModel" ⟨"NineBoardsModel", "unacts", "(I)V"⟩ ⟨"NineBoardsModel", "unacts", "(I)V"⟩ ∈ TB := ⟨(mt_8 (List.mem_of_getElem? (i := 51) rfl) rfl), (ms_0 (List.mem_map.mpr ⟨(⟨"NineBoardsModel", "unacts", "(I)V"⟩, 79), List.mem_of_getElem? (i := 127) (by decide +kernel), rfl⟩) rfl)⟩
theorem d_Model_rows_97 : decode prog_13_method_109_code 97 = .ok (.goto (-54), 3) := by decide +kernel
theorem d_Model_rows_63 : decode prog_13_method_109_code 63 = .ok (.aload_n 0, 1) := by decide +kernel
theorem d_Model_rows_64 : decode prog_13_method_109_code 64 = .ok (.iconst 0, 1) := by decide +kernel
theorem d_Model_rows_65 : decode prog_13_method_109_code 65 = .ok (.iload 4, 2) := by decide +kernel
theorem d_Model_rows_67 : decode prog_13_method_109_code 67 = .ok (.invokevirtual 478, 3) := by decide +kernel
theorem d_Model_rows_70 : decode prog_13_method_109_code 70 = .ok (.ifCond .ne 9, 3) := by decide +kernel
theorem d_Model_rows_100 : decode prog_13_method_109_code 100 = .ok (.aload_n 0, 1) := by decide +kernel
theorem d_Model_rows_101 : decode prog_13_method_109_code 101 = .ok (.getfield 185, 3) := by decide +kernel
theorem d_Model_rows_104 : decode prog_13_method_109_code 104 = .ok (.iload_n 3, 1) := by decide +kernel
theorem d_Model_rows_105 : decode prog_13_method_109_code 105 = .ok (.iload 4, 2) := by decide +kernel
theorem d_Model_rows_107 : decode prog_13_method_109_code 107 = .ok (.iastore, 1) := by decide +kernel
theorem d_Model_rows_108 : decode prog_13_method_109_code 108 = .ok (.iload_n 3, 1) := by decide +kernel
theorem d_Model_rows_109 : decode prog_13_method_109_code 109 = .ok (.iload_n 1, 1) := by decide +kernel
theorem d_Model_rows_110 : decode prog_13_method_109_code 110 = .ok (.iconst 1, 1) := by decide +kernel
theorem d_Model_rows_111 : decode prog_13_method_109_code 111 = .ok (.isub, 1) := by decide +kernel
theorem d_Model_rows_112 : decode prog_13_method_109_code 112 = .ok (.if_icmp .ne 9, 3) := by decide +kernel
theorem d_Model_rows_121 : decode prog_13_method_109_code 121 = .ok (.aload_n 0, 1) := by decide +kernel
theorem d_Model_rows_122 : decode prog_13_method_109_code 122 = .ok (.getfield 188, 3) := by decide +kernel
theorem d_Model_rows_125 : decode prog_13_method_109_code 125 = .ok (.iload_n 3, 1) := by decide +kernel
theorem d_Model_rows_126 : decode prog_13_method_109_code 126 = .ok (.aload_n 0, 1) := by decide +kernel
theorem d_Model_rows_127 : decode prog_13_method_109_code 127 = .ok (.getfield 158, 3) := by decide +kernel
theorem d_Model_rows_130 : decode prog_13_method_109_code 130 = .ok (.iconst 2, 1) := by decide +kernel
theorem d_Model_rows_131 : decode prog_13_method_109_code 131 = .ok (.iaload, 1) := by decide +kernel
theorem d_Model_rows_132 : decode prog_13_method_109_code 132 = .ok (.iastore, 1) := by decide +kernel
theorem d_Model_rows_133 : decode prog_13_method_109_code 133 = .ok (.aload_n 0, 1) := by decide +kernel
theorem d_Model_rows_134 : decode prog_13_method_109_code 134 = .ok (.iload 4, 2) := by decide +kernel
theorem d_Model_rows_136 : decode prog_13_method_109_code 136 = .ok (.invokevirtual 485, 3) := by decide +kernel
theorem d_Model_rows_139 : decode prog_13_method_109_code 139 = .ok (.aload_n 0, 1) := by decide +kernel
theorem d_Model_rows_140 : decode prog_13_method_109_code 140 = .ok (.getfield 158, 3) := by decide +kernel
theorem d_Model_rows_143 : decode prog_13_method_109_code 143 = .ok (.iconst 0, 1) := by decide +kernel
theorem d_Model_rows_144 : decode prog_13_method_109_code 144 = .ok (.dup2, 1) := by decide +kernel
theorem d_Model_rows_145 : decode prog_13_method_109_code 145 = .ok (.iaload, 1) := by decide +kernel
theorem d_Model_rows_146 : decode prog_13_method_109_code 146 = .ok (.iconst 1, 1) := by decide +kernel
theorem d_Model_rows_147 : decode prog_13_method_109_code 147 = .ok (.iadd, 1) := by decide +kernel
theorem d_Model_rows_148 : decode prog_13_method_109_code 148 = .ok (.iastore, 1) := by decide +kernel
theorem d_Model_rows_149 : decode prog_13_method_109_code 149 = .ok (.iinc 3 1, 3) := by decide +kernel
theorem d_Model_rows_152 : decode prog_13_method_109_code 152 = .ok (.aload_n 0, 1) := by decide +kernel
theorem d_Model_rows_153 : decode prog_13_method_109_code 153 = .ok (.getfield 185, 3) := by decide +kernel
theorem d_Model_rows_156 : decode prog_13_method_109_code 156 = .ok (.iload_n 3, 1) := by decide +kernel
theorem d_Model_rows_157 : decode prog_13_method_109_code 157 = .ok (.iconst (-1), 1) := by decide +kernel
theorem d_Model_rows_158 : decode prog_13_method_109_code 158 = .ok (.iastore, 1) := by decide +kernel
theorem d_Model_rows_159 : decode prog_13_method_109_code 159 = .ok (.goto (-116), 3) := by decide +kernel
theorem d_Model_rows_115 : decode prog_13_method_109_code 115 = .ok (.iinc 2 1, 3) := by decide +kernel
theorem d_Model_rows_118 : decode prog_13_method_109_code 118 = .ok (.goto (-75), 3) := by decide +kernel
theorem d_Model_rows_73 : decode prog_13_method_109_code 73 = .ok (.iinc 4 1, 3) := by decide +kernel
theorem d_Model_rows_76 : decode prog_13_method_109_code 76 = .ok (.goto (-19), 3) := by decide +kernel
