def by4 (v : Int32) (j : Nat) : Nat := (v.toBitVec.sshiftRight (8 * (3 - j))).toNat % 256
theorem by4_lt (v : Int32) (j : Nat) : by4 v j < 256 := Nat.mod_lt _ (by decide)
theorem b_and {x : Int32} : x &&& 255 = nI (x.toBitVec.toNat % 256) := by
  apply Int32.toBitVec_inj.mp
  apply BitVec.eq_of_toNat_eq
  have h : (nI (x.toBitVec.toNat % 256)).toBitVec.toNat = x.toBitVec.toNat % 256 := by
    show (BitVec.ofNat 32 (x.toBitVec.toNat % 256)).toNat = _
    rw [BitVec.toNat_ofNat]
    omega
  rw [h]
  show (x.toBitVec &&& 255#32).toNat = _
  rw [BitVec.toNat_and]
  show x.toBitVec.toNat &&& 255 = _
  rw [show (255 : Nat) = 2 ^ 8 - 1 from rfl, Nat.and_two_pow_sub_one_eq_mod]
theorem b_sh {v : Int32} {s : Nat} (h : s = 0 ∨ s = 8 ∨ s = 16 ∨ s = 24) : (v >>> (nI s &&& 31)).toBitVec = v.toBitVec.sshiftRight s := by
  rw [Int32.toBitVec_shiftRight]
  have e : ((nI s &&& 31).toBitVec.smod 32) = BitVec.ofNat 32 s := by
    rcases h with rfl | rfl | rfl | rfl <;> decide
  rw [e]
  show v.toBitVec.sshiftRight (BitVec.ofNat 32 s).toNat = _
  rw [BitVec.toNat_ofNat, Nat.mod_eq_of_lt (by omega)]
/-- the reference's byte -/
theorem b_ref {v : Int32} {j : Nat} (h : j < 4) : (v >>> (nI (8 * (3 - j)) &&& 31)) &&& 255 = nI (by4 v j) := by
  rw [b_and, b_sh (by omega)]
  rfl
/-- the class's bytes -/
theorem b_c0 {v : Int32} : ((v >>> (16 &&& 31)) >>> (8 &&& 31)) &&& 255 = nI (by4 v 0) := by
  rw [b_and, show (8 : Int32) = nI 8 from rfl, b_sh (by omega), show (16 : Int32) = nI 16 from rfl, b_sh (by omega), ← BitVec.sshiftRight_add]
  rfl
theorem b_c1 {v : Int32} : (v >>> (16 &&& 31)) &&& 255 = nI (by4 v 1) := by
  rw [b_and, show (16 : Int32) = nI 16 from rfl, b_sh (by omega)]
  rfl
theorem b_c2 {v : Int32} : (v >>> (8 &&& 31)) &&& 255 = nI (by4 v 2) := by
  rw [b_and, show (8 : Int32) = nI 8 from rfl, b_sh (by omega)]
  rfl
theorem b_c3 {v : Int32} : v &&& 255 = nI (by4 v 3) := by
  rw [b_and]
  show _ = nI ((v.toBitVec.sshiftRight 0).toNat % 256)
  rw [BitVec.sshiftRight_zero]
/-- the tape behind feed: j numbers' bytes are there -/
def vOf (v1 v2 v3 v4 v5 : Int32) (i : Nat) : Int32 := if i < 4 then v1 else if i < 8 then v2 else if i < 12 then v3 else if i < 16 then v4 else v5
def feedT (tx : Nat → Nat) (k n : Nat) (v : Nat → Int32) : Nat → Nat := fun j => if k ≤ j ∧ j < k + n then by4 (v (j - k)) ((j - k) % 4) else tx j
theorem feed_0 {tx : Nat → Nat} {k : Nat} {v : Nat → Int32} : feedT tx k 0 v = tx := by
  funext j
  exact if_neg (by omega)
theorem feed_up {tx : Nat → Nat} {k n : Nat} {v : Nat → Int32} {x : Int32} (hx : x = nI (by4 (v n) (n % 4))) : upd (tby (feedT tx k n v)) (k + n) x = tby (feedT tx k (n + 1) v) := by
  funext j
  by_cases e : j = k + n
  · subst e
    rw [pk_us, hx]
    show _ = nI (if k ≤ k + n ∧ k + n < k + (n + 1) then by4 (v (k + n - k)) ((k + n - k) % 4) else tx (k + n))
    rw [if_pos (by omega), show k + n - k = n by omega]
  · rw [pk_un e]
    show nI (if k ≤ j ∧ j < k + n then _ else _) = nI (if k ≤ j ∧ j < k + (n + 1) then _ else _)
    by_cases c : k ≤ j ∧ j < k + n
    · rw [if_pos c, if_pos (by omega)]
    · rw [if_neg c, if_neg (by omega)]
theorem feed_lt {tx : Nat → Nat} {k n : Nat} {v : Nat → Int32} (h : ∀ j, tx j < 256) : ∀ j, feedT tx k n v j < 256 := by
  intro j
  unfold feedT
  split
  · exact by4_lt _ _
  · exact h j
def p1T (f : Nat → Int32) (k : Nat) (v : Int32) : Nat → Int32 := upd f k (v &&& 255)
def p2T (f : Nat → Int32) (k : Nat) (v : Int32) : Nat → Int32 := p1T (p1T f k (v >>> (8 &&& 31))) (k + 1) v
def p4T (f : Nat → Int32) (k : Nat) (v : Int32) : Nat → Int32 := p2T (p2T f k (v >>> (16 &&& 31))) (k + 2) v
theorem p4_feed {tx : Nat → Nat} {k n : Nat} {v : Nat → Int32} {x : Int32} (h0 : n % 4 = 0) (h : ∀ i, i < 4 → v (n + i) = x) : p4T (tby (feedT tx k n v)) (k + n) x = tby (feedT tx k (n + 4) v) := by
  have a0 := h 0 (by decide)
  have a1 := h 1 (by decide)
  have a2 := h 2 (by decide)
  have a3 := h 3 (by decide)
  unfold p4T p2T p1T
  rw [feed_up (n := n) (by rw [show v n = x from a0, h0]; exact b_c0), show k + n + 1 = k + (n + 1) by omega, feed_up (n := n + 1) (by rw [a1, show (n + 1) % 4 = 1 by omega]; exact b_c1), show k + n + 2 = k + (n + 1 + 1) by omega, feed_up (n := n + 1 + 1) (by rw [show v (n + 1 + 1) = x from a2, show (n + 1 + 1) % 4 = 2 by omega]; exact b_c2), show k + (n + 1 + 1) + 1 = k + (n + 1 + 1 + 1) by omega, feed_up (n := n + 1 + 1 + 1) (by rw [show v (n + 1 + 1 + 1) = x from a3, show (n + 1 + 1 + 1) % 4 = 3 by omega]; exact b_c3)]
theorem fed_5 {tx : Nat → Nat} {k : Nat} {v1 v2 v3 v4 v5 : Int32} : p4T (p4T (p4T (p4T (p4T (tby tx) k v1) (k + 4) v2) (k + 4 + 4) v3) (k + 4 + 4 + 4) v4) (k + 4 + 4 + 4 + 4) v5 = tby (feedT tx k 20 (vOf v1 v2 v3 v4 v5)) := by
  have s0 : tby tx = tby (feedT tx k 0 (vOf v1 v2 v3 v4 v5)) := by rw [feed_0]
  have q : ∀ i, i < 4 → (i = 0 ∨ i = 1 ∨ i = 2 ∨ i = 3) := fun i hi => by omega
  rw [s0, show k = k + 0 from rfl, p4_feed (by decide) (fun i hi => by rcases q i hi with rfl | rfl | rfl | rfl <;> rfl)]
  rw [show k + 0 + 4 = k + 4 from rfl, p4_feed (n := 0 + 4) (by decide) (fun i hi => by rcases q i hi with rfl | rfl | rfl | rfl <;> rfl)]
  rw [show k + 4 + 4 = k + (0 + 4 + 4) by omega, p4_feed (n := 0 + 4 + 4) (by decide) (fun i hi => by rcases q i hi with rfl | rfl | rfl | rfl <;> rfl)]
  rw [show k + (0 + 4 + 4) + 4 = k + (0 + 4 + 4 + 4) by omega, p4_feed (n := 0 + 4 + 4 + 4) (by decide) (fun i hi => by rcases q i hi with rfl | rfl | rfl | rfl <;> rfl)]
  rw [show k + (0 + 4 + 4 + 4) + 4 = k + (0 + 4 + 4 + 4 + 4) by omega, p4_feed (n := 0 + 4 + 4 + 4 + 4) (by decide) (fun i hi => by rcases q i hi with rfl | rfl | rfl | rfl <;> rfl)]
def feedR (tx : Nat → Nat) (k : Nat) (v : Nat → Int32) : Nat → Nat := if k + 20 ≤ 1600 then feedT tx k 20 v else tx
theorem feedR_y {tx : Nat → Nat} {k : Nat} {v : Nat → Int32} (h : k + 20 ≤ 1600) : tby (feedT tx k 20 v) = tby (feedR tx k v) := by
  unfold feedR
  rw [if_pos h]
theorem feedR_n {tx : Nat → Nat} {k : Nat} {v : Nat → Int32} (h : ¬ k + 20 ≤ 1600) : tby tx = tby (feedR tx k v) := by
  unfold feedR
  rw [if_neg h]
theorem feedR_lt {tx : Nat → Nat} {k : Nat} {v : Nat → Int32} (h : ∀ j, tx j < 256) : ∀ j, feedR tx k v j < 256 := by
  unfold feedR
  split
  · exact feed_lt h
  · exact h
theorem cr_fp {tx : Nat → Nat} {k : Nat} {x : PS} {fa pl : Int32} {ra rs : Nat} {so : Int32} {le : Int64} {wo nu si : Int32} (h : CR tx k x fa pl ra rs so le wo nu si) : pl = (if x.1 = 0 then -1 else nI x.2.1) := by
  obtain ⟨_, _, d | d⟩ := h
  · rw [if_pos d.1]
    exact d.2.1
  · rw [if_neg d.1]
    exact d.2.1
def fltV (v a b : Int32) : Int32 := if v = 0 then a else if v = 1 then b else -1
set_option maxHeartbeats 4000000 in
set_option maxRecDepth 100000 in
theorem c_xput (l : Launch) (D : va_G) (y : Nat → ClassId) (h : Nat) (a : Nat) (k : Nat) (f : Nat → Int32) (v : Int32) (hk : k + 1 ≤ 1600) : CT l D y ⟨"NineBoards$Bytes", "put", "(I)V"⟩ prog_2_method_2_code 2 none ({ frames := 0, cells := 0, slots := 0, locals := 0 } : Room) [.ref h, .int v] [(h, .inr (0, [.ref a, .int (nI k)])), (a, .inl (y 0, 1600, .inl f))] (QV D [(h, .inr (0, [.ref a, .int (nI k)])), (a, .inl (y 0, 1600, .inl f))] (fun (_ : Unit) => True) (fun _ => [(h, .inr (0, [.ref a, .int (nI (k + 1))])), (a, .inl (y 0, 1600, .inl (p1T f k v)))])) := by
  refine CT.of (by decide) (nb rfl) ?_
  intro p e s m args below meth c C hr
  refine j_lv (lv' := [(0, .ref h), (1, .int v)]) rfl ?_
  refine j_aload_n (pc := 0) C d_Bytes_put_0 rfl 0 rfl ?_
  refine j_get (pc := 1) C gf_Bytes_21 0 rfl rfl d_Bytes_put_1 ?_
  refine j_if_ltF (pc := 4) C (tgt := 43) d_Bytes_put_4 (by decide) (show ¬ nI k < nI 0 from nI_nlt (by omega) (by omega)) ?_
  refine j_aload_n (pc := 7) C d_Bytes_put_7 rfl 0 rfl ?_
  refine j_get (pc := 8) C gf_Bytes_21 0 rfl rfl d_Bytes_put_8 ?_
  refine j_aload_n (pc := 11) C d_Bytes_put_11 rfl 0 rfl ?_
  refine j_get (pc := 12) C gf_Bytes_15 0 rfl rfl d_Bytes_put_12 ?_
  refine j_alen (pc := 15) C 1 0 rfl rfl (v := 1600) rfl d_Bytes_put_15 ?_
  refine j_icmp_geF (pc := 16) C (tgt := 43) d_Bytes_put_16 (by decide) (show ¬ nI 1600 ≤ nI k from nI_ge (by omega) (by omega)) ?_
  refine j_aload_n (pc := 19) C d_Bytes_put_19 rfl 0 rfl ?_
  refine j_get (pc := 20) C gf_Bytes_15 0 rfl rfl d_Bytes_put_20 ?_
  refine j_aload_n (pc := 23) C d_Bytes_put_23 rfl 0 rfl ?_
  refine j_get (pc := 24) C gf_Bytes_21 0 rfl rfl d_Bytes_put_24 ?_
  refine j_iload_n (pc := 27) C d_Bytes_put_27 rfl 1 rfl ?_
  refine j_sipush (pc := 28) C (v := 255) d_Bytes_put_28 (by decide) ?_
  refine j_iand (pc := 31) C (v := v &&& 255) d_Bytes_put_31 rfl ?_
  refine j_iast (pc := 32) C 1 rfl (ws' := [(h, .inr (0, [.ref a, .int (nI k)])), (a, .inl (y 0, 1600, .inl (upd f k (v &&& 255))))]) (vp_in_nI (by omega) (by decide)) (by rw [nI_clamp (by omega)]; rfl) d_Bytes_put_32 ?_
  refine j_aload_n (pc := 33) C d_Bytes_put_33 rfl 0 rfl ?_
  refine j_dup (pc := 34) C d_Bytes_put_34 rfl ?_
  refine j_get (pc := 35) C gf_Bytes_21 0 rfl rfl d_Bytes_put_35 ?_
  refine j_iconst (pc := 38) C (v := 1) d_Bytes_put_38 (by decide) ?_
  refine j_iadd (pc := 39) C (v := nI (k + 1)) d_Bytes_put_39 (nI_add _ _) ?_
  refine j_put (pc := 40) C pf_Bytes_21 0 (ws' := [(h, .inr (0, [.ref a, .int (nI (k + 1))])), (a, .inl (y 0, 1600, .inl (upd f k (v &&& 255))))]) rfl rfl rfl (nl rfl) rfl d_Bytes_put_40 ?_
  refine j_ws (ws' := [(h, .inr (0, [.ref a, .int (nI (k + 1))])), (a, .inl (y 0, 1600, .inl (p1T f k v)))]) rfl ?_
  exact j_vret (pc := 43) C hr () trivial [0, 1] rfl (by decide) (by decide) (by decide) d_Bytes_put_43
set_option maxHeartbeats 4000000 in
set_option maxRecDepth 100000 in
theorem c_xputTwo (l : Launch) (D : va_G) (y : Nat → ClassId) (h : Nat) (a : Nat) (k : Nat) (f : Nat → Int32) (v : Int32) (hk : k + 2 ≤ 1600) : CT l D y ⟨"NineBoards$Bytes", "putTwo", "(I)V"⟩ prog_2_method_3_code 2 none ({ frames := 1, cells := 0, slots := 0, locals := 21 } : Room) [.ref h, .int v] [(h, .inr (0, [.ref a, .int (nI k)])), (a, .inl (y 0, 1600, .inl f))] (QV D [(h, .inr (0, [.ref a, .int (nI k)])), (a, .inl (y 0, 1600, .inl f))] (fun (_ : Unit) => True) (fun _ => [(h, .inr (0, [.ref a, .int (nI (k + 2))])), (a, .inl (y 0, 1600, .inl (p2T f k v)))])) := by
  refine CT.of (by decide) (nb rfl) ?_
  intro p e s m args below meth c C hr
  refine j_lv (lv' := [(0, .ref h), (1, .int v)]) rfl ?_
  refine j_aload_n (pc := 0) C d_Bytes_putTwo_0 rfl 0 rfl ?_
  refine j_iload_n (pc := 1) C d_Bytes_putTwo_1 rfl 1 rfl ?_
  refine j_bipush (pc := 2) C (v := 8) d_Bytes_putTwo_2 (by decide) ?_
  refine j_ishr (pc := 4) C (v := v >>> (8 &&& 31)) d_Bytes_putTwo_4 rfl ?_
  refine j_callVv (pc := 5) C (c_xput l D y h a k f (v >>> (8 &&& 31)) (by omega)) kw_Bytes_25 kv_Bytes_put 0 0 rfl rfl ⟨by decide, by decide⟩ ⟨by decide, by decide⟩ (wr := []) [0, 1] [] rfl rfl (by decide) (by decide) (by decide) (As := [.int (v >>> (8 &&& 31))]) (rest := []) rfl (nb rfl) rfl d_Bytes_putTwo_5 (fun _ _ => ?_)
  refine j_ws (ws' := [(h, .inr (0, [.ref a, .int (nI (k + 1))])), (a, .inl (y 0, 1600, .inl (p1T f k (v >>> (8 &&& 31)))))]) rfl ?_
  refine j_aload_n (pc := 8) C d_Bytes_putTwo_8 rfl 0 rfl ?_
  refine j_iload_n (pc := 9) C d_Bytes_putTwo_9 rfl 1 rfl ?_
  refine j_callVv (pc := 10) C (c_xput l D y h a (k + 1) (p1T f k (v >>> (8 &&& 31))) v (by omega)) kw_Bytes_25 kv_Bytes_put 0 0 rfl rfl ⟨by decide, by decide⟩ ⟨by decide, by decide⟩ (wr := []) [0, 1] [] rfl rfl (by decide) (by decide) (by decide) (As := [.int v]) (rest := []) rfl (nb rfl) rfl d_Bytes_putTwo_10 (fun _ _ => ?_)
  refine j_ws (ws' := [(h, .inr (0, [.ref a, .int (nI ((k + 1) + 1))])), (a, .inl (y 0, 1600, .inl (p1T (p1T f k (v >>> (8 &&& 31))) (k + 1) v)))]) rfl ?_
  refine j_ws (ws' := [(h, .inr (0, [.ref a, .int (nI (k + 2))])), (a, .inl (y 0, 1600, .inl (p2T f k v)))]) rfl ?_
  exact j_vret (pc := 13) C hr () trivial [0, 1] rfl (by decide) (by decide) (by decide) d_Bytes_putTwo_13
set_option maxHeartbeats 4000000 in
set_option maxRecDepth 100000 in
theorem c_xputFour (l : Launch) (D : va_G) (y : Nat → ClassId) (h : Nat) (a : Nat) (k : Nat) (f : Nat → Int32) (v : Int32) (hk : k + 4 ≤ 1600) : CT l D y ⟨"NineBoards$Bytes", "putFour", "(I)V"⟩ prog_2_method_4_code 2 none ({ frames := 2, cells := 0, slots := 0, locals := 42 } : Room) [.ref h, .int v] [(h, .inr (0, [.ref a, .int (nI k)])), (a, .inl (y 0, 1600, .inl f))] (QV D [(h, .inr (0, [.ref a, .int (nI k)])), (a, .inl (y 0, 1600, .inl f))] (fun (_ : Unit) => True) (fun _ => [(h, .inr (0, [.ref a, .int (nI (k + 4))])), (a, .inl (y 0, 1600, .inl (p4T f k v)))])) := by
  refine CT.of (by decide) (nb rfl) ?_
  intro p e s m args below meth c C hr
  refine j_lv (lv' := [(0, .ref h), (1, .int v)]) rfl ?_
  refine j_aload_n (pc := 0) C d_Bytes_putFour_0 rfl 0 rfl ?_
  refine j_iload_n (pc := 1) C d_Bytes_putFour_1 rfl 1 rfl ?_
  refine j_bipush (pc := 2) C (v := 16) d_Bytes_putFour_2 (by decide) ?_
  refine j_ishr (pc := 4) C (v := v >>> (16 &&& 31)) d_Bytes_putFour_4 rfl ?_
  refine j_callVv (pc := 5) C (c_xputTwo l D y h a k f (v >>> (16 &&& 31)) (by omega)) kw_Bytes_29 kv_Bytes_putTwo 0 0 rfl rfl ⟨by decide, by decide⟩ ⟨by decide, by decide⟩ (wr := []) [0, 1] [] rfl rfl (by decide) (by decide) (by decide) (As := [.int (v >>> (16 &&& 31))]) (rest := []) rfl (nb rfl) rfl d_Bytes_putFour_5 (fun _ _ => ?_)
  refine j_ws (ws' := [(h, .inr (0, [.ref a, .int (nI (k + 2))])), (a, .inl (y 0, 1600, .inl (p2T f k (v >>> (16 &&& 31)))))]) rfl ?_
  refine j_aload_n (pc := 8) C d_Bytes_putFour_8 rfl 0 rfl ?_
  refine j_iload_n (pc := 9) C d_Bytes_putFour_9 rfl 1 rfl ?_
  refine j_callVv (pc := 10) C (c_xputTwo l D y h a (k + 2) (p2T f k (v >>> (16 &&& 31))) v (by omega)) kw_Bytes_29 kv_Bytes_putTwo 0 0 rfl rfl ⟨by decide, by decide⟩ ⟨by decide, by decide⟩ (wr := []) [0, 1] [] rfl rfl (by decide) (by decide) (by decide) (As := [.int v]) (rest := []) rfl (nb rfl) rfl d_Bytes_putFour_10 (fun _ _ => ?_)
  refine j_ws (ws' := [(h, .inr (0, [.ref a, .int (nI ((k + 2) + 2))])), (a, .inl (y 0, 1600, .inl (p2T (p2T f k (v >>> (16 &&& 31))) (k + 2) v)))]) rfl ?_
  refine j_ws (ws' := [(h, .inr (0, [.ref a, .int (nI (k + 4))])), (a, .inl (y 0, 1600, .inl (p4T f k v)))]) rfl ?_
  exact j_vret (pc := 13) C hr () trivial [0, 1] rfl (by decide) (by decide) (by decide) d_Bytes_putFour_13
set_option maxHeartbeats 4000000 in
set_option maxRecDepth 100000 in
theorem c_F_feed (l : Launch) (D : va_G) (y : Nat → ClassId) (x : Nat) (tp : Nat) (pi : Nat) (nh : Nat) (th : Nat) (ps : Nat) (ad : Nat → Nat) (ae : Nat → Nat) (rd : Nat) (pl : Nat) (dr : Int32) (td : Nat) (k : Nat) (tx : Nat → Nat) (v1 : Int32) (v2 : Int32) (v3 : Int32) (v4 : Int32) (v5 : Int32) (hk : k ≤ 1600) : CT l D y ⟨"NineBoards", "feed", "(IIIII)I"⟩ prog_1_method_2_code 6 (some .int) ({ frames := 3, cells := 0, slots := 0, locals := 63 } : Room) [.ref x, .int v1, .int v2, .int v3, .int v4, .int v5] [(x, .inr (9, [.ref tp, .ref pi, .ref nh, .ref th, .ref ps, .ref (ad 0), .ref (ae 0), .ref rd, .ref pl, .int dr])), (tp, .inr (0, [.ref td, .int (nI k)])), (td, .inl (y 0, 1600, .inl (tby tx)))] (QI D [(x, .inr (9, [.ref tp, .ref pi, .ref nh, .ref th, .ref ps, .ref (ad 0), .ref (ae 0), .ref rd, .ref pl, .int dr])), (tp, .inr (0, [.ref td, .int (nI k)])), (td, .inl (y 0, 1600, .inl (tby tx)))] (fun (r : Int32) (u : Nat × (Nat → Int32)) => u.1 ≤ 1600 ∧ ((r = -1 ∧ u.1 = k ∧ ¬ k + 20 ≤ 1600) ∨ (r = nI (k + 20) ∧ u.1 = k + 20 ∧ k + 20 ≤ 1600)) ∧ u.2 = tby (feedR tx k (vOf v1 v2 v3 v4 v5))) (fun u => [(x, .inr (9, [.ref tp, .ref pi, .ref nh, .ref th, .ref ps, .ref (ad 0), .ref (ae 0), .ref rd, .ref pl, .int dr])), (tp, .inr (0, [.ref td, .int (nI u.1)])), (td, .inl (y 0, 1600, .inl u.2))])) := by
  refine CT.of (by decide) (nb rfl) ?_
  intro p e s m args below meth c C hr
  refine j_lv (lv' := [(0, .ref x), (1, .int v1), (2, .int v2), (3, .int v3), (4, .int v4), (5, .int v5)]) rfl ?_
  refine j_aload_n (pc := 0) C d_Nine_feed_0 rfl 0 rfl ?_
  refine j_get (pc := 1) C gf_Nine_14 0 rfl rfl d_Nine_feed_1 ?_
  refine j_get (pc := 4) C gf_Nine_70 1 rfl rfl d_Nine_feed_4 ?_
  refine j_bipush (pc := 7) C (v := 20) d_Nine_feed_7 (by decide) ?_
  refine j_iadd (pc := 9) C (v := nI (k + 20)) d_Nine_feed_9 (nI_add _ _) ?_
  refine j_sipush (pc := 10) C (v := 1600) d_Nine_feed_10 (by decide) ?_
  by_cases c1 : (k + 20) ≤ 1600
  · refine j_icmp_leT (pc := 13) C (tgt := 18) d_Nine_feed_13 (by decide) (show nI (k + 20) ≤ nI 1600 from nI_le (by omega) (by omega)) ?_
    refine j_aload_n (pc := 18) C d_Nine_feed_18 rfl 0 rfl ?_
    refine j_get (pc := 19) C gf_Nine_14 0 rfl rfl d_Nine_feed_19 ?_
    refine j_iload_n (pc := 22) C d_Nine_feed_22 rfl 1 rfl ?_
    refine j_callVv (pc := 23) C (c_xputFour l D y tp td k (tby tx) v1 (by omega)) kw_Nine_73 kv_Bytes_putFour 0 0 rfl rfl ⟨by decide, by decide⟩ ⟨by decide, by decide⟩ (wr := [(x, .inr (9, [.ref tp, .ref pi, .ref nh, .ref th, .ref ps, .ref (ad 0), .ref (ae 0), .ref rd, .ref pl, .int dr]))]) [1, 2] [0] rfl rfl (by decide) (by decide) (by decide) (As := [.int v1]) (rest := []) rfl (nb rfl) rfl d_Nine_feed_23 (fun _ _ => ?_)
    refine j_ws (ws' := [(x, .inr (9, [.ref tp, .ref pi, .ref nh, .ref th, .ref ps, .ref (ad 0), .ref (ae 0), .ref rd, .ref pl, .int dr])), (tp, .inr (0, [.ref td, .int (nI (k + 4))])), (td, .inl (y 0, 1600, .inl (p4T (tby tx) k v1)))]) rfl ?_
    refine j_aload_n (pc := 26) C d_Nine_feed_26 rfl 0 rfl ?_
    refine j_get (pc := 27) C gf_Nine_14 0 rfl rfl d_Nine_feed_27 ?_
    refine j_iload_n (pc := 30) C d_Nine_feed_30 rfl 2 rfl ?_
    refine j_callVv (pc := 31) C (c_xputFour l D y tp td (k + 4) (p4T (tby tx) k v1) v2 (by omega)) kw_Nine_73 kv_Bytes_putFour 0 0 rfl rfl ⟨by decide, by decide⟩ ⟨by decide, by decide⟩ (wr := [(x, .inr (9, [.ref tp, .ref pi, .ref nh, .ref th, .ref ps, .ref (ad 0), .ref (ae 0), .ref rd, .ref pl, .int dr]))]) [1, 2] [0] rfl rfl (by decide) (by decide) (by decide) (As := [.int v2]) (rest := []) rfl (nb rfl) rfl d_Nine_feed_31 (fun _ _ => ?_)
    refine j_ws (ws' := [(x, .inr (9, [.ref tp, .ref pi, .ref nh, .ref th, .ref ps, .ref (ad 0), .ref (ae 0), .ref rd, .ref pl, .int dr])), (tp, .inr (0, [.ref td, .int (nI ((k + 4) + 4))])), (td, .inl (y 0, 1600, .inl (p4T (p4T (tby tx) k v1) (k + 4) v2)))]) rfl ?_
    refine j_aload_n (pc := 34) C d_Nine_feed_34 rfl 0 rfl ?_
    refine j_get (pc := 35) C gf_Nine_14 0 rfl rfl d_Nine_feed_35 ?_
    refine j_iload_n (pc := 38) C d_Nine_feed_38 rfl 3 rfl ?_
    refine j_callVv (pc := 39) C (c_xputFour l D y tp td ((k + 4) + 4) (p4T (p4T (tby tx) k v1) (k + 4) v2) v3 (by omega)) kw_Nine_73 kv_Bytes_putFour 0 0 rfl rfl ⟨by decide, by decide⟩ ⟨by decide, by decide⟩ (wr := [(x, .inr (9, [.ref tp, .ref pi, .ref nh, .ref th, .ref ps, .ref (ad 0), .ref (ae 0), .ref rd, .ref pl, .int dr]))]) [1, 2] [0] rfl rfl (by decide) (by decide) (by decide) (As := [.int v3]) (rest := []) rfl (nb rfl) rfl d_Nine_feed_39 (fun _ _ => ?_)
    refine j_ws (ws' := [(x, .inr (9, [.ref tp, .ref pi, .ref nh, .ref th, .ref ps, .ref (ad 0), .ref (ae 0), .ref rd, .ref pl, .int dr])), (tp, .inr (0, [.ref td, .int (nI (((k + 4) + 4) + 4))])), (td, .inl (y 0, 1600, .inl (p4T (p4T (p4T (tby tx) k v1) (k + 4) v2) ((k + 4) + 4) v3)))]) rfl ?_
    refine j_aload_n (pc := 42) C d_Nine_feed_42 rfl 0 rfl ?_
    refine j_get (pc := 43) C gf_Nine_14 0 rfl rfl d_Nine_feed_43 ?_
    refine j_iload (pc := 46) C d_Nine_feed_46 4 rfl ?_
    refine j_callVv (pc := 48) C (c_xputFour l D y tp td (((k + 4) + 4) + 4) (p4T (p4T (p4T (tby tx) k v1) (k + 4) v2) ((k + 4) + 4) v3) v4 (by omega)) kw_Nine_73 kv_Bytes_putFour 0 0 rfl rfl ⟨by decide, by decide⟩ ⟨by decide, by decide⟩ (wr := [(x, .inr (9, [.ref tp, .ref pi, .ref nh, .ref th, .ref ps, .ref (ad 0), .ref (ae 0), .ref rd, .ref pl, .int dr]))]) [1, 2] [0] rfl rfl (by decide) (by decide) (by decide) (As := [.int v4]) (rest := []) rfl (nb rfl) rfl d_Nine_feed_48 (fun _ _ => ?_)
    refine j_ws (ws' := [(x, .inr (9, [.ref tp, .ref pi, .ref nh, .ref th, .ref ps, .ref (ad 0), .ref (ae 0), .ref rd, .ref pl, .int dr])), (tp, .inr (0, [.ref td, .int (nI ((((k + 4) + 4) + 4) + 4))])), (td, .inl (y 0, 1600, .inl (p4T (p4T (p4T (p4T (tby tx) k v1) (k + 4) v2) ((k + 4) + 4) v3) (((k + 4) + 4) + 4) v4)))]) rfl ?_
    refine j_aload_n (pc := 51) C d_Nine_feed_51 rfl 0 rfl ?_
    refine j_get (pc := 52) C gf_Nine_14 0 rfl rfl d_Nine_feed_52 ?_
    refine j_iload (pc := 55) C d_Nine_feed_55 5 rfl ?_
    refine j_callVv (pc := 57) C (c_xputFour l D y tp td ((((k + 4) + 4) + 4) + 4) (p4T (p4T (p4T (p4T (tby tx) k v1) (k + 4) v2) ((k + 4) + 4) v3) (((k + 4) + 4) + 4) v4) v5 (by omega)) kw_Nine_73 kv_Bytes_putFour 0 0 rfl rfl ⟨by decide, by decide⟩ ⟨by decide, by decide⟩ (wr := [(x, .inr (9, [.ref tp, .ref pi, .ref nh, .ref th, .ref ps, .ref (ad 0), .ref (ae 0), .ref rd, .ref pl, .int dr]))]) [1, 2] [0] rfl rfl (by decide) (by decide) (by decide) (As := [.int v5]) (rest := []) rfl (nb rfl) rfl d_Nine_feed_57 (fun _ _ => ?_)
    refine j_ws (ws' := [(x, .inr (9, [.ref tp, .ref pi, .ref nh, .ref th, .ref ps, .ref (ad 0), .ref (ae 0), .ref rd, .ref pl, .int dr])), (tp, .inr (0, [.ref td, .int (nI (((((k + 4) + 4) + 4) + 4) + 4))])), (td, .inl (y 0, 1600, .inl (p4T (p4T (p4T (p4T (p4T (tby tx) k v1) (k + 4) v2) ((k + 4) + 4) v3) (((k + 4) + 4) + 4) v4) ((((k + 4) + 4) + 4) + 4) v5)))]) rfl ?_
    refine j_aload_n (pc := 60) C d_Nine_feed_60 rfl 0 rfl ?_
    refine j_get (pc := 61) C gf_Nine_14 0 rfl rfl d_Nine_feed_61 ?_
    refine j_get (pc := 64) C gf_Nine_70 1 rfl rfl d_Nine_feed_64 ?_
    exact j_iret (pc := 67) C hr rfl ((((((k + 4) + 4) + 4) + 4) + 4), (p4T (p4T (p4T (p4T (p4T (tby tx) k v1) (k + 4) v2) ((k + 4) + 4) v3) (((k + 4) + 4) + 4) v4) ((((k + 4) + 4) + 4) + 4) v5)) ⟨(show (((((k + 4) + 4) + 4) + 4) + 4) ≤ 1600 by omega), (Or.inr ⟨(show nI (((((k + 4) + 4) + 4) + 4) + 4) = nI (k + 20) from congrArg nI (by omega)), (show (((((k + 4) + 4) + 4) + 4) + 4) = k + 20 by omega), by omega⟩), (fed_5.trans (feedR_y (by omega)))⟩ [0, 1, 2] rfl (by decide) (by decide) (by decide) d_Nine_feed_67
  · refine j_icmp_leF (pc := 13) C (tgt := 18) d_Nine_feed_13 (by decide) (show ¬ nI (k + 20) ≤ nI 1600 from nI_ge (by omega) (by omega)) ?_
    refine j_iconst (pc := 16) C (v := (-1)) d_Nine_feed_16 (by decide) ?_
    exact j_iret (pc := 17) C hr rfl (k, (tby tx)) ⟨(show k ≤ 1600 by omega), (Or.inl ⟨rfl, (show k = k by omega), by omega⟩), (feedR_n (by omega))⟩ [0, 1, 2] rfl (by decide) (by decide) (by decide) d_Nine_feed_17
set_option maxHeartbeats 4000000 in
set_option maxRecDepth 100000 in
theorem c_F_fault (l : Launch) (D : va_G) (y : Nat → ClassId) (x : Nat) (tp : Nat) (pi : Nat) (nh : Nat) (th : Nat) (ps : Nat) (ad : Nat → Nat) (ae : Nat → Nat) (rd : Nat) (pl : Nat) (dr : Int32) (fa : Int32) (rpl : Int32) (ow : Nat) (lk : Nat) (a0 : Int32) (so : Int32) (b0 : Int32) (le : Int64) (wo : Int32) (nu : Int32) (si : Int32) (v : Int32)  : CT l D y ⟨"NineBoards", "fault", "(I)I"⟩ prog_1_method_5_code 2 (some .int) ({ frames := 0, cells := 0, slots := 0, locals := 0 } : Room) [.ref x, .int v] [(x, .inr (9, [.ref tp, .ref pi, .ref nh, .ref th, .ref ps, .ref (ad 0), .ref (ae 0), .ref rd, .ref pl, .int dr])), (rd, .inr (5, [.int fa, .int rpl, .ref ow, .ref tp, .ref lk, .int a0, .int so, .int b0, .long le, .int wo, .int nu, .int si]))] (QI D [(x, .inr (9, [.ref tp, .ref pi, .ref nh, .ref th, .ref ps, .ref (ad 0), .ref (ae 0), .ref rd, .ref pl, .int dr])), (rd, .inr (5, [.int fa, .int rpl, .ref ow, .ref tp, .ref lk, .int a0, .int so, .int b0, .long le, .int wo, .int nu, .int si]))] (fun (r : Int32) (u : Unit) => r = fltV v fa rpl) (fun _ => [(x, .inr (9, [.ref tp, .ref pi, .ref nh, .ref th, .ref ps, .ref (ad 0), .ref (ae 0), .ref rd, .ref pl, .int dr])), (rd, .inr (5, [.int fa, .int rpl, .ref ow, .ref tp, .ref lk, .int a0, .int so, .int b0, .long le, .int wo, .int nu, .int si]))])) := by
  refine CT.of (by decide) (nb rfl) ?_
  intro p e s m args below meth c C hr
  refine j_lv (lv' := [(0, .ref x), (1, .int v)]) rfl ?_
  refine j_iload_n (pc := 0) C d_Nine_fault_0 rfl 1 rfl ?_
  by_cases c1_0 : v = 0
  · refine j_lookup (pc := 1) C (off := 27) (tgt := 28) d_Nine_fault_1 (by decide) (by rw [c1_0]; decide) (by decide) ?_
    refine j_aload_n (pc := 28) C d_Nine_fault_28 rfl 0 rfl ?_
    refine j_get (pc := 29) C gf_Nine_53 0 rfl rfl d_Nine_fault_29 ?_
    refine j_get (pc := 32) C gf_Nine_79 1 rfl rfl d_Nine_fault_32 ?_
    exact j_iret (pc := 35) C hr rfl () (if_pos c1_0).symm [0, 1] rfl (by decide) (by decide) (by decide) d_Nine_fault_35
  · by_cases c1_1 : v = 1
    · refine j_lookup (pc := 1) C (off := 35) (tgt := 36) d_Nine_fault_1 (by decide) (by rw [c1_1]; decide) (by decide) ?_
      refine j_aload_n (pc := 36) C d_Nine_fault_36 rfl 0 rfl ?_
      refine j_get (pc := 37) C gf_Nine_53 0 rfl rfl d_Nine_fault_37 ?_
      refine j_get (pc := 40) C gf_Nine_104 1 rfl rfl d_Nine_fault_40 ?_
      exact j_iret (pc := 43) C hr rfl () ((if_neg c1_0).trans (if_pos c1_1)).symm [0, 1] rfl (by decide) (by decide) (by decide) d_Nine_fault_43
    · refine j_lookup (pc := 1) C (off := 43) (tgt := 44) d_Nine_fault_1 (by decide) (lo_Nine_fault_1 c1_0 c1_1) (by decide) ?_
      refine j_iconst (pc := 44) C (v := (-1)) d_Nine_fault_44 (by decide) ?_
      exact j_iret (pc := 45) C hr rfl () ((if_neg c1_0).trans (if_neg c1_1)).symm [0, 1] rfl (by decide) (by decide) (by decide) d_Nine_fault_45
