/-! a letter of a name, by fives of bits and by the base 27 -/
theorem b_and31 {x : Int32} : x &&& 31 = nI (x.toBitVec.toNat % 32) := by
  apply Int32.toBitVec_inj.mp
  apply BitVec.eq_of_toNat_eq
  have h : (nI (x.toBitVec.toNat % 32)).toBitVec.toNat = x.toBitVec.toNat % 32 := by
    show (BitVec.ofNat 32 (x.toBitVec.toNat % 32)).toNat = _
    rw [BitVec.toNat_ofNat]
    omega
  rw [h]
  show (x.toBitVec &&& 31#32).toNat = _
  rw [BitVec.toNat_and]
  show x.toBitVec.toNat &&& 31 = _
  rw [show (31 : Nat) = 2 ^ 5 - 1 from rfl, Nat.and_two_pow_sub_one_eq_mod]
theorem b_shr {n q : Nat} (hn : n < 2 ^ 31) (hq : q < 6) : (nI n >>> (nI (5 * q) &&& 31)).toBitVec.toNat = n / 2 ^ (5 * q) := by
  have e0 : (nI n).toBitVec.toNat = n := by
    show (BitVec.ofNat 32 n).toNat = n
    rw [BitVec.toNat_ofNat]
    omega
  rw [Int32.toBitVec_shiftRight]
  have e : ((nI (5 * q) &&& 31).toBitVec.smod 32) = BitVec.ofNat 32 (5 * q) := by
    have : q = 0 ∨ q = 1 ∨ q = 2 ∨ q = 3 ∨ q = 4 ∨ q = 5 := by omega
    rcases this with rfl | rfl | rfl | rfl | rfl | rfl <;> decide
  rw [e]
  show ((nI n).toBitVec.sshiftRight (BitVec.ofNat 32 (5 * q)).toNat).toNat = _
  rw [BitVec.toNat_ofNat, Nat.mod_eq_of_lt (by omega)]
  have m : (nI n).toBitVec.msb = false := BitVec.msb_eq_false_iff_two_mul_lt.mpr (by rw [e0]; omega)
  rw [BitVec.sshiftRight_eq_of_msb_false m, BitVec.toNat_ushiftRight, e0, Nat.shiftRight_eq_div_pow]
theorem pk5_dig {w : List Nat} (h : ∀ a ∈ w, a < 32) : ∀ q, pk5 w / 32 ^ q % 32 = w.getD q 0 := by
  induction w with
  | nil =>
    intro q
    show 0 / 32 ^ q % 32 = 0
    rw [Nat.zero_div]
  | cons a l ih =>
    intro q
    have ha := h a List.mem_cons_self
    cases q with
    | zero =>
      show (a + 32 * pk5 l) / 32 ^ 0 % 32 = a
      rw [Nat.pow_zero, Nat.div_one]
      omega
    | succ q =>
      show (a + 32 * pk5 l) / 32 ^ (q + 1) % 32 = l.getD q 0
      rw [Nat.pow_succ, Nat.mul_comm (32 ^ q) 32, ← Nat.div_div_eq_div_mul, show (a + 32 * pk5 l) / 32 = pk5 l by omega]
      exact ih (fun x hx => h x (List.mem_cons_of_mem _ hx)) q
theorem let_dig {w : List Nat} {q : Nat} (h : okn w) (hq : q < 6) : (nI (pk5 w) >>> (nI (5 * q) &&& 31)) &&& 31 = nI (w.getD q 0) := by
  rw [b_and31, b_shr (pk5_30 h) hq, Nat.pow_mul, show (2 : Nat) ^ 5 = 32 from rfl, pk5_dig (fun a ha => by have := (h.2 a ha).2; omega)]
theorem nL_toI {n : Nat} (h : n < 2 ^ 63) : (nL n).toInt = n := Int64.toInt_ofNat_of_lt h
theorem nL_div {n : Nat} (h : n < 2 ^ 62) : nL n / 27 = nL (n / 27) := by
  apply Int64.toInt_inj.mp
  rw [Int64.toInt_div_of_ne_right _ _ (by decide), nL_toI (by omega), nL_toI (by omega), (by decide : (27 : Int64).toInt = 27), Int.tdiv_eq_ediv_of_nonneg (by omega)]
  omega
theorem nL_mod {n : Nat} (h : n < 2 ^ 62) : (nL n - nL n / 27 * 27).toInt32 = nI (n % 27) := by
  rw [nL_div h, show (27 : Int64) = nL 27 from rfl, nL_mul]
  have e : nL n = nL (n % 27) + nL (n / 27 * 27) := by
    rw [nL_add]
    congr 1
    omega
  rw [e, Int64.add_sub_cancel]
  exact Int64.toInt32_ofNat'
theorem nL_le0 {n : Nat} (h : n < 2 ^ 62) : lg_cmp (nL n) 0 ≤ 0 ↔ n = 0 := by
  constructor
  · intro g
    have q : ¬ (0 < lg_cmp (nL n) 0) := Int32.not_lt.mpr g
    rw [lg_cmp_gt, Int64.lt_iff_toInt_lt, nL_toI (by omega)] at q
    have z : (0 : Int64).toInt = 0 := by decide
    omega
  · intro g
    rw [g]
    decide
section PL27
variable {w : List Nat}
theorem p27_up {m : Nat} (hm : m < w.length) : pl27 (w.take (m + 1)) = w.getD m 0 + 27 * pl27 (w.take m) := by
  unfold pl27
  rw [List.take_succ_eq_append_getElem hm, List.reverse_append]
  show w[m] + 27 * r27 (w.take m).reverse = _
  rw [List.getD_eq_getElem?_getD, List.getElem?_eq_getElem hm]
  rfl
theorem p27_let {m : Nat} (h : okn w) (hm : m < w.length) : 0 < w.getD m 0 ∧ w.getD m 0 < 27 := by
  rw [List.getD_eq_getElem?_getD, List.getElem?_eq_getElem hm]
  exact h.2 _ (List.getElem_mem hm)
theorem p27_lt {m : Nat} (h : okn w) : pl27 (w.take m) < 2 ^ 62 := by
  have o : okn (w.take m) := ⟨Nat.le_trans (by rw [List.length_take]; exact Nat.min_le_right _ _) h.1, fun a ha => h.2 a (List.mem_of_mem_take ha)⟩
  have q : pl27 (w.take m) < 27 ^ (w.take m).length := by
    unfold pl27
    have r := r27_lt (l := (w.take m).reverse) (fun a ha => o.2 a (List.mem_reverse.mp ha))
    rw [List.length_reverse] at r
    exact r
  exact Nat.lt_of_lt_of_le q (Nat.le_trans (Nat.pow_le_pow_right (by decide) o.1) (by decide))
theorem p27_div {m : Nat} (h : okn w) (hm : m < w.length) : pl27 (w.take (m + 1)) / 27 = pl27 (w.take m) := by
  rw [p27_up hm]
  have := p27_let h hm
  omega
theorem p27_mod {m : Nat} (h : okn w) (hm : m < w.length) : pl27 (w.take (m + 1)) % 27 = w.getD m 0 := by
  rw [p27_up hm]
  have := p27_let h hm
  omega
theorem p27_0 {m : Nat} (h : okn w) (hm : m ≤ w.length) : lg_cmp (nL (pl27 (w.take m))) 0 ≤ 0 ↔ m = 0 := by
  rw [nL_le0 (p27_lt h)]
  constructor
  · intro g
    rcases Nat.eq_zero_or_pos m with q | q
    · exact q
    · obtain ⟨i, rfl⟩ : ∃ i, m = i + 1 := ⟨m - 1, by omega⟩
      rw [p27_up (by omega)] at g
      have := p27_let h (m := i) (by omega)
      omega
  · intro g
    rw [g]
    rfl
/-- a turn of the first loop, of the second -/
theorem l27_d {z : Int64} {m : Nat} (h : okn w) (hz : z = nL (pl27 (w.take m))) (hm : m ≤ w.length) (c : ¬ lg_cmp z 0 ≤ 0) : 1 ≤ m ∧ z / 27 = nL (pl27 (w.take (m - 1))) := by
  rw [hz, p27_0 h hm] at c
  obtain ⟨i, rfl⟩ : ∃ i, m = i + 1 := ⟨m - 1, by omega⟩
  refine ⟨by omega, ?_⟩
  rw [hz, nL_div (p27_lt h), p27_div h (by omega), Nat.add_sub_cancel]
theorem l27_e {z : Int64} {m : Nat} (h : okn w) (hz : z = nL (pl27 (w.take m))) (hm : m ≤ w.length) (c : lg_cmp z 0 ≤ 0) : m = 0 := by
  rw [hz, p27_0 h hm] at c
  exact c
theorem l27_q {z : Int64} {q : Nat} (h : okn w) (hz : z = nL (pl27 (w.take (q + 1)))) (hq : q < w.length) (h1 : 1 ≤ q) : z / 27 = nL (pl27 (w.take (q - 1 + 1))) := by
  rw [hz, nL_div (p27_lt h), p27_div h hq, Nat.sub_add_cancel h1]
theorem l27_r {z : Int64} {q : Nat} (h : okn w) (hz : z = nL (pl27 (w.take (q + 1)))) (hq : q < w.length) : (z - z / 27 * 27).toInt32 = nI (w.getD q 0) := by
  rw [hz, nL_mod (p27_lt h), p27_mod h hq]
theorem l27_0 {q : Nat} (hq : w.length ≤ q) : (0 : Int32) = nI (w.getD q 0) := by
  rw [List.getD_eq_getElem?_getD, List.getElem?_eq_none hq]
  rfl
end PL27
/-- what a letter that is asked for must be -/
def LOK (t : LA_) (v1 v2 v3 : Int32) : Prop := ∃ j q, q < 6 ∧ v3 = nI q ∧ v2 = nI j ∧ ((v1 = 0 ∧ j < t.s 9) ∨ (v1 = 1 ∧ j < t.s 4))
def LETR (t : LA_) (v1 v2 v3 r : Int32) : Prop := (r = -1 ∧ ¬ LOK t v1 v2 v3) ∨ (∃ j q, q < 6 ∧ v3 = nI q ∧ v2 = nI j ∧ ((v1 = 0 ∧ j < t.s 9 ∧ r = nI ((t.nm 0 j).getD q 0)) ∨ (v1 = 1 ∧ j < t.s 4 ∧ r = nI ((t.nm 1 j).getD q 0))))
section LETS
variable {t : LA_} {v1 v2 v3 r r' : Int32}
theorem lok_n (h0 : v1 = 0 → ∀ j, j < t.s 9 → ¬ v2 = nI j) (h1 : v1 = 1 → ∀ j, j < t.s 4 → ¬ v2 = nI j) : ¬ LOK t v1 v2 v3 := by
  rintro ⟨j, q, _, _, e2, ⟨a, b⟩ | ⟨a, b⟩⟩
  · exact h0 a j b e2
  · exact h1 a j b e2
theorem lok_3 (h : ∀ q, q < 6 → ¬ v3 = nI q) : ¬ LOK t v1 v2 v3 := fun ⟨_, q, hq, e3, _⟩ => h q hq e3
end LETS
theorem nh_lt {v : Int32} {n : Nat} (hn : n ≤ 2000) (c : v < 0) : ∀ j, j < n → ¬ v = nI j := by
  intro j hj e
  rw [e] at c
  exact absurd c (nI_nlt (a := j) (b := 0) (by omega) (by omega))
theorem nh_ge {v : Int32} {n : Nat} (hn : n ≤ 2000) (c : nI n ≤ v) : ∀ j, j < n → ¬ v = nI j := by
  intro j hj e
  rw [e] at c
  exact absurd c (nI_ge (by omega) (by omega))
theorem isin_n {v : Int32} {c : Nat} (hc : c ≤ 1000) (h : v.toInt < 0 ∨ (nI c - 1).toInt < v.toInt) : ∀ j, j < c → ¬ v = nI j := by
  intro j hj e
  rw [e, nI_toInt (by omega)] at h
  have e1 : (nI c - 1).toInt = (c : Int) - 1 := by
    rw [show nI c - 1 = nI (c - 1) from nI_s1 (by omega), nI_toInt (by omega)]
    omega
  omega
theorem isin_m {v : Int32} {a b : Nat} (hb : b ≤ 100000) (h : v.toInt < (a : Int) ∨ (b : Int) < v.toInt) : ∀ j, (a ≤ j ∧ j ≤ b) → ¬ v = nI j := by
  intro j hj e
  rw [e, nI_toInt (by omega)] at h
  omega
theorem nm_g {t : LA_} {N : Nat → Int64} {j : Nat} (h : NM t (fun j => N (18 + j))) (hj : j < t.s 9) : N (18 + j) = nL (pl27 (t.nm 0 j)) ∧ okn (t.nm 0 j) := by
  have a : N (18 + (9 * 0 + j)) = nL (pl27 (t.nm 0 j)) ∧ okn (t.nm 0 j) := h.1 j hj
  rw [show 18 + (9 * 0 + j) = 18 + j by omega] at a
  exact a
theorem nm_v {t : LA_} {N : Nat → Int64} {j : Nat} (h : NM t (fun j => N (18 + j))) (hj : j < t.s 4) : N (27 + j) = nL (pl27 (t.nm 1 j)) ∧ okn (t.nm 1 j) := by
  have a : N (18 + (9 * 1 + j)) = nL (pl27 (t.nm 1 j)) ∧ okn (t.nm 1 j) := h.2 j hj
  rw [show 18 + (9 * 1 + j) = 27 + j by omega] at a
  exact a
set_option maxHeartbeats 4000000 in
set_option maxRecDepth 100000 in
theorem c_xhasVillage (l : Launch) (D : va_G) (y : Nat → ClassId) (ad : Nat → Nat) (d : LD) (n4 : Nat) (v : Int32) (h4 : d.1 4 = nI n4) (b4 : n4 ≤ 6) : CT l D y ⟨"NineBoards$Lake", "hasVillage", "(I)Z"⟩ prog_5_method_4_code 2 (some .boolean) ({ frames := 0, cells := 0, slots := 0, locals := 0 } : Room) [.ref (ad 0), .int v] [(ad 0, .inr (2, [.int (d.1 0), .int (d.1 1), .int (d.1 2), .int (d.1 3), .ref (ad 1), .int (d.1 4), .ref (ad 11), .ref (ad 12), .ref (ad 2), .ref (ad 3), .int (d.1 5), .int (d.1 6), .int (d.1 7), .int (d.1 8)]))] (QI D [(ad 0, .inr (2, [.int (d.1 0), .int (d.1 1), .int (d.1 2), .int (d.1 3), .ref (ad 1), .int (d.1 4), .ref (ad 11), .ref (ad 12), .ref (ad 2), .ref (ad 3), .int (d.1 5), .int (d.1 6), .int (d.1 7), .int (d.1 8)]))] (fun (r : Int32) (u : Unit) => (r = 0 ∧ ∀ j, j < n4 → ¬ v = nI j) ∨ (r = 1 ∧ ∃ j : Nat, j < n4 ∧ v = nI j)) (fun _ => [(ad 0, .inr (2, [.int (d.1 0), .int (d.1 1), .int (d.1 2), .int (d.1 3), .ref (ad 1), .int (d.1 4), .ref (ad 11), .ref (ad 12), .ref (ad 2), .ref (ad 3), .int (d.1 5), .int (d.1 6), .int (d.1 7), .int (d.1 8)]))])) := by
  refine CT.of (by decide) (nb rfl) ?_
  intro p e s m args below meth c C hr
  refine j_lv (lv' := [(0, .ref (ad 0)), (1, .int v)]) rfl ?_
  refine j_iload_n (pc := 0) C d_Lake_hasVillage_0 rfl 1 rfl ?_
  refine j_if_lt (pc := 1) C (tgt := 16) d_Lake_hasVillage_1 (by decide) (fun c1 => ?_) (fun c1 => ?_)
  · refine j_iconst (pc := 16) C (v := 0) d_Lake_hasVillage_16 (by decide) ?_
    exact j_iret (pc := 17) C hr (by decide) () (by exact Or.inl ⟨rfl, nh_lt (by omega) c1⟩) [0] rfl (by decide) (by decide) (by decide) d_Lake_hasVillage_17
  · refine j_iload_n (pc := 4) C d_Lake_hasVillage_4 rfl 1 rfl ?_
    refine j_aload_n (pc := 5) C d_Lake_hasVillage_5 rfl 0 rfl ?_
    refine j_get (pc := 6) C gf_Lake_58 0 rfl rfl d_Lake_hasVillage_6 ?_
    refine j_icmp_ge (pc := 9) C (tgt := 16) d_Lake_hasVillage_9 (by decide) (fun c2 => ?_) (fun c2 => ?_)
    · refine j_iconst (pc := 16) C (v := 0) d_Lake_hasVillage_16 (by decide) ?_
      exact j_iret (pc := 17) C hr (by decide) () (by exact Or.inl ⟨rfl, nh_ge (by omega) (h4 ▸ c2)⟩) [0] rfl (by decide) (by decide) (by decide) d_Lake_hasVillage_17
    · refine j_iconst (pc := 12) C (v := 1) d_Lake_hasVillage_12 (by decide) ?_
      refine j_goto (pc := 13) C (tgt := 17) d_Lake_hasVillage_13 (by decide) ?_
      exact j_iret (pc := 17) C hr (by decide) () (by exact Or.inr ⟨rfl, nI_lt2 c1 (h4 ▸ c2) (by omega)⟩) [0] rfl (by decide) (by decide) (by decide) d_Lake_hasVillage_17
set_option maxHeartbeats 4000000 in
set_option maxRecDepth 100000 in
theorem c_xhasGate (l : Launch) (D : va_G) (y : Nat → ClassId) (ad : Nat → Nat) (d : LD) (n9 : Nat) (v : Int32) (h9 : d.1 9 = nI n9) (b9 : n9 ≤ 9) : CT l D y ⟨"NineBoards$Lake", "hasGate", "(I)Z"⟩ prog_5_method_3_code 2 (some .boolean) ({ frames := 0, cells := 0, slots := 0, locals := 0 } : Room) [.ref (ad 0), .int v] [(ad 0, .inr (2, [.int (d.1 0), .int (d.1 1), .int (d.1 2), .int (d.1 3), .ref (ad 1), .int (d.1 4), .ref (ad 11), .ref (ad 12), .ref (ad 2), .ref (ad 3), .int (d.1 5), .int (d.1 6), .int (d.1 7), .int (d.1 8)])), (ad 1, .inr (1, [.int (d.1 9), .ref (ad 4), .ref (ad 5), .ref (ad 6), .ref (ad 7), .ref (ad 8), .ref (ad 9), .ref (ad 10)]))] (QI D [(ad 0, .inr (2, [.int (d.1 0), .int (d.1 1), .int (d.1 2), .int (d.1 3), .ref (ad 1), .int (d.1 4), .ref (ad 11), .ref (ad 12), .ref (ad 2), .ref (ad 3), .int (d.1 5), .int (d.1 6), .int (d.1 7), .int (d.1 8)])), (ad 1, .inr (1, [.int (d.1 9), .ref (ad 4), .ref (ad 5), .ref (ad 6), .ref (ad 7), .ref (ad 8), .ref (ad 9), .ref (ad 10)]))] (fun (r : Int32) (u : Unit) => (r = 0 ∧ ∀ j, j < n9 → ¬ v = nI j) ∨ (r = 1 ∧ ∃ j : Nat, j < n9 ∧ v = nI j)) (fun _ => [(ad 0, .inr (2, [.int (d.1 0), .int (d.1 1), .int (d.1 2), .int (d.1 3), .ref (ad 1), .int (d.1 4), .ref (ad 11), .ref (ad 12), .ref (ad 2), .ref (ad 3), .int (d.1 5), .int (d.1 6), .int (d.1 7), .int (d.1 8)])), (ad 1, .inr (1, [.int (d.1 9), .ref (ad 4), .ref (ad 5), .ref (ad 6), .ref (ad 7), .ref (ad 8), .ref (ad 9), .ref (ad 10)]))])) := by
  refine CT.of (by decide) (nb rfl) ?_
  intro p e s m args below meth c C hr
  refine j_lv (lv' := [(0, .ref (ad 0)), (1, .int v)]) rfl ?_
  refine j_iload_n (pc := 0) C d_Lake_hasGate_0 rfl 1 rfl ?_
  refine j_if_lt (pc := 1) C (tgt := 19) d_Lake_hasGate_1 (by decide) (fun c1 => ?_) (fun c1 => ?_)
  · refine j_iconst (pc := 19) C (v := 0) d_Lake_hasGate_19 (by decide) ?_
    exact j_iret (pc := 20) C hr (by decide) () (by exact Or.inl ⟨rfl, nh_lt (by omega) c1⟩) [0, 1] rfl (by decide) (by decide) (by decide) d_Lake_hasGate_20
  · refine j_iload_n (pc := 4) C d_Lake_hasGate_4 rfl 1 rfl ?_
    refine j_aload_n (pc := 5) C d_Lake_hasGate_5 rfl 0 rfl ?_
    refine j_get (pc := 6) C gf_Lake_12 0 rfl rfl d_Lake_hasGate_6 ?_
    refine j_get (pc := 9) C gf_Lake_55 1 rfl rfl d_Lake_hasGate_9 ?_
    refine j_icmp_ge (pc := 12) C (tgt := 19) d_Lake_hasGate_12 (by decide) (fun c2 => ?_) (fun c2 => ?_)
    · refine j_iconst (pc := 19) C (v := 0) d_Lake_hasGate_19 (by decide) ?_
      exact j_iret (pc := 20) C hr (by decide) () (by exact Or.inl ⟨rfl, nh_ge (by omega) (h9 ▸ c2)⟩) [0, 1] rfl (by decide) (by decide) (by decide) d_Lake_hasGate_20
    · refine j_iconst (pc := 15) C (v := 1) d_Lake_hasGate_15 (by decide) ?_
      refine j_goto (pc := 16) C (tgt := 20) d_Lake_hasGate_16 (by decide) ?_
      exact j_iret (pc := 20) C hr (by decide) () (by exact Or.inr ⟨rfl, nI_lt2 c1 (h9 ▸ c2) (by omega)⟩) [0, 1] rfl (by decide) (by decide) (by decide) d_Lake_hasGate_20
set_option maxHeartbeats 4000000 in
set_option maxRecDepth 100000 in
theorem c_isInx_ix (l : Launch) (D : va_G) (y : Nat → ClassId) (v : Int32) (c0 : Nat) (hc : c0 ≤ 1000) : CT l D y ⟨"NineBoardsModel", "isIn", "(JJJ)Z"⟩ prog_13_method_2_code 6 (some .boolean) ({ frames := 0, cells := 0, slots := 0, locals := 0 } : Room) [.long v.toInt64, .long 0, .long ((nI c0 - 1).toInt64)] [] (QI D [] (fun (r : Int32) (u : Unit) => (r = 0 ∧ ∀ j, j < c0 → ¬ v = nI j) ∨ (r = 1 ∧ ∃ j : Nat, j < c0 ∧ v = nI j)) (fun _ => [])) := by
  refine CT.of (by decide) (nb rfl) ?_
  intro p e s m args below meth c C hr
  refine j_lv (lv' := [(0, .long v.toInt64), (2, .long 0), (4, .long ((nI c0 - 1).toInt64))]) rfl ?_
  refine j_lload_n (pc := 0) C d_Model_isIn_0 rfl 0 rfl ?_
  refine j_lload_n (pc := 1) C d_Model_isIn_1 rfl 1 rfl ?_
  refine j_lcmp (pc := 2) C (v := lg_cmp v.toInt64 0) d_Model_isIn_2 rfl ?_
  refine j_if_lt (pc := 3) C (tgt := 17) d_Model_isIn_3 (by decide) (fun c1 => ?_) (fun c1 => ?_)
  · refine j_iconst (pc := 17) C (v := 0) d_Model_isIn_17 (by decide) ?_
    exact j_iret (pc := 18) C hr (by decide) () (by simp only [lg_cmp_lt, lg_cmp_gt, Int64.lt_iff_toInt_lt, Int32.toInt_toInt64] at c1; exact Or.inl ⟨rfl, isin_n hc (by have := (by decide : Int64.toInt 0 = 0); omega)⟩) [] rfl (by decide) (by decide) (by decide) d_Model_isIn_18
  · refine j_lload_n (pc := 6) C d_Model_isIn_6 rfl 0 rfl ?_
    refine j_lload (pc := 7) C d_Model_isIn_7 2 rfl ?_
    refine j_lcmp (pc := 9) C (v := lg_cmp v.toInt64 ((nI c0 - 1).toInt64)) d_Model_isIn_9 rfl ?_
    refine j_if_gt (pc := 10) C (tgt := 17) d_Model_isIn_10 (by decide) (fun c2 => ?_) (fun c2 => ?_)
    · refine j_iconst (pc := 17) C (v := 0) d_Model_isIn_17 (by decide) ?_
      exact j_iret (pc := 18) C hr (by decide) () (by simp only [lg_cmp_lt, lg_cmp_gt, Int64.lt_iff_toInt_lt, Int32.toInt_toInt64] at c1 c2; exact Or.inl ⟨rfl, isin_n hc (by have := (by decide : Int64.toInt 0 = 0); omega)⟩) [] rfl (by decide) (by decide) (by decide) d_Model_isIn_18
    · refine j_iconst (pc := 13) C (v := 1) d_Model_isIn_13 (by decide) ?_
      refine j_goto (pc := 14) C (tgt := 18) d_Model_isIn_14 (by decide) ?_
      exact j_iret (pc := 18) C hr (by decide) () (by simp only [lg_cmp_lt, lg_cmp_gt, Int64.lt_iff_toInt_lt, Int32.toInt_toInt64] at c1 c2; exact Or.inr ⟨rfl, isin_x hc (by have := (by decide : Int64.toInt 0 = 0); omega) (by omega)⟩) [] rfl (by decide) (by decide) (by decide) d_Model_isIn_18
set_option maxHeartbeats 4000000 in
set_option maxRecDepth 100000 in
theorem c_isInx_1_99 (l : Launch) (D : va_G) (y : Nat → ClassId) (v : Int32)  : CT l D y ⟨"NineBoardsModel", "isIn", "(JJJ)Z"⟩ prog_13_method_2_code 6 (some .boolean) ({ frames := 0, cells := 0, slots := 0, locals := 0 } : Room) [.long v.toInt64, .long 1, .long 99] [] (QI D [] (fun (r : Int32) (u : Unit) => (r = 0 ∧ ∀ j, (1 ≤ j ∧ j ≤ 99) → ¬ v = nI j) ∨ (r = 1 ∧ ∃ j : Nat, (1 ≤ j ∧ j ≤ 99) ∧ v = nI j)) (fun _ => [])) := by
  refine CT.of (by decide) (nb rfl) ?_
  intro p e s m args below meth c C hr
  refine j_lv (lv' := [(0, .long v.toInt64), (2, .long 1), (4, .long 99)]) rfl ?_
  refine j_lload_n (pc := 0) C d_Model_isIn_0 rfl 0 rfl ?_
  refine j_lload_n (pc := 1) C d_Model_isIn_1 rfl 1 rfl ?_
  refine j_lcmp (pc := 2) C (v := lg_cmp v.toInt64 1) d_Model_isIn_2 rfl ?_
  refine j_if_lt (pc := 3) C (tgt := 17) d_Model_isIn_3 (by decide) (fun c1 => ?_) (fun c1 => ?_)
  · refine j_iconst (pc := 17) C (v := 0) d_Model_isIn_17 (by decide) ?_
    exact j_iret (pc := 18) C hr (by decide) () (by simp only [lg_cmp_lt, lg_cmp_gt, Int64.lt_iff_toInt_lt, Int32.toInt_toInt64, (by decide : Int64.toInt 1 = 1), (by decide : Int64.toInt 99 = 99)] at c1; exact Or.inl ⟨rfl, isin_m (by decide) (by omega)⟩) [] rfl (by decide) (by decide) (by decide) d_Model_isIn_18
  · refine j_lload_n (pc := 6) C d_Model_isIn_6 rfl 0 rfl ?_
    refine j_lload (pc := 7) C d_Model_isIn_7 2 rfl ?_
    refine j_lcmp (pc := 9) C (v := lg_cmp v.toInt64 99) d_Model_isIn_9 rfl ?_
    refine j_if_gt (pc := 10) C (tgt := 17) d_Model_isIn_10 (by decide) (fun c2 => ?_) (fun c2 => ?_)
    · refine j_iconst (pc := 17) C (v := 0) d_Model_isIn_17 (by decide) ?_
      exact j_iret (pc := 18) C hr (by decide) () (by simp only [lg_cmp_lt, lg_cmp_gt, Int64.lt_iff_toInt_lt, Int32.toInt_toInt64, (by decide : Int64.toInt 1 = 1), (by decide : Int64.toInt 99 = 99)] at c1 c2; exact Or.inl ⟨rfl, isin_m (by decide) (by omega)⟩) [] rfl (by decide) (by decide) (by decide) d_Model_isIn_18
    · refine j_iconst (pc := 13) C (v := 1) d_Model_isIn_13 (by decide) ?_
      refine j_goto (pc := 14) C (tgt := 18) d_Model_isIn_14 (by decide) ?_
      exact j_iret (pc := 18) C hr (by decide) () (by simp only [lg_cmp_lt, lg_cmp_gt, Int64.lt_iff_toInt_lt, Int32.toInt_toInt64, (by decide : Int64.toInt 1 = 1), (by decide : Int64.toInt 99 = 99)] at c1 c2; exact Or.inr ⟨rfl, isin_k (by decide) (by omega) (by omega)⟩) [] rfl (by decide) (by decide) (by decide) d_Model_isIn_18
set_option maxHeartbeats 4000000 in
set_option maxRecDepth 100000 in
theorem c_isInx_0_2 (l : Launch) (D : va_G) (y : Nat → ClassId) (v : Int32)  : CT l D y ⟨"NineBoardsModel", "isIn", "(JJJ)Z"⟩ prog_13_method_2_code 6 (some .boolean) ({ frames := 0, cells := 0, slots := 0, locals := 0 } : Room) [.long v.toInt64, .long 0, .long 2] [] (QI D [] (fun (r : Int32) (u : Unit) => (r = 0 ∧ ∀ j, (0 ≤ j ∧ j ≤ 2) → ¬ v = nI j) ∨ (r = 1 ∧ ∃ j : Nat, (0 ≤ j ∧ j ≤ 2) ∧ v = nI j)) (fun _ => [])) := by
  refine CT.of (by decide) (nb rfl) ?_
  intro p e s m args below meth c C hr
  refine j_lv (lv' := [(0, .long v.toInt64), (2, .long 0), (4, .long 2)]) rfl ?_
  refine j_lload_n (pc := 0) C d_Model_isIn_0 rfl 0 rfl ?_
  refine j_lload_n (pc := 1) C d_Model_isIn_1 rfl 1 rfl ?_
  refine j_lcmp (pc := 2) C (v := lg_cmp v.toInt64 0) d_Model_isIn_2 rfl ?_
  refine j_if_lt (pc := 3) C (tgt := 17) d_Model_isIn_3 (by decide) (fun c1 => ?_) (fun c1 => ?_)
  · refine j_iconst (pc := 17) C (v := 0) d_Model_isIn_17 (by decide) ?_
    exact j_iret (pc := 18) C hr (by decide) () (by simp only [lg_cmp_lt, lg_cmp_gt, Int64.lt_iff_toInt_lt, Int32.toInt_toInt64, (by decide : Int64.toInt 0 = 0), (by decide : Int64.toInt 2 = 2)] at c1; exact Or.inl ⟨rfl, isin_m (by decide) (by omega)⟩) [] rfl (by decide) (by decide) (by decide) d_Model_isIn_18
  · refine j_lload_n (pc := 6) C d_Model_isIn_6 rfl 0 rfl ?_
    refine j_lload (pc := 7) C d_Model_isIn_7 2 rfl ?_
    refine j_lcmp (pc := 9) C (v := lg_cmp v.toInt64 2) d_Model_isIn_9 rfl ?_
    refine j_if_gt (pc := 10) C (tgt := 17) d_Model_isIn_10 (by decide) (fun c2 => ?_) (fun c2 => ?_)
    · refine j_iconst (pc := 17) C (v := 0) d_Model_isIn_17 (by decide) ?_
      exact j_iret (pc := 18) C hr (by decide) () (by simp only [lg_cmp_lt, lg_cmp_gt, Int64.lt_iff_toInt_lt, Int32.toInt_toInt64, (by decide : Int64.toInt 0 = 0), (by decide : Int64.toInt 2 = 2)] at c1 c2; exact Or.inl ⟨rfl, isin_m (by decide) (by omega)⟩) [] rfl (by decide) (by decide) (by decide) d_Model_isIn_18
    · refine j_iconst (pc := 13) C (v := 1) d_Model_isIn_13 (by decide) ?_
      refine j_goto (pc := 14) C (tgt := 18) d_Model_isIn_14 (by decide) ?_
      exact j_iret (pc := 18) C hr (by decide) () (by simp only [lg_cmp_lt, lg_cmp_gt, Int64.lt_iff_toInt_lt, Int32.toInt_toInt64, (by decide : Int64.toInt 0 = 0), (by decide : Int64.toInt 2 = 2)] at c1 c2; exact Or.inr ⟨rfl, isin_k (by decide) (by omega) (by omega)⟩) [] rfl (by decide) (by decide) (by decide) d_Model_isIn_18
set_option maxHeartbeats 4000000 in
set_option maxRecDepth 100000 in
theorem c_isInx_0_5 (l : Launch) (D : va_G) (y : Nat → ClassId) (v : Int32)  : CT l D y ⟨"NineBoardsModel", "isIn", "(JJJ)Z"⟩ prog_13_method_2_code 6 (some .boolean) ({ frames := 0, cells := 0, slots := 0, locals := 0 } : Room) [.long v.toInt64, .long 0, .long 5] [] (QI D [] (fun (r : Int32) (u : Unit) => (r = 0 ∧ ∀ j, (0 ≤ j ∧ j ≤ 5) → ¬ v = nI j) ∨ (r = 1 ∧ ∃ j : Nat, (0 ≤ j ∧ j ≤ 5) ∧ v = nI j)) (fun _ => [])) := by
  refine CT.of (by decide) (nb rfl) ?_
  intro p e s m args below meth c C hr
  refine j_lv (lv' := [(0, .long v.toInt64), (2, .long 0), (4, .long 5)]) rfl ?_
  refine j_lload_n (pc := 0) C d_Model_isIn_0 rfl 0 rfl ?_
  refine j_lload_n (pc := 1) C d_Model_isIn_1 rfl 1 rfl ?_
  refine j_lcmp (pc := 2) C (v := lg_cmp v.toInt64 0) d_Model_isIn_2 rfl ?_
  refine j_if_lt (pc := 3) C (tgt := 17) d_Model_isIn_3 (by decide) (fun c1 => ?_) (fun c1 => ?_)
  · refine j_iconst (pc := 17) C (v := 0) d_Model_isIn_17 (by decide) ?_
    exact j_iret (pc := 18) C hr (by decide) () (by simp only [lg_cmp_lt, lg_cmp_gt, Int64.lt_iff_toInt_lt, Int32.toInt_toInt64, (by decide : Int64.toInt 0 = 0), (by decide : Int64.toInt 5 = 5)] at c1; exact Or.inl ⟨rfl, isin_m (by decide) (by omega)⟩) [] rfl (by decide) (by decide) (by decide) d_Model_isIn_18
  · refine j_lload_n (pc := 6) C d_Model_isIn_6 rfl 0 rfl ?_
    refine j_lload (pc := 7) C d_Model_isIn_7 2 rfl ?_
    refine j_lcmp (pc := 9) C (v := lg_cmp v.toInt64 5) d_Model_isIn_9 rfl ?_
    refine j_if_gt (pc := 10) C (tgt := 17) d_Model_isIn_10 (by decide) (fun c2 => ?_) (fun c2 => ?_)
    · refine j_iconst (pc := 17) C (v := 0) d_Model_isIn_17 (by decide) ?_
      exact j_iret (pc := 18) C hr (by decide) () (by simp only [lg_cmp_lt, lg_cmp_gt, Int64.lt_iff_toInt_lt, Int32.toInt_toInt64, (by decide : Int64.toInt 0 = 0), (by decide : Int64.toInt 5 = 5)] at c1 c2; exact Or.inl ⟨rfl, isin_m (by decide) (by omega)⟩) [] rfl (by decide) (by decide) (by decide) d_Model_isIn_18
    · refine j_iconst (pc := 13) C (v := 1) d_Model_isIn_13 (by decide) ?_
      refine j_goto (pc := 14) C (tgt := 18) d_Model_isIn_14 (by decide) ?_
      exact j_iret (pc := 18) C hr (by decide) () (by simp only [lg_cmp_lt, lg_cmp_gt, Int64.lt_iff_toInt_lt, Int32.toInt_toInt64, (by decide : Int64.toInt 0 = 0), (by decide : Int64.toInt 5 = 5)] at c1 c2; exact Or.inr ⟨rfl, isin_k (by decide) (by omega) (by omega)⟩) [] rfl (by decide) (by decide) (by decide) d_Model_isIn_18
set_option maxHeartbeats 4000000 in
set_option maxRecDepth 100000 in
theorem c_F_letter (l : Launch) (D : va_G) (y : Nat → ClassId) (x : Nat) (tp : Nat) (pi : Nat) (nh : Nat) (th : Nat) (ps : Nat) (ad : Nat → Nat) (ae : Nat → Nat) (rd : Nat) (pl : Nat) (dr : Int32) (d : LD) (v1 : Int32) (v2 : Int32) (v3 : Int32) (gt : LA_) (n4 : Nat) (n9 : Nat) (h4 : d.1 4 = nI n4) (b4 : n4 ≤ 6) (h9 : d.1 9 = nI n9) (b9 : n9 ≤ 9) (hn0 : NR (gt.nm 0) n9 (d.2 0)) (hn7 : NR (gt.nm 1) n4 (d.2 7)) (g9 : n9 = gt.s 9) (g4 : n4 = gt.s 4) : CT l D y ⟨"NineBoards", "letter", "(III)I"⟩ prog_1_method_7_code 4 (some .int) ({ frames := 1, cells := 0, slots := 0, locals := 21 } : Room) [.ref x, .int v1, .int v2, .int v3] [(x, .inr (9, [.ref tp, .ref pi, .ref nh, .ref th, .ref ps, .ref (ad 0), .ref (ae 0), .ref rd, .ref pl, .int dr])), (ad 0, .inr (2, [.int (d.1 0), .int (d.1 1), .int (d.1 2), .int (d.1 3), .ref (ad 1), .int (d.1 4), .ref (ad 11), .ref (ad 12), .ref (ad 2), .ref (ad 3), .int (d.1 5), .int (d.1 6), .int (d.1 7), .int (d.1 8)])), (ad 1, .inr (1, [.int (d.1 9), .ref (ad 4), .ref (ad 5), .ref (ad 6), .ref (ad 7), .ref (ad 8), .ref (ad 9), .ref (ad 10)])), (ad 4, .inl (y 0, 9, .inl (d.2 0))), (ad 11, .inl (y 0, 6, .inl (d.2 7)))] (QI D [(x, .inr (9, [.ref tp, .ref pi, .ref nh, .ref th, .ref ps, .ref (ad 0), .ref (ae 0), .ref rd, .ref pl, .int dr])), (ad 0, .inr (2, [.int (d.1 0), .int (d.1 1), .int (d.1 2), .int (d.1 3), .ref (ad 1), .int (d.1 4), .ref (ad 11), .ref (ad 12), .ref (ad 2), .ref (ad 3), .int (d.1 5), .int (d.1 6), .int (d.1 7), .int (d.1 8)])), (ad 1, .inr (1, [.int (d.1 9), .ref (ad 4), .ref (ad 5), .ref (ad 6), .ref (ad 7), .ref (ad 8), .ref (ad 9), .ref (ad 10)])), (ad 4, .inl (y 0, 9, .inl (d.2 0))), (ad 11, .inl (y 0, 6, .inl (d.2 7)))] (fun (r : Int32) (u : Unit) => LETR gt v1 v2 v3 r) (fun _ => [(x, .inr (9, [.ref tp, .ref pi, .ref nh, .ref th, .ref ps, .ref (ad 0), .ref (ae 0), .ref rd, .ref pl, .int dr])), (ad 0, .inr (2, [.int (d.1 0), .int (d.1 1), .int (d.1 2), .int (d.1 3), .ref (ad 1), .int (d.1 4), .ref (ad 11), .ref (ad 12), .ref (ad 2), .ref (ad 3), .int (d.1 5), .int (d.1 6), .int (d.1 7), .int (d.1 8)])), (ad 1, .inr (1, [.int (d.1 9), .ref (ad 4), .ref (ad 5), .ref (ad 6), .ref (ad 7), .ref (ad 8), .ref (ad 9), .ref (ad 10)])), (ad 4, .inl (y 0, 9, .inl (d.2 0))), (ad 11, .inl (y 0, 6, .inl (d.2 7)))])) := by
  refine CT.of (by decide) (nb rfl) ?_
  intro p e s m args below meth c C hr
  refine j_lv (lv' := [(0, .ref x), (1, .int v1), (2, .int v2), (3, .int v3)]) rfl ?_
  refine j_iload_n (pc := 0) C d_Nine_letter_0 rfl 3 rfl ?_
  refine j_if_lt (pc := 1) C (tgt := 10) d_Nine_letter_1 (by decide) (fun c1 => ?_) (fun c1 => ?_)
  · refine j_iconst (pc := 10) C (v := (-1)) d_Nine_letter_10 (by decide) ?_
    exact j_iret (pc := 11) C hr rfl () (Or.inl ⟨rfl, lok_3 (nh_lt (by omega) c1)⟩) [0, 1, 2, 3, 4] rfl (by decide) (by decide) (by decide) d_Nine_letter_11
  · refine j_iload_n (pc := 4) C d_Nine_letter_4 rfl 3 rfl ?_
    refine j_bipush (pc := 5) C (v := 6) d_Nine_letter_5 (by decide) ?_
    refine j_icmp_lt (pc := 7) C (tgt := 12) d_Nine_letter_7 (by decide) (fun c2 => ?_) (fun c2 => ?_)
    · obtain ⟨j3, xh4, rfl⟩ := nI_lt2 (n := 6) c1 (Int32.not_le.mpr c2) (by omega)
      refine j_iload_n (pc := 12) C d_Nine_letter_12 rfl 1 rfl ?_
      refine j_if_ne (pc := 13) C (tgt := 47) d_Nine_letter_13 (by decide) (fun c5 => ?_) (fun c5 => ?_)
      · refine j_iload_n (pc := 47) C d_Nine_letter_47 rfl 1 rfl ?_
        refine j_iconst (pc := 48) C (v := 1) d_Nine_letter_48 (by decide) ?_
        refine j_icmp_ne (pc := 49) C (tgt := 80) d_Nine_letter_49 (by decide) (fun c6 => ?_) (fun c6 => ?_)
        · refine j_iconst (pc := 80) C (v := (-1)) d_Nine_letter_80 (by decide) ?_
          exact j_iret (pc := 81) C hr rfl () (Or.inl ⟨rfl, lok_n (fun e => absurd e c5) (fun e => absurd e c6)⟩) [0, 1, 2, 3, 4] rfl (by decide) (by decide) (by decide) d_Nine_letter_81
        · refine j_aload_n (pc := 52) C d_Nine_letter_52 rfl 0 rfl ?_
          refine j_get (pc := 53) C gf_Nine_41 0 rfl rfl d_Nine_letter_53 ?_
          refine j_iload_n (pc := 56) C d_Nine_letter_56 rfl 2 rfl ?_
          refine j_callVi (pc := 57) C (c_xhasVillage l D y ad d n4 v2 h4 b4) kw_Nine_145 kv_Lake_hasVillage 0 2 rfl rfl ⟨by decide, by decide⟩ ⟨by decide, by decide⟩ (wr := [(x, .inr (9, [.ref tp, .ref pi, .ref nh, .ref th, .ref ps, .ref (ad 0), .ref (ae 0), .ref rd, .ref pl, .int dr])), (ad 1, .inr (1, [.int (d.1 9), .ref (ad 4), .ref (ad 5), .ref (ad 6), .ref (ad 7), .ref (ad 8), .ref (ad 9), .ref (ad 10)])), (ad 4, .inl (y 0, 9, .inl (d.2 0))), (ad 11, .inl (y 0, 6, .inl (d.2 7)))]) [1] [0, 2, 3, 4] rfl rfl (by decide) (by decide) (by decide) (As := [.int v2]) (rest := []) rfl (nb rfl) rfl d_Nine_letter_57 (fun r7 _ hr7 => ?_)
          refine j_ws (ws' := [(x, .inr (9, [.ref tp, .ref pi, .ref nh, .ref th, .ref ps, .ref (ad 0), .ref (ae 0), .ref rd, .ref pl, .int dr])), (ad 1, .inr (1, [.int (d.1 9), .ref (ad 4), .ref (ad 5), .ref (ad 6), .ref (ad 7), .ref (ad 8), .ref (ad 9), .ref (ad 10)])), (ad 4, .inl (y 0, 9, .inl (d.2 0))), (ad 11, .inl (y 0, 6, .inl (d.2 7))), (ad 0, .inr (2, [.int (d.1 0), .int (d.1 1), .int (d.1 2), .int (d.1 3), .ref (ad 1), .int (d.1 4), .ref (ad 11), .ref (ad 12), .ref (ad 2), .ref (ad 3), .int (d.1 5), .int (d.1 6), .int (d.1 7), .int (d.1 8)]))]) rfl ?_
          rcases hr7 with ⟨rfl, xh10⟩ | ⟨rfl, j8, xh9, rfl⟩
          · refine j_if_eqT (pc := 60) C (tgt := 80) d_Nine_letter_60 (by decide) (by decide) ?_
            refine j_iconst (pc := 80) C (v := (-1)) d_Nine_letter_80 (by decide) ?_
            exact j_iret (pc := 81) C hr rfl () (Or.inl ⟨rfl, lok_n (fun e => absurd e c5) (fun _ j hj => xh10 j (by omega))⟩) [0, 4, 1, 2, 3] rfl (by decide) (by decide) (by decide) d_Nine_letter_81
          · refine j_if_eqF (pc := 60) C (tgt := 80) d_Nine_letter_60 (by decide) (by decide) ?_
            refine j_aload_n (pc := 63) C d_Nine_letter_63 rfl 0 rfl ?_
            refine j_get (pc := 64) C gf_Nine_41 0 rfl rfl d_Nine_letter_64 ?_
            refine j_get (pc := 67) C gf_Nine_148 4 rfl rfl d_Nine_letter_67 ?_
            refine j_iload_n (pc := 70) C d_Nine_letter_70 rfl 2 rfl ?_
            refine j_iald (pc := 71) C 3 rfl (v := (d.2 7) j8) (vp_in_nI (by omega) (by decide)) (by rw [nI_clamp (by omega)]) d_Nine_letter_71 ?_
            refine j_iconst (pc := 72) C (v := 5) d_Nine_letter_72 (by decide) ?_
            refine j_iload_n (pc := 73) C d_Nine_letter_73 rfl 3 rfl ?_
            refine j_imul (pc := 74) C (v := nI (5 * j3)) d_Nine_letter_74 (pk_mul _ _) ?_
            refine j_ishr (pc := 75) C (v := ((d.2 7) j8) >>> ((nI (5 * j3)) &&& 31)) d_Nine_letter_75 rfl ?_
            refine j_bipush (pc := 76) C (v := 31) d_Nine_letter_76 (by decide) ?_
            refine j_iand (pc := 78) C (v := (((d.2 7) j8) >>> ((nI (5 * j3)) &&& 31)) &&& 31) d_Nine_letter_78 rfl ?_
            exact j_iret (pc := 79) C hr rfl () (Or.inr ⟨j8, j3, xh4, rfl, rfl, Or.inr ⟨c6, by omega, by rw [(hn7 j8 (by omega)).1]; exact let_dig (hn7 j8 (by omega)).2 xh4⟩⟩) [0, 4, 1, 2, 3] rfl (by decide) (by decide) (by decide) d_Nine_letter_79
      · refine j_aload_n (pc := 16) C d_Nine_letter_16 rfl 0 rfl ?_
        refine j_get (pc := 17) C gf_Nine_41 0 rfl rfl d_Nine_letter_17 ?_
        refine j_iload_n (pc := 20) C d_Nine_letter_20 rfl 2 rfl ?_
        refine j_callVi (pc := 21) C (c_xhasGate l D y ad d n9 v2 h9 b9) kw_Nine_138 kv_Lake_hasGate 0 2 rfl rfl ⟨by decide, by decide⟩ ⟨by decide, by decide⟩ (wr := [(x, .inr (9, [.ref tp, .ref pi, .ref nh, .ref th, .ref ps, .ref (ad 0), .ref (ae 0), .ref rd, .ref pl, .int dr])), (ad 4, .inl (y 0, 9, .inl (d.2 0))), (ad 11, .inl (y 0, 6, .inl (d.2 7)))]) [1, 2] [0, 3, 4] rfl rfl (by decide) (by decide) (by decide) (As := [.int v2]) (rest := []) rfl (nb rfl) rfl d_Nine_letter_21 (fun r11 _ hr11 => ?_)
        refine j_ws (ws' := [(x, .inr (9, [.ref tp, .ref pi, .ref nh, .ref th, .ref ps, .ref (ad 0), .ref (ae 0), .ref rd, .ref pl, .int dr])), (ad 4, .inl (y 0, 9, .inl (d.2 0))), (ad 11, .inl (y 0, 6, .inl (d.2 7))), (ad 0, .inr (2, [.int (d.1 0), .int (d.1 1), .int (d.1 2), .int (d.1 3), .ref (ad 1), .int (d.1 4), .ref (ad 11), .ref (ad 12), .ref (ad 2), .ref (ad 3), .int (d.1 5), .int (d.1 6), .int (d.1 7), .int (d.1 8)])), (ad 1, .inr (1, [.int (d.1 9), .ref (ad 4), .ref (ad 5), .ref (ad 6), .ref (ad 7), .ref (ad 8), .ref (ad 9), .ref (ad 10)]))]) rfl ?_
        rcases hr11 with ⟨rfl, xh14⟩ | ⟨rfl, j12, xh13, rfl⟩
        · refine j_if_eqT (pc := 24) C (tgt := 47) d_Nine_letter_24 (by decide) (by decide) ?_
          refine j_iload_n (pc := 47) C d_Nine_letter_47 rfl 1 rfl ?_
          refine j_iconst (pc := 48) C (v := 1) d_Nine_letter_48 (by decide) ?_
          refine j_icmp_ne (pc := 49) C (tgt := 80) d_Nine_letter_49 (by decide) (fun c15 => ?_) (fun c15 => ?_)
          · refine j_iconst (pc := 80) C (v := (-1)) d_Nine_letter_80 (by decide) ?_
            exact j_iret (pc := 81) C hr rfl () (Or.inl ⟨rfl, lok_n (fun _ j hj => xh14 j (by omega)) (fun e => absurd e c15)⟩) [0, 3, 4, 1, 2] rfl (by decide) (by decide) (by decide) d_Nine_letter_81
          · refine j_aload_n (pc := 52) C d_Nine_letter_52 rfl 0 rfl ?_
            refine j_get (pc := 53) C gf_Nine_41 0 rfl rfl d_Nine_letter_53 ?_
            refine j_iload_n (pc := 56) C d_Nine_letter_56 rfl 2 rfl ?_
            refine j_callVi (pc := 57) C (c_xhasVillage l D y ad d n4 v2 h4 b4) kw_Nine_145 kv_Lake_hasVillage 0 2 rfl rfl ⟨by decide, by decide⟩ ⟨by decide, by decide⟩ (wr := [(x, .inr (9, [.ref tp, .ref pi, .ref nh, .ref th, .ref ps, .ref (ad 0), .ref (ae 0), .ref rd, .ref pl, .int dr])), (ad 4, .inl (y 0, 9, .inl (d.2 0))), (ad 11, .inl (y 0, 6, .inl (d.2 7))), (ad 1, .inr (1, [.int (d.1 9), .ref (ad 4), .ref (ad 5), .ref (ad 6), .ref (ad 7), .ref (ad 8), .ref (ad 9), .ref (ad 10)]))]) [3] [0, 1, 2, 4] rfl rfl (by decide) (by decide) (by decide) (As := [.int v2]) (rest := []) rfl (nb rfl) rfl d_Nine_letter_57 (fun r16 _ hr16 => ?_)
            refine j_ws (ws' := [(x, .inr (9, [.ref tp, .ref pi, .ref nh, .ref th, .ref ps, .ref (ad 0), .ref (ae 0), .ref rd, .ref pl, .int dr])), (ad 4, .inl (y 0, 9, .inl (d.2 0))), (ad 11, .inl (y 0, 6, .inl (d.2 7))), (ad 1, .inr (1, [.int (d.1 9), .ref (ad 4), .ref (ad 5), .ref (ad 6), .ref (ad 7), .ref (ad 8), .ref (ad 9), .ref (ad 10)])), (ad 0, .inr (2, [.int (d.1 0), .int (d.1 1), .int (d.1 2), .int (d.1 3), .ref (ad 1), .int (d.1 4), .ref (ad 11), .ref (ad 12), .ref (ad 2), .ref (ad 3), .int (d.1 5), .int (d.1 6), .int (d.1 7), .int (d.1 8)]))]) rfl ?_
            rcases hr16 with ⟨rfl, xh19⟩ | ⟨rfl, j17, xh18, rfl⟩
            · refine j_if_eqT (pc := 60) C (tgt := 80) d_Nine_letter_60 (by decide) (by decide) ?_
              refine j_iconst (pc := 80) C (v := (-1)) d_Nine_letter_80 (by decide) ?_
              exact j_iret (pc := 81) C hr rfl () (Or.inl ⟨rfl, lok_n (fun _ j hj => xh14 j (by omega)) (fun _ j hj => xh19 j (by omega))⟩) [0, 4, 3, 1, 2] rfl (by decide) (by decide) (by decide) d_Nine_letter_81
            · refine j_if_eqF (pc := 60) C (tgt := 80) d_Nine_letter_60 (by decide) (by decide) ?_
              refine j_aload_n (pc := 63) C d_Nine_letter_63 rfl 0 rfl ?_
              refine j_get (pc := 64) C gf_Nine_41 0 rfl rfl d_Nine_letter_64 ?_
              refine j_get (pc := 67) C gf_Nine_148 4 rfl rfl d_Nine_letter_67 ?_
              refine j_iload_n (pc := 70) C d_Nine_letter_70 rfl 2 rfl ?_
              refine j_iald (pc := 71) C 2 rfl (v := (d.2 7) j17) (vp_in_nI (by omega) (by decide)) (by rw [nI_clamp (by omega)]) d_Nine_letter_71 ?_
              refine j_iconst (pc := 72) C (v := 5) d_Nine_letter_72 (by decide) ?_
              refine j_iload_n (pc := 73) C d_Nine_letter_73 rfl 3 rfl ?_
              refine j_imul (pc := 74) C (v := nI (5 * j3)) d_Nine_letter_74 (pk_mul _ _) ?_
              refine j_ishr (pc := 75) C (v := ((d.2 7) j17) >>> ((nI (5 * j3)) &&& 31)) d_Nine_letter_75 rfl ?_
              refine j_bipush (pc := 76) C (v := 31) d_Nine_letter_76 (by decide) ?_
              refine j_iand (pc := 78) C (v := (((d.2 7) j17) >>> ((nI (5 * j3)) &&& 31)) &&& 31) d_Nine_letter_78 rfl ?_
              exact j_iret (pc := 79) C hr rfl () (Or.inr ⟨j17, j3, xh4, rfl, rfl, Or.inr ⟨c15, by omega, by rw [(hn7 j17 (by omega)).1]; exact let_dig (hn7 j17 (by omega)).2 xh4⟩⟩) [0, 4, 3, 1, 2] rfl (by decide) (by decide) (by decide) d_Nine_letter_79
        · refine j_if_eqF (pc := 24) C (tgt := 47) d_Nine_letter_24 (by decide) (by decide) ?_
          refine j_aload_n (pc := 27) C d_Nine_letter_27 rfl 0 rfl ?_
          refine j_get (pc := 28) C gf_Nine_41 0 rfl rfl d_Nine_letter_28 ?_
          refine j_get (pc := 31) C gf_Nine_89 3 rfl rfl d_Nine_letter_31 ?_
          refine j_get (pc := 34) C gf_Nine_142 4 rfl rfl d_Nine_letter_34 ?_
          refine j_iload_n (pc := 37) C d_Nine_letter_37 rfl 2 rfl ?_
          refine j_iald (pc := 38) C 1 rfl (v := (d.2 0) j12) (vp_in_nI (by omega) (by decide)) (by rw [nI_clamp (by omega)]) d_Nine_letter_38 ?_
          refine j_iconst (pc := 39) C (v := 5) d_Nine_letter_39 (by decide) ?_
          refine j_iload_n (pc := 40) C d_Nine_letter_40 rfl 3 rfl ?_
          refine j_imul (pc := 41) C (v := nI (5 * j3)) d_Nine_letter_41 (pk_mul _ _) ?_
          refine j_ishr (pc := 42) C (v := ((d.2 0) j12) >>> ((nI (5 * j3)) &&& 31)) d_Nine_letter_42 rfl ?_
          refine j_bipush (pc := 43) C (v := 31) d_Nine_letter_43 (by decide) ?_
          refine j_iand (pc := 45) C (v := (((d.2 0) j12) >>> ((nI (5 * j3)) &&& 31)) &&& 31) d_Nine_letter_45 rfl ?_
          exact j_iret (pc := 46) C hr rfl () (Or.inr ⟨j12, j3, xh4, rfl, rfl, Or.inl ⟨c5, by omega, by rw [(hn0 j12 (by omega)).1]; exact let_dig (hn0 j12 (by omega)).2 xh4⟩⟩) [0, 3, 4, 1, 2] rfl (by decide) (by decide) (by decide) d_Nine_letter_46
    · refine j_iconst (pc := 10) C (v := (-1)) d_Nine_letter_10 (by decide) ?_
      exact j_iret (pc := 11) C hr rfl () (Or.inl ⟨rfl, lok_3 (nh_ge (n := 6) (by omega) (Int32.not_lt.mp c2))⟩) [0, 1, 2, 3, 4] rfl (by decide) (by decide) (by decide) d_Nine_letter_11
set_option maxHeartbeats 4000000 in
set_option maxRecDepth 100000 in
theorem c_isInx_01 (l : Launch) (D : va_G) (y : Nat → ClassId) (v : Int32)  : CT l D y ⟨"NineBoardsModel", "isIn", "(JJJ)Z"⟩ prog_13_method_2_code 6 (some .boolean) ({ frames := 0, cells := 0, slots := 0, locals := 0 } : Room) [.long v.toInt64, .long 0, .long 1] [] (QI D [] (fun (r : Int32) (u : Unit) => ((r = 0 ∧ ¬ v = 0 ∧ ¬ v = 1) ∨ (r = 1 ∧ v = 0) ∨ (r = 1 ∧ v = 1))) (fun _ => [])) := by
  refine CT.of (by decide) (nb rfl) ?_
  intro p e s m args below meth c C hr
  refine j_lv (lv' := [(0, .long v.toInt64), (2, .long 0), (4, .long 1)]) rfl ?_
  refine j_lload_n (pc := 0) C d_Model_isIn_0 rfl 0 rfl ?_
  refine j_lload_n (pc := 1) C d_Model_isIn_1 rfl 1 rfl ?_
  refine j_lcmp (pc := 2) C (v := lg_cmp v.toInt64 0) d_Model_isIn_2 rfl ?_
  refine j_if_lt (pc := 3) C (tgt := 17) d_Model_isIn_3 (by decide) (fun c1 => ?_) (fun c1 => ?_)
  · refine j_iconst (pc := 17) C (v := 0) d_Model_isIn_17 (by decide) ?_
    exact j_iret (pc := 18) C hr (by decide) () (by simp only [lg_cmp_lt, lg_cmp_gt, Int64.lt_iff_toInt_lt, Int32.toInt_toInt64, (by decide : Int64.toInt 0 = 0), (by decide : Int64.toInt 1 = 1)] at c1; exact Or.inl ⟨rfl, fun e => by rw [e] at c1; exact absurd c1 (by decide), fun e => by rw [e] at c1; exact absurd c1 (by decide)⟩) [] rfl (by decide) (by decide) (by decide) d_Model_isIn_18
  · refine j_lload_n (pc := 6) C d_Model_isIn_6 rfl 0 rfl ?_
    refine j_lload (pc := 7) C d_Model_isIn_7 2 rfl ?_
    refine j_lcmp (pc := 9) C (v := lg_cmp v.toInt64 1) d_Model_isIn_9 rfl ?_
    refine j_if_gt (pc := 10) C (tgt := 17) d_Model_isIn_10 (by decide) (fun c2 => ?_) (fun c2 => ?_)
    · refine j_iconst (pc := 17) C (v := 0) d_Model_isIn_17 (by decide) ?_
      exact j_iret (pc := 18) C hr (by decide) () (by simp only [lg_cmp_lt, lg_cmp_gt, Int64.lt_iff_toInt_lt, Int32.toInt_toInt64, (by decide : Int64.toInt 0 = 0), (by decide : Int64.toInt 1 = 1)] at c1 c2; exact Or.inl ⟨rfl, fun e => by rw [e] at c1 c2; exact absurd c2 (by decide), fun e => by rw [e] at c1 c2; exact absurd c2 (by decide)⟩) [] rfl (by decide) (by decide) (by decide) d_Model_isIn_18
    · refine j_iconst (pc := 13) C (v := 1) d_Model_isIn_13 (by decide) ?_
      refine j_goto (pc := 14) C (tgt := 18) d_Model_isIn_14 (by decide) ?_
      exact j_iret (pc := 18) C hr (by decide) () (by simp only [lg_cmp_lt, lg_cmp_gt, Int64.lt_iff_toInt_lt, Int32.toInt_toInt64, (by decide : Int64.toInt 0 = 0), (by decide : Int64.toInt 1 = 1)] at c1 c2; exact Or.inr (in_01 (by omega) (by omega))) [] rfl (by decide) (by decide) (by decide) d_Model_isIn_18
set_option maxHeartbeats 4000000 in
set_option maxRecDepth 100000 in
theorem c_M_letter_x (l : Launch) (D : va_G) (y : Nat → ClassId) (mo : Nat) (ma : Nat → Nat) (t1 : Nat) (i2 : Int32) (i3 : Int32) (i4 : Int32) (i5 : Int32) (i6 : Int32) (i7 : Int32) (i8 : Int32) (i42 : Int32) (i49 : Int32) (i51 : Int32) (i53 : Int32) (i54 : Int32) (i59 : Int32) (i61 : Int32) (i64 : Int32) (i66 : Int32) (t67 : Nat) (i76 : Int64) (i78 : Int32) (g43 : Nat → Int32) (g44 : Nat → Int64) (v1 : Int32) (v2 : Int32) (v3 : Int32) (c0 : Nat) (c1 : Nat) (gt : LA_) (hc0 : g43 4 = nI c0) (bc0 : c0 ≤ 9) (hc1 : g43 5 = nI c1) (bc1 : c1 ≤ 6) (hnm : NM gt (fun j => g44 (18 + j))) (g9 : c0 = gt.s 9) (g4 : c1 = gt.s 4) : CT l D y ⟨"NineBoardsModel", "letter", "(III)I"⟩ prog_13_method_73_code 9 (some .int) ({ frames := 1, cells := 0, slots := 0, locals := 25 } : Room) [.ref mo, .int v1, .int v2, .int v3] [MB mo ma (nI t1) i2 i3 i4 i5 i6 i7 i8 i42 i49 i51 i53 i54 i59 i61 i64 i66 (nI t67) i76 i78, (ma 43, .inl (y 0, 8, .inl g43)), (ma 44, .inl (y 1, 36, .inr (.inl g44)))] (QI D [MB mo ma (nI t1) i2 i3 i4 i5 i6 i7 i8 i42 i49 i51 i53 i54 i59 i61 i64 i66 (nI t67) i76 i78, (ma 43, .inl (y 0, 8, .inl g43)), (ma 44, .inl (y 1, 36, .inr (.inl g44)))] (fun (r : Int32) (u : Unit) => LETR gt v1 v2 v3 r) (fun _ => [MB mo ma (nI t1) i2 i3 i4 i5 i6 i7 i8 i42 i49 i51 i53 i54 i59 i61 i64 i66 (nI t67) i76 i78, (ma 43, .inl (y 0, 8, .inl g43)), (ma 44, .inl (y 1, 36, .inr (.inl g44)))])) := by
  refine CT.of (by decide) (nb rfl) ?_
  intro p e s m args below meth c C hr
  refine j_lv (lv' := [(0, .ref mo), (1, .int v1), (2, .int v2), (3, .int v3)]) rfl ?_
  refine j_iload_n (pc := 0) C d_Model_letter_0 rfl 1 rfl ?_
  refine j_i2l (pc := 1) C (v := v1.toInt64) d_Model_letter_1 rfl ?_
  refine j_lconst (pc := 2) C (v := 0) d_Model_letter_2 (by decide) ?_
  refine j_lconst (pc := 3) C (v := 1) d_Model_letter_3 (by decide) ?_
  refine j_callSi (pc := 4) C (c_isInx_01 l D y v1) kw_Model_240 ks_Model_isIn ⟨by decide, by decide⟩ ⟨by decide, by decide⟩ (wr := [MB mo ma (nI t1) i2 i3 i4 i5 i6 i7 i8 i42 i49 i51 i53 i54 i59 i61 i64 i66 (nI t67) i76 i78, (ma 43, .inl (y 0, 8, .inl g43)), (ma 44, .inl (y 1, 36, .inr (.inl g44)))]) [] [0, 1, 2] rfl rfl (by decide) (by decide) (by decide) (As := [.long v1.toInt64, .long 0, .long 1]) (rest := []) rfl (nb rfl) rfl d_Model_letter_4 (fun r1 _ hr1 => ?_)
  refine j_ws (ws' := [MB mo ma (nI t1) i2 i3 i4 i5 i6 i7 i8 i42 i49 i51 i53 i54 i59 i61 i64 i66 (nI t67) i76 i78, (ma 43, .inl (y 0, 8, .inl g43)), (ma 44, .inl (y 1, 36, .inr (.inl g44)))]) rfl ?_
  rcases hr1 with ⟨rfl, xh3, xh4⟩ | ⟨rfl, rfl⟩ | ⟨rfl, rfl⟩
  · refine j_if_eqT (pc := 7) C (tgt := 42) d_Model_letter_7 (by decide) (by decide) ?_
    refine j_iconst (pc := 42) C (v := (-1)) d_Model_letter_42 (by decide) ?_
    exact j_iret (pc := 43) C hr rfl () (Or.inl ⟨rfl, lok_n (fun e => absurd e xh3) (fun e => absurd e xh4)⟩) [0, 1, 2] rfl (by decide) (by decide) (by decide) d_Model_letter_43
  · refine j_if_eqF (pc := 7) C (tgt := 42) d_Model_letter_7 (by decide) (by decide) ?_
    refine j_iload_n (pc := 10) C d_Model_letter_10 rfl 2 rfl ?_
    refine j_i2l (pc := 11) C (v := v2.toInt64) d_Model_letter_11 rfl ?_
    refine j_lconst (pc := 12) C (v := 0) d_Model_letter_12 (by decide) ?_
    refine j_aload_n (pc := 13) C d_Model_letter_13 rfl 0 rfl ?_
    refine j_get (pc := 14) C gf_Model_117 0 rfl rfl d_Model_letter_14 ?_
    refine j_iconst (pc := 17) C (v := 4) d_Model_letter_17 (by decide) ?_
    refine j_iload_n (pc := 18) C d_Model_letter_18 rfl 1 rfl ?_
    refine j_iadd (pc := 19) C (v := 4) d_Model_letter_19 (by decide) ?_
    refine j_iald (pc := 20) C 1 rfl (v := nI c0) (vin (by decide)) (by exact hc0) d_Model_letter_20 ?_
    refine j_iconst (pc := 21) C (v := 1) d_Model_letter_21 (by decide) ?_
    refine j_isub (pc := 22) C (v := nI c0 - 1) d_Model_letter_22 rfl ?_
    refine j_i2l (pc := 23) C (v := (nI c0 - 1).toInt64) d_Model_letter_23 rfl ?_
    refine j_callSi (pc := 24) C (c_isInx_ix l D y v2 c0 (by omega)) kw_Model_240 ks_Model_isIn ⟨by decide, by decide⟩ ⟨by decide, by decide⟩ (wr := [MB mo ma (nI t1) i2 i3 i4 i5 i6 i7 i8 i42 i49 i51 i53 i54 i59 i61 i64 i66 (nI t67) i76 i78, (ma 43, .inl (y 0, 8, .inl g43)), (ma 44, .inl (y 1, 36, .inr (.inl g44)))]) [] [0, 1, 2] rfl rfl (by decide) (by decide) (by decide) (As := [.long v2.toInt64, .long 0, .long ((nI c0 - 1).toInt64)]) (rest := []) rfl (nb rfl) rfl d_Model_letter_24 (fun r5 _ hr5 => ?_)
    refine j_ws (ws' := [MB mo ma (nI t1) i2 i3 i4 i5 i6 i7 i8 i42 i49 i51 i53 i54 i59 i61 i64 i66 (nI t67) i76 i78, (ma 43, .inl (y 0, 8, .inl g43)), (ma 44, .inl (y 1, 36, .inr (.inl g44)))]) rfl ?_
    rcases hr5 with ⟨rfl, xh8⟩ | ⟨rfl, j6, xh7, rfl⟩
    · refine j_if_eqT (pc := 27) C (tgt := 42) d_Model_letter_27 (by decide) (by decide) ?_
      refine j_iconst (pc := 42) C (v := (-1)) d_Model_letter_42 (by decide) ?_
      exact j_iret (pc := 43) C hr rfl () (Or.inl ⟨rfl, lok_n (fun _ j hj => xh8 j (by omega)) (fun e => absurd e (by decide))⟩) [0, 1, 2] rfl (by decide) (by decide) (by decide) d_Model_letter_43
    · refine j_if_eqF (pc := 27) C (tgt := 42) d_Model_letter_27 (by decide) (by decide) ?_
      refine j_iload_n (pc := 30) C d_Model_letter_30 rfl 3 rfl ?_
      refine j_i2l (pc := 31) C (v := v3.toInt64) d_Model_letter_31 rfl ?_
      refine j_lconst (pc := 32) C (v := 0) d_Model_letter_32 (by decide) ?_
      refine j_ldc2 (pc := 33) C (v := 5) (mt_7 (List.mem_of_getElem? (i := 51) rfl) rfl) d_Model_letter_33 ?_
      refine j_callSi (pc := 36) C (c_isInx_0_5 l D y v3) kw_Model_240 ks_Model_isIn ⟨by decide, by decide⟩ ⟨by decide, by decide⟩ (wr := [MB mo ma (nI t1) i2 i3 i4 i5 i6 i7 i8 i42 i49 i51 i53 i54 i59 i61 i64 i66 (nI t67) i76 i78, (ma 43, .inl (y 0, 8, .inl g43)), (ma 44, .inl (y 1, 36, .inr (.inl g44)))]) [] [0, 1, 2] rfl rfl (by decide) (by decide) (by decide) (As := [.long v3.toInt64, .long 0, .long 5]) (rest := []) rfl (nb rfl) rfl d_Model_letter_36 (fun r9 _ hr9 => ?_)
      refine j_ws (ws' := [MB mo ma (nI t1) i2 i3 i4 i5 i6 i7 i8 i42 i49 i51 i53 i54 i59 i61 i64 i66 (nI t67) i76 i78, (ma 43, .inl (y 0, 8, .inl g43)), (ma 44, .inl (y 1, 36, .inr (.inl g44)))]) rfl ?_
      rcases hr9 with ⟨rfl, xh12⟩ | ⟨rfl, j10, xh11, rfl⟩
      · refine j_if_neF (pc := 39) C (tgt := 44) d_Model_letter_39 (by decide) (by decide) ?_
        refine j_iconst (pc := 42) C (v := (-1)) d_Model_letter_42 (by decide) ?_
        exact j_iret (pc := 43) C hr rfl () (Or.inl ⟨rfl, lok_3 (fun q hq => xh12 q ⟨by omega, by omega⟩)⟩) [0, 1, 2] rfl (by decide) (by decide) (by decide) d_Model_letter_43
      · refine j_if_neT (pc := 39) C (tgt := 44) d_Model_letter_39 (by decide) (by decide) ?_
        refine j_aload_n (pc := 44) C d_Model_letter_44 rfl 0 rfl ?_
        refine j_get (pc := 45) C gf_Model_120 0 rfl rfl d_Model_letter_45 ?_
        refine j_bipush (pc := 48) C (v := 18) d_Model_letter_48 (by decide) ?_
        refine j_bipush (pc := 50) C (v := 9) d_Model_letter_50 (by decide) ?_
        refine j_iload_n (pc := 52) C d_Model_letter_52 rfl 1 rfl ?_
        refine j_imul (pc := 53) C (v := 0) d_Model_letter_53 (by decide) ?_
        refine j_iadd (pc := 54) C (v := 18) d_Model_letter_54 (by decide) ?_
        refine j_iload_n (pc := 55) C d_Model_letter_55 rfl 2 rfl ?_
        refine j_iadd (pc := 56) C (v := nI (18 + j6)) d_Model_letter_56 (nI_add _ _) ?_
        obtain ⟨xh13, xh14⟩ := nm_g (N := g44) hnm (show j6 < gt.s 9 by omega)
        refine j_lald (pc := 57) C 2 rfl (v := nL (pl27 (gt.nm 0 j6))) (vp_in_nI (by omega) (by decide)) (by rw [nI_clamp (by omega)]; exact xh13) d_Model_letter_57 ?_
        refine j_lstore (pc := 58) C (lv' := [(4, .long (nL (pl27 (gt.nm 0 j6)))), (0, .ref mo), (1, .int 0), (2, .int (nI j6)), (3, .int (nI j10))]) d_Model_letter_58 (by decide) rfl ?_
        refine j_iconst (pc := 60) C (v := 0) d_Model_letter_60 (by decide) ?_
        refine j_istore (pc := 61) C (lv' := [(6, .int 0), (4, .long (nL (pl27 (gt.nm 0 j6)))), (0, .ref mo), (1, .int 0), (2, .int (nI j6)), (3, .int (nI j10))]) d_Model_letter_61 (by decide) rfl ?_
        refine j_lload (pc := 63) C d_Model_letter_63 1 rfl ?_
        refine j_lstore (pc := 65) C (lv' := [(7, .long (nL (pl27 (gt.nm 0 j6)))), (6, .int 0), (4, .long (nL (pl27 (gt.nm 0 j6)))), (0, .ref mo), (1, .int 0), (2, .int (nI j6)), (3, .int (nI j10))]) d_Model_letter_65 (by decide) rfl ?_
        refine j_loop (α := Int64 × Nat × Nat) (fun a => a.2.2) (fun a => (a.2.2 ≤ (gt.nm 0 j6).length) ∧ (a.2.1 + a.2.2 = (gt.nm 0 j6).length) ∧ (a.1 = nL (pl27 ((gt.nm 0 j6).take a.2.2)))) (fun a => [MB mo ma (nI t1) i2 i3 i4 i5 i6 i7 i8 i42 i49 i51 i53 i54 i59 i61 i64 i66 (nI t67) i76 i78, (ma 43, .inl (y 0, 8, .inl g43)), (ma 44, .inl (y 1, 36, .inr (.inl g44)))]) (fun a => [(7, .long a.1), (6, .int (nI a.2.1)), (4, .long (nL (pl27 (gt.nm 0 j6)))), (0, .ref mo), (1, .int 0), (2, .int (nI j6)), (3, .int (nI j10))]) (nL (pl27 (gt.nm 0 j6)), 0, (gt.nm 0 j6).length) rfl rfl ⟨(Nat.le_refl _), (Nat.zero_add _), (by rw [List.take_length])⟩ ?_
        rintro ⟨zz, nn, mz⟩ hP22 ih23
        obtain ⟨hm__, hn__, hz__⟩ := hP22
        have hm_ : mz ≤ (gt.nm 0 j6).length := hm__
        have hn_ : nn + mz = (gt.nm 0 j6).length := hn__
        have hz_ : zz = nL (pl27 ((gt.nm 0 j6).take mz)) := hz__
        refine j_ws (ws' := [MB mo ma (nI t1) i2 i3 i4 i5 i6 i7 i8 i42 i49 i51 i53 i54 i59 i61 i64 i66 (nI t67) i76 i78, (ma 43, .inl (y 0, 8, .inl g43)), (ma 44, .inl (y 1, 36, .inr (.inl g44)))]) rfl ?_
        refine j_lv (lv' := [(7, .long zz), (6, .int (nI nn)), (4, .long (nL (pl27 (gt.nm 0 j6)))), (0, .ref mo), (1, .int 0), (2, .int (nI j6)), (3, .int (nI j10))]) rfl ?_
        refine j_lload (pc := 67) C d_Model_letter_67 0 rfl ?_
        refine j_lconst (pc := 69) C (v := 0) d_Model_letter_69 (by decide) ?_
        refine j_lcmp (pc := 70) C (v := lg_cmp zz 0) d_Model_letter_70 rfl ?_
        refine j_if_le (pc := 71) C (tgt := 88) d_Model_letter_71 (by decide) (fun c24 => ?_) (fun c24 => ?_)
        · have hm0 : mz = 0 := l27_e xh14 hz_ hm_ c24
          have hl6 : (gt.nm 0 j6).length ≤ 6 := xh14.1
          refine j_iload_n (pc := 88) C d_Model_letter_88 rfl 6 rfl ?_
          refine j_iload (pc := 89) C d_Model_letter_89 1 rfl ?_
          by_cases c25 : j10 < nn
          · refine j_icmp_ltT (pc := 91) C (tgt := 96) d_Model_letter_91 (by decide) (show nI j10 < nI nn from nI_lt (by omega) (by omega)) ?_
            refine j_iload (pc := 96) C d_Model_letter_96 1 rfl ?_
            refine j_iconst (pc := 98) C (v := 1) d_Model_letter_98 (by decide) ?_
            refine j_isub (pc := 99) C (v := nI (nn - 1)) d_Model_letter_99 (pk_sub (a := nn) (b := 1) (by omega)) ?_
            refine j_istore (pc := 100) C (lv' := [(7, .int (nI (nn - 1))), (6, .int (nI nn)), (4, .long (nL (pl27 (gt.nm 0 j6)))), (0, .ref mo), (1, .int 0), (2, .int (nI j6)), (3, .int (nI j10))]) d_Model_letter_100 (by decide) rfl ?_
            refine j_loop (α := Nat × Int64) (fun a => a.1) (fun a => (a.1 < (gt.nm 0 j6).length) ∧ (j10 ≤ a.1) ∧ (a.2 = nL (pl27 ((gt.nm 0 j6).take (a.1 + 1))))) (fun a => [MB mo ma (nI t1) i2 i3 i4 i5 i6 i7 i8 i42 i49 i51 i53 i54 i59 i61 i64 i66 (nI t67) i76 i78, (ma 43, .inl (y 0, 8, .inl g43)), (ma 44, .inl (y 1, 36, .inr (.inl g44)))]) (fun a => [(7, .int (nI a.1)), (6, .int (nI nn)), (4, .long a.2), (0, .ref mo), (1, .int 0), (2, .int (nI j6)), (3, .int (nI j10))]) ((nn - 1), nL (pl27 (gt.nm 0 j6))) rfl rfl ⟨(show (nn - 1) < (gt.nm 0 j6).length by omega), (show j10 ≤ (nn - 1) by omega), (show (nL (pl27 (gt.nm 0 j6))) = nL (pl27 ((gt.nm 0 j6).take ((nn - 1) + 1))) by rw [show (nn - 1) + 1 = (gt.nm 0 j6).length by omega, List.take_length])⟩ ?_
            rintro ⟨qz, vz⟩ hP27 ih28
            obtain ⟨hq__, hkq__, hv__⟩ := hP27
            have hq_ : qz < (gt.nm 0 j6).length := hq__
            have hkq_ : j10 ≤ qz := hkq__
            have hv_ : vz = nL (pl27 ((gt.nm 0 j6).take (qz + 1))) := hv__
            refine j_ws (ws' := [MB mo ma (nI t1) i2 i3 i4 i5 i6 i7 i8 i42 i49 i51 i53 i54 i59 i61 i64 i66 (nI t67) i76 i78, (ma 43, .inl (y 0, 8, .inl g43)), (ma 44, .inl (y 1, 36, .inr (.inl g44)))]) rfl ?_
            refine j_lv (lv' := [(7, .int (nI qz)), (6, .int (nI nn)), (4, .long vz), (0, .ref mo), (1, .int 0), (2, .int (nI j6)), (3, .int (nI j10))]) rfl ?_
            refine j_iload (pc := 102) C d_Model_letter_102 0 rfl ?_
            refine j_iload_n (pc := 104) C d_Model_letter_104 rfl 6 rfl ?_
            by_cases c29 : qz ≤ j10
            · refine j_icmp_leT (pc := 105) C (tgt := 122) d_Model_letter_105 (by decide) (show nI qz ≤ nI j10 from nI_le (by omega) (by omega)) ?_
              refine j_lload (pc := 122) C d_Model_letter_122 2 rfl ?_
              refine j_ldc2 (pc := 124) C (v := 27) (mt_6 (List.mem_of_getElem? (i := 169) rfl) rfl) d_Model_letter_124 ?_
              refine j_lrem (pc := 127) C (v := vz - vz / 27 * 27) d_Model_letter_127 (by decide) rfl ?_
              refine j_l2i (pc := 128) C (v := (vz - vz / 27 * 27).toInt32) d_Model_letter_128 rfl ?_
              exact j_iret (pc := 129) C hr rfl () (Or.inr ⟨j6, j10, by omega, rfl, rfl, Or.inl ⟨rfl, by omega, (by rw [show j10 = qz by omega]; exact l27_r xh14 hv_ hq_)⟩⟩) [0, 1, 2] rfl (by decide) (by decide) (by decide) d_Model_letter_129
            · refine j_icmp_leF (pc := 105) C (tgt := 122) d_Model_letter_105 (by decide) (show ¬ nI qz ≤ nI j10 from nI_ge (by omega) (by omega)) ?_
              refine j_lload (pc := 108) C d_Model_letter_108 2 rfl ?_
              refine j_ldc2 (pc := 110) C (v := 27) (mt_6 (List.mem_of_getElem? (i := 169) rfl) rfl) d_Model_letter_110 ?_
              refine j_ldiv (pc := 113) C (v := vz / 27) d_Model_letter_113 (by decide) rfl ?_
              refine j_lstore (pc := 114) C (lv' := [(4, .long (vz / 27)), (7, .int (nI qz)), (6, .int (nI nn)), (0, .ref mo), (1, .int 0), (2, .int (nI j6)), (3, .int (nI j10))]) d_Model_letter_114 (by decide) rfl ?_
              refine j_iinc (pc := 116) C (v := nI (qz - 1)) (lv' := [(7, .int (nI (qz - 1))), (4, .long (vz / 27)), (6, .int (nI nn)), (0, .ref mo), (1, .int 0), (2, .int (nI j6)), (3, .int (nI j10))]) d_Model_letter_116 1 rfl (nI_dn (by omega)) (by decide) rfl ?_
              refine j_goto (pc := 119) C (tgt := 102) d_Model_letter_119 (by decide) ?_
              refine j_locs (lv' := [(7, .int (nI (qz - 1))), (6, .int (nI nn)), (4, .long (vz / 27)), (0, .ref mo), (1, .int 0), (2, .int (nI j6)), (3, .int (nI j10))]) [0, 2, 1, 3, 4, 5, 6] rfl ?_
              exact ih28 ((qz - 1), vz / 27) ⟨(show (qz - 1) < (gt.nm 0 j6).length by omega), (show j10 ≤ (qz - 1) by omega), (l27_q xh14 hv_ hq_ (by omega))⟩ (show (qz - 1) < qz by omega)
          · refine j_icmp_ltF (pc := 91) C (tgt := 96) d_Model_letter_91 (by decide) (show ¬ nI j10 < nI nn from nI_nlt (by omega) (by omega)) ?_
            refine j_iconst (pc := 94) C (v := 0) d_Model_letter_94 (by decide) ?_
            exact j_iret (pc := 95) C hr rfl () (Or.inr ⟨j6, j10, by omega, rfl, rfl, Or.inl ⟨rfl, by omega, (l27_0 (by omega))⟩⟩) [0, 1, 2] rfl (by decide) (by decide) (by decide) d_Model_letter_95
        · refine j_iinc (pc := 74) C (v := nI (nn + 1)) (lv' := [(6, .int (nI (nn + 1))), (7, .long zz), (4, .long (nL (pl27 (gt.nm 0 j6)))), (0, .ref mo), (1, .int 0), (2, .int (nI j6)), (3, .int (nI j10))]) d_Model_letter_74 1 rfl (nI_add _ _) (by decide) rfl ?_
          have xh30 := l27_d xh14 hz_ hm_ c24
          have := xh30.1
          refine j_lload (pc := 77) C d_Model_letter_77 1 rfl ?_
          refine j_ldc2 (pc := 79) C (v := 27) (mt_6 (List.mem_of_getElem? (i := 169) rfl) rfl) d_Model_letter_79 ?_
          refine j_ldiv (pc := 82) C (v := zz / 27) d_Model_letter_82 (by decide) rfl ?_
          refine j_lstore (pc := 83) C (lv' := [(7, .long (zz / 27)), (6, .int (nI (nn + 1))), (4, .long (nL (pl27 (gt.nm 0 j6)))), (0, .ref mo), (1, .int 0), (2, .int (nI j6)), (3, .int (nI j10))]) d_Model_letter_83 (by decide) rfl ?_
          refine j_goto (pc := 85) C (tgt := 67) d_Model_letter_85 (by decide) ?_
          exact ih23 (zz / 27, (nn + 1), (mz - 1)) ⟨(show (mz - 1) ≤ (gt.nm 0 j6).length by omega), (show (nn + 1) + (mz - 1) = (gt.nm 0 j6).length by omega), xh30.2⟩ (show (mz - 1) < mz by omega)
  · refine j_if_eqF (pc := 7) C (tgt := 42) d_Model_letter_7 (by decide) (by decide) ?_
    refine j_iload_n (pc := 10) C d_Model_letter_10 rfl 2 rfl ?_
    refine j_i2l (pc := 11) C (v := v2.toInt64) d_Model_letter_11 rfl ?_
    refine j_lconst (pc := 12) C (v := 0) d_Model_letter_12 (by decide) ?_
    refine j_aload_n (pc := 13) C d_Model_letter_13 rfl 0 rfl ?_
    refine j_get (pc := 14) C gf_Model_117 0 rfl rfl d_Model_letter_14 ?_
    refine j_iconst (pc := 17) C (v := 4) d_Model_letter_17 (by decide) ?_
    refine j_iload_n (pc := 18) C d_Model_letter_18 rfl 1 rfl ?_
    refine j_iadd (pc := 19) C (v := 5) d_Model_letter_19 (by decide) ?_
    refine j_iald (pc := 20) C 1 rfl (v := nI c1) (vin (by decide)) (by exact hc1) d_Model_letter_20 ?_
    refine j_iconst (pc := 21) C (v := 1) d_Model_letter_21 (by decide) ?_
    refine j_isub (pc := 22) C (v := nI c1 - 1) d_Model_letter_22 rfl ?_
    refine j_i2l (pc := 23) C (v := (nI c1 - 1).toInt64) d_Model_letter_23 rfl ?_
    refine j_callSi (pc := 24) C (c_isInx_ix l D y v2 c1 (by omega)) kw_Model_240 ks_Model_isIn ⟨by decide, by decide⟩ ⟨by decide, by decide⟩ (wr := [MB mo ma (nI t1) i2 i3 i4 i5 i6 i7 i8 i42 i49 i51 i53 i54 i59 i61 i64 i66 (nI t67) i76 i78, (ma 43, .inl (y 0, 8, .inl g43)), (ma 44, .inl (y 1, 36, .inr (.inl g44)))]) [] [0, 1, 2] rfl rfl (by decide) (by decide) (by decide) (As := [.long v2.toInt64, .long 0, .long ((nI c1 - 1).toInt64)]) (rest := []) rfl (nb rfl) rfl d_Model_letter_24 (fun r31 _ hr31 => ?_)
    refine j_ws (ws' := [MB mo ma (nI t1) i2 i3 i4 i5 i6 i7 i8 i42 i49 i51 i53 i54 i59 i61 i64 i66 (nI t67) i76 i78, (ma 43, .inl (y 0, 8, .inl g43)), (ma 44, .inl (y 1, 36, .inr (.inl g44)))]) rfl ?_
    rcases hr31 with ⟨rfl, xh34⟩ | ⟨rfl, j32, xh33, rfl⟩
    · refine j_if_eqT (pc := 27) C (tgt := 42) d_Model_letter_27 (by decide) (by decide) ?_
      refine j_iconst (pc := 42) C (v := (-1)) d_Model_letter_42 (by decide) ?_
      exact j_iret (pc := 43) C hr rfl () (Or.inl ⟨rfl, lok_n (fun e => absurd e (by decide)) (fun _ j hj => xh34 j (by omega))⟩) [0, 1, 2] rfl (by decide) (by decide) (by decide) d_Model_letter_43
    · refine j_if_eqF (pc := 27) C (tgt := 42) d_Model_letter_27 (by decide) (by decide) ?_
      refine j_iload_n (pc := 30) C d_Model_letter_30 rfl 3 rfl ?_
      refine j_i2l (pc := 31) C (v := v3.toInt64) d_Model_letter_31 rfl ?_
      refine j_lconst (pc := 32) C (v := 0) d_Model_letter_32 (by decide) ?_
      refine j_ldc2 (pc := 33) C (v := 5) (mt_7 (List.mem_of_getElem? (i := 51) rfl) rfl) d_Model_letter_33 ?_
      refine j_callSi (pc := 36) C (c_isInx_0_5 l D y v3) kw_Model_240 ks_Model_isIn ⟨by decide, by decide⟩ ⟨by decide, by decide⟩ (wr := [MB mo ma (nI t1) i2 i3 i4 i5 i6 i7 i8 i42 i49 i51 i53 i54 i59 i61 i64 i66 (nI t67) i76 i78, (ma 43, .inl (y 0, 8, .inl g43)), (ma 44, .inl (y 1, 36, .inr (.inl g44)))]) [] [0, 1, 2] rfl rfl (by decide) (by decide) (by decide) (As := [.long v3.toInt64, .long 0, .long 5]) (rest := []) rfl (nb rfl) rfl d_Model_letter_36 (fun r35 _ hr35 => ?_)
      refine j_ws (ws' := [MB mo ma (nI t1) i2 i3 i4 i5 i6 i7 i8 i42 i49 i51 i53 i54 i59 i61 i64 i66 (nI t67) i76 i78, (ma 43, .inl (y 0, 8, .inl g43)), (ma 44, .inl (y 1, 36, .inr (.inl g44)))]) rfl ?_
      rcases hr35 with ⟨rfl, xh38⟩ | ⟨rfl, j36, xh37, rfl⟩
      · refine j_if_neF (pc := 39) C (tgt := 44) d_Model_letter_39 (by decide) (by decide) ?_
        refine j_iconst (pc := 42) C (v := (-1)) d_Model_letter_42 (by decide) ?_
        exact j_iret (pc := 43) C hr rfl () (Or.inl ⟨rfl, lok_3 (fun q hq => xh38 q ⟨by omega, by omega⟩)⟩) [0, 1, 2] rfl (by decide) (by decide) (by decide) d_Model_letter_43
      · refine j_if_neT (pc := 39) C (tgt := 44) d_Model_letter_39 (by decide) (by decide) ?_
        refine j_aload_n (pc := 44) C d_Model_letter_44 rfl 0 rfl ?_
        refine j_get (pc := 45) C gf_Model_120 0 rfl rfl d_Model_letter_45 ?_
        refine j_bipush (pc := 48) C (v := 18) d_Model_letter_48 (by decide) ?_
        refine j_bipush (pc := 50) C (v := 9) d_Model_letter_50 (by decide) ?_
        refine j_iload_n (pc := 52) C d_Model_letter_52 rfl 1 rfl ?_
        refine j_imul (pc := 53) C (v := 9) d_Model_letter_53 (by decide) ?_
        refine j_iadd (pc := 54) C (v := 27) d_Model_letter_54 (by decide) ?_
        refine j_iload_n (pc := 55) C d_Model_letter_55 rfl 2 rfl ?_
        refine j_iadd (pc := 56) C (v := nI (27 + j32)) d_Model_letter_56 (nI_add _ _) ?_
        obtain ⟨xh39, xh40⟩ := nm_v (N := g44) hnm (show j32 < gt.s 4 by omega)
        refine j_lald (pc := 57) C 2 rfl (v := nL (pl27 (gt.nm 1 j32))) (vp_in_nI (by omega) (by decide)) (by rw [nI_clamp (by omega)]; exact xh39) d_Model_letter_57 ?_
        refine j_lstore (pc := 58) C (lv' := [(4, .long (nL (pl27 (gt.nm 1 j32)))), (0, .ref mo), (1, .int 1), (2, .int (nI j32)), (3, .int (nI j36))]) d_Model_letter_58 (by decide) rfl ?_
        refine j_iconst (pc := 60) C (v := 0) d_Model_letter_60 (by decide) ?_
        refine j_istore (pc := 61) C (lv' := [(6, .int 0), (4, .long (nL (pl27 (gt.nm 1 j32)))), (0, .ref mo), (1, .int 1), (2, .int (nI j32)), (3, .int (nI j36))]) d_Model_letter_61 (by decide) rfl ?_
        refine j_lload (pc := 63) C d_Model_letter_63 1 rfl ?_
        refine j_lstore (pc := 65) C (lv' := [(7, .long (nL (pl27 (gt.nm 1 j32)))), (6, .int 0), (4, .long (nL (pl27 (gt.nm 1 j32)))), (0, .ref mo), (1, .int 1), (2, .int (nI j32)), (3, .int (nI j36))]) d_Model_letter_65 (by decide) rfl ?_
        refine j_loop (α := Int64 × Nat × Nat) (fun a => a.2.2) (fun a => (a.2.2 ≤ (gt.nm 1 j32).length) ∧ (a.2.1 + a.2.2 = (gt.nm 1 j32).length) ∧ (a.1 = nL (pl27 ((gt.nm 1 j32).take a.2.2)))) (fun a => [MB mo ma (nI t1) i2 i3 i4 i5 i6 i7 i8 i42 i49 i51 i53 i54 i59 i61 i64 i66 (nI t67) i76 i78, (ma 43, .inl (y 0, 8, .inl g43)), (ma 44, .inl (y 1, 36, .inr (.inl g44)))]) (fun a => [(7, .long a.1), (6, .int (nI a.2.1)), (4, .long (nL (pl27 (gt.nm 1 j32)))), (0, .ref mo), (1, .int 1), (2, .int (nI j32)), (3, .int (nI j36))]) (nL (pl27 (gt.nm 1 j32)), 0, (gt.nm 1 j32).length) rfl rfl ⟨(Nat.le_refl _), (Nat.zero_add _), (by rw [List.take_length])⟩ ?_
        rintro ⟨zz, nn, mz⟩ hP48 ih49
        obtain ⟨hm__, hn__, hz__⟩ := hP48
        have hm_ : mz ≤ (gt.nm 1 j32).length := hm__
        have hn_ : nn + mz = (gt.nm 1 j32).length := hn__
        have hz_ : zz = nL (pl27 ((gt.nm 1 j32).take mz)) := hz__
        refine j_ws (ws' := [MB mo ma (nI t1) i2 i3 i4 i5 i6 i7 i8 i42 i49 i51 i53 i54 i59 i61 i64 i66 (nI t67) i76 i78, (ma 43, .inl (y 0, 8, .inl g43)), (ma 44, .inl (y 1, 36, .inr (.inl g44)))]) rfl ?_
        refine j_lv (lv' := [(7, .long zz), (6, .int (nI nn)), (4, .long (nL (pl27 (gt.nm 1 j32)))), (0, .ref mo), (1, .int 1), (2, .int (nI j32)), (3, .int (nI j36))]) rfl ?_
        refine j_lload (pc := 67) C d_Model_letter_67 0 rfl ?_
        refine j_lconst (pc := 69) C (v := 0) d_Model_letter_69 (by decide) ?_
        refine j_lcmp (pc := 70) C (v := lg_cmp zz 0) d_Model_letter_70 rfl ?_
        refine j_if_le (pc := 71) C (tgt := 88) d_Model_letter_71 (by decide) (fun c50 => ?_) (fun c50 => ?_)
        · have hm0 : mz = 0 := l27_e xh40 hz_ hm_ c50
          have hl6 : (gt.nm 1 j32).length ≤ 6 := xh40.1
          refine j_iload_n (pc := 88) C d_Model_letter_88 rfl 6 rfl ?_
          refine j_iload (pc := 89) C d_Model_letter_89 1 rfl ?_
          by_cases c51 : j36 < nn
          · refine j_icmp_ltT (pc := 91) C (tgt := 96) d_Model_letter_91 (by decide) (show nI j36 < nI nn from nI_lt (by omega) (by omega)) ?_
            refine j_iload (pc := 96) C d_Model_letter_96 1 rfl ?_
            refine j_iconst (pc := 98) C (v := 1) d_Model_letter_98 (by decide) ?_
            refine j_isub (pc := 99) C (v := nI (nn - 1)) d_Model_letter_99 (pk_sub (a := nn) (b := 1) (by omega)) ?_
            refine j_istore (pc := 100) C (lv' := [(7, .int (nI (nn - 1))), (6, .int (nI nn)), (4, .long (nL (pl27 (gt.nm 1 j32)))), (0, .ref mo), (1, .int 1), (2, .int (nI j32)), (3, .int (nI j36))]) d_Model_letter_100 (by decide) rfl ?_
            refine j_loop (α := Nat × Int64) (fun a => a.1) (fun a => (a.1 < (gt.nm 1 j32).length) ∧ (j36 ≤ a.1) ∧ (a.2 = nL (pl27 ((gt.nm 1 j32).take (a.1 + 1))))) (fun a => [MB mo ma (nI t1) i2 i3 i4 i5 i6 i7 i8 i42 i49 i51 i53 i54 i59 i61 i64 i66 (nI t67) i76 i78, (ma 43, .inl (y 0, 8, .inl g43)), (ma 44, .inl (y 1, 36, .inr (.inl g44)))]) (fun a => [(7, .int (nI a.1)), (6, .int (nI nn)), (4, .long a.2), (0, .ref mo), (1, .int 1), (2, .int (nI j32)), (3, .int (nI j36))]) ((nn - 1), nL (pl27 (gt.nm 1 j32))) rfl rfl ⟨(show (nn - 1) < (gt.nm 1 j32).length by omega), (show j36 ≤ (nn - 1) by omega), (show (nL (pl27 (gt.nm 1 j32))) = nL (pl27 ((gt.nm 1 j32).take ((nn - 1) + 1))) by rw [show (nn - 1) + 1 = (gt.nm 1 j32).length by omega, List.take_length])⟩ ?_
            rintro ⟨qz, vz⟩ hP53 ih54
            obtain ⟨hq__, hkq__, hv__⟩ := hP53
            have hq_ : qz < (gt.nm 1 j32).length := hq__
            have hkq_ : j36 ≤ qz := hkq__
            have hv_ : vz = nL (pl27 ((gt.nm 1 j32).take (qz + 1))) := hv__
            refine j_ws (ws' := [MB mo ma (nI t1) i2 i3 i4 i5 i6 i7 i8 i42 i49 i51 i53 i54 i59 i61 i64 i66 (nI t67) i76 i78, (ma 43, .inl (y 0, 8, .inl g43)), (ma 44, .inl (y 1, 36, .inr (.inl g44)))]) rfl ?_
            refine j_lv (lv' := [(7, .int (nI qz)), (6, .int (nI nn)), (4, .long vz), (0, .ref mo), (1, .int 1), (2, .int (nI j32)), (3, .int (nI j36))]) rfl ?_
            refine j_iload (pc := 102) C d_Model_letter_102 0 rfl ?_
            refine j_iload_n (pc := 104) C d_Model_letter_104 rfl 6 rfl ?_
            by_cases c55 : qz ≤ j36
            · refine j_icmp_leT (pc := 105) C (tgt := 122) d_Model_letter_105 (by decide) (show nI qz ≤ nI j36 from nI_le (by omega) (by omega)) ?_
              refine j_lload (pc := 122) C d_Model_letter_122 2 rfl ?_
              refine j_ldc2 (pc := 124) C (v := 27) (mt_6 (List.mem_of_getElem? (i := 169) rfl) rfl) d_Model_letter_124 ?_
              refine j_lrem (pc := 127) C (v := vz - vz / 27 * 27) d_Model_letter_127 (by decide) rfl ?_
              refine j_l2i (pc := 128) C (v := (vz - vz / 27 * 27).toInt32) d_Model_letter_128 rfl ?_
              exact j_iret (pc := 129) C hr rfl () (Or.inr ⟨j32, j36, by omega, rfl, rfl, Or.inr ⟨rfl, by omega, (by rw [show j36 = qz by omega]; exact l27_r xh40 hv_ hq_)⟩⟩) [0, 1, 2] rfl (by decide) (by decide) (by decide) d_Model_letter_129
            · refine j_icmp_leF (pc := 105) C (tgt := 122) d_Model_letter_105 (by decide) (show ¬ nI qz ≤ nI j36 from nI_ge (by omega) (by omega)) ?_
              refine j_lload (pc := 108) C d_Model_letter_108 2 rfl ?_
              refine j_ldc2 (pc := 110) C (v := 27) (mt_6 (List.mem_of_getElem? (i := 169) rfl) rfl) d_Model_letter_110 ?_
              refine j_ldiv (pc := 113) C (v := vz / 27) d_Model_letter_113 (by decide) rfl ?_
              refine j_lstore (pc := 114) C (lv' := [(4, .long (vz / 27)), (7, .int (nI qz)), (6, .int (nI nn)), (0, .ref mo), (1, .int 1), (2, .int (nI j32)), (3, .int (nI j36))]) d_Model_letter_114 (by decide) rfl ?_
              refine j_iinc (pc := 116) C (v := nI (qz - 1)) (lv' := [(7, .int (nI (qz - 1))), (4, .long (vz / 27)), (6, .int (nI nn)), (0, .ref mo), (1, .int 1), (2, .int (nI j32)), (3, .int (nI j36))]) d_Model_letter_116 1 rfl (nI_dn (by omega)) (by decide) rfl ?_
              refine j_goto (pc := 119) C (tgt := 102) d_Model_letter_119 (by decide) ?_
              refine j_locs (lv' := [(7, .int (nI (qz - 1))), (6, .int (nI nn)), (4, .long (vz / 27)), (0, .ref mo), (1, .int 1), (2, .int (nI j32)), (3, .int (nI j36))]) [0, 2, 1, 3, 4, 5, 6] rfl ?_
              exact ih54 ((qz - 1), vz / 27) ⟨(show (qz - 1) < (gt.nm 1 j32).length by omega), (show j36 ≤ (qz - 1) by omega), (l27_q xh40 hv_ hq_ (by omega))⟩ (show (qz - 1) < qz by omega)
          · refine j_icmp_ltF (pc := 91) C (tgt := 96) d_Model_letter_91 (by decide) (show ¬ nI j36 < nI nn from nI_nlt (by omega) (by omega)) ?_
            refine j_iconst (pc := 94) C (v := 0) d_Model_letter_94 (by decide) ?_
            exact j_iret (pc := 95) C hr rfl () (Or.inr ⟨j32, j36, by omega, rfl, rfl, Or.inr ⟨rfl, by omega, (l27_0 (by omega))⟩⟩) [0, 1, 2] rfl (by decide) (by decide) (by decide) d_Model_letter_95
        · refine j_iinc (pc := 74) C (v := nI (nn + 1)) (lv' := [(6, .int (nI (nn + 1))), (7, .long zz), (4, .long (nL (pl27 (gt.nm 1 j32)))), (0, .ref mo), (1, .int 1), (2, .int (nI j32)), (3, .int (nI j36))]) d_Model_letter_74 1 rfl (nI_add _ _) (by decide) rfl ?_
          have xh56 := l27_d xh40 hz_ hm_ c50
          have := xh56.1
          refine j_lload (pc := 77) C d_Model_letter_77 1 rfl ?_
          refine j_ldc2 (pc := 79) C (v := 27) (mt_6 (List.mem_of_getElem? (i := 169) rfl) rfl) d_Model_letter_79 ?_
          refine j_ldiv (pc := 82) C (v := zz / 27) d_Model_letter_82 (by decide) rfl ?_
          refine j_lstore (pc := 83) C (lv' := [(7, .long (zz / 27)), (6, .int (nI (nn + 1))), (4, .long (nL (pl27 (gt.nm 1 j32)))), (0, .ref mo), (1, .int 1), (2, .int (nI j32)), (3, .int (nI j36))]) d_Model_letter_83 (by decide) rfl ?_
          refine j_goto (pc := 85) C (tgt := 67) d_Model_letter_85 (by decide) ?_
          exact ih49 (zz / 27, (nn + 1), (mz - 1)) ⟨(show (mz - 1) ≤ (gt.nm 1 j32).length by omega), (show (nn + 1) + (mz - 1) = (gt.nm 1 j32).length by omega), xh56.2⟩ (show (mz - 1) < mz by omega)
