def tby (tx : Nat → Nat) : Nat → Int32 := fun j => nI (tx j)
def nL (n : Nat) : Int64 := Int64.ofNat n
/-- the last of the first k words that is v -/
def wlF (ww : Nat → Int64) (v : Int64) : Nat → Int32
  | 0 => -1
  | k + 1 => if ww k = v then nI k else wlF ww v k
theorem srt_1 {c : Nat} (h : 97 ≤ c) (h2 : c ≤ 122) : srt c = 1 := if_pos ⟨h, h2⟩
theorem srt_2 {c : Nat} (h : 48 ≤ c) (h2 : c ≤ 57) : srt c = 2 := by
  unfold srt
  rw [if_neg (by omega), if_pos ⟨h, h2⟩]
theorem srt_3 {c : Nat} (h : ¬ (97 ≤ c ∧ c ≤ 122)) (h2 : ¬ (48 ≤ c ∧ c ≤ 57)) : srt c = 3 := by
  unfold srt
  rw [if_neg h, if_neg h2]
theorem srt_1' {c : Nat} (h : srt c = 1) : 97 ≤ c ∧ c ≤ 122 := by
  unfold srt at h
  split at h
  · assumption
  · split at h <;> omega
theorem srt_2' {c : Nat} (h : srt c = 2) : 48 ≤ c ∧ c ≤ 57 := by
  unfold srt at h
  split at h
  · omega
  · split at h
    · assumption
    · omega
theorem srt_le (c : Nat) : 1 ≤ srt c ∧ srt c ≤ 3 := by
  unfold srt
  split
  · omega
  · split <;> omega
/-! a word's letters, five bits each -/
theorem pkn_lt (b : Nat → Nat) (q j : Nat) (h : ∀ i, i < j → b (q + i) ≤ 122) : pkn b q j < 32 ^ j := by
  induction j with
  | zero => exact Nat.lt_of_lt_of_le (by decide : 0 < 1) (by decide)
  | succ j ih =>
    have a := ih (fun i hi => h i (by omega))
    have c := h j (by omega)
    have d : b (q + j) - 96 ≤ 31 := by omega
    have e := Nat.mul_le_mul_right (32 ^ j) d
    rw [pkn, Nat.pow_succ]
    omega
theorem nL_or {a c : Nat} : nL a ||| nL c = nL (a ||| c) := by
  apply Int64.toBitVec_inj.mp
  simp only [nL, Int64.toBitVec_or, Int64.toBitVec_ofNat]
  exact (BitVec.ofNat_or).symm
theorem nL_shl {x j : Nat} (hj : j < 12) : ((nI x).toInt64 <<< ((nI (5 * j)).toInt64 &&& 63)) = (nI x).toInt64 <<< (nL (5 * j)) := by
  have : j = 0 ∨ j = 1 ∨ j = 2 ∨ j = 3 ∨ j = 4 ∨ j = 5 ∨ j = 6 ∨ j = 7 ∨ j = 8 ∨ j = 9 ∨ j = 10 ∨ j = 11 := by omega
  rcases this with rfl | rfl | rfl | rfl | rfl | rfl | rfl | rfl | rfl | rfl | rfl | rfl <;> rfl
theorem nI_64 {x : Nat} (h : x < 2 ^ 31) : (nI x).toInt64 = nL x := by
  apply Int64.toInt_inj.mp
  rw [Int32.toInt_toInt64, nI_toInt h]
  exact (Int64.toInt_ofNat_of_lt (by omega)).symm
theorem nL_sh {x k : Nat} (hk : k < 64) : nL x <<< nL k = nL (x <<< k) := by
  apply Int64.toBitVec_inj.mp
  have e : (nL k).toBitVec.smod 64 = BitVec.ofNat 64 k := by
    have : ∀ k, k < 64 → (BitVec.ofNat 64 k).smod 64 = BitVec.ofNat 64 k := by decide
    exact this k hk
  have q : ∀ z, (nL z).toBitVec = BitVec.ofNat 64 z := fun z => rfl
  rw [Int64.toBitVec_shiftLeft, e, q, q]
  rw [BitVec.shiftLeft_eq', BitVec.toNat_ofNat, Nat.mod_eq_of_lt (by omega)]
  apply BitVec.eq_of_toNat_eq
  simp only [BitVec.toNat_shiftLeft, BitVec.toNat_ofNat, Nat.shiftLeft_eq]
  rw [Nat.mod_mul_mod]
theorem or_pk {b : Nat → Nat} {rs qz k : Nat} {lz : Int64} (hl : lz = nL (pkn b rs (qz - rs))) (h0 : rs ≤ qz) (h1 : qz < rs + 12) (h2 : ∀ i, rs ≤ i → i ≤ qz → 97 ≤ b i ∧ b i ≤ 122) (hk : k = qz - rs) : lz ||| ((nI (b qz - 97 + 1)).toInt64 <<< ((nI (5 * k)).toInt64 &&& 63)) = nL (pkn b rs (qz + 1 - rs)) := by
  have hb := h2 qz h0 (Nat.le_refl _)
  rw [nL_shl (by omega), nI_64 (by omega), nL_sh (by omega), hl, nL_or]
  congr 1
  rw [show qz + 1 - rs = (qz - rs) + 1 by omega, pkn, show rs + (qz - rs) = qz by omega, hk]
  have hlt := pkn_lt b rs (qz - rs) (fun i hi => (h2 (rs + i) (by omega) (by omega)).2)
  have e : (32 : Nat) ^ (qz - rs) = 2 ^ (5 * (qz - rs)) := by rw [Nat.pow_mul]
  rw [e] at hlt ⊢
  rw [Nat.or_comm, ← Nat.shiftLeft_add_eq_or_of_lt hlt, Nat.shiftLeft_eq, show b qz - 97 + 1 = b qz - 96 by omega]
  omega
/-! the reader as it stands, in the words of the text -/
/-- what stands next behind p, g: whether a blank is wanted there -/
def CL (tx : Nat → Nat) (k p g : Nat) (ra rs : Nat) (so : Int32) (le : Int64) (wo nu si : Int32) : Prop :=
  ra = ten tx k p g ∧ rs = tq tx k p ∧ so = nI (tsr tx k p g) ∧ (¬ tsr tx k p g = 0 → si = nI (tx (tq tx k p))) ∧
  (tsr tx k p g = 1 → le = nL (pkn tx (tq tx k p) (min 12 (ten tx k p g - tq tx k p))) ∧ (∀ w, w < 33 → (wo = nI w ↔ tl tx (tq tx k p) (ten tx k p g) = owf w)) ∧ (wo = -1 ∨ ∃ w, w < 33 ∧ wo = nI w)) ∧
  (tsr tx k p g = 2 → nu = nI (tvn tx (tq tx k p) (min 4 (ten tx k p g - tq tx k p))))
def CR (tx : Nat → Nat) (k : Nat) (x : PS) (fa pl : Int32) (ra rs : Nat) (so : Int32) (le : Int64) (wo nu si : Int32) : Prop :=
  fa = nI x.1 ∧ x.1 ≤ 5 ∧ ((x.1 = 0 ∧ pl = -1 ∧ x.2.2.1 ≤ k ∧ CL tx k x.2.2.1 x.2.2.2 ra rs so le wo nu si) ∨ (¬ x.1 = 0 ∧ pl = nI x.2.1 ∧ x.2.1 ≤ k ∧ ra = k ∧ rs = k ∧ so = 0))
theorem nI_z {n : Nat} (h : n < 2 ^ 31) : nI n = 0 ↔ n = 0 := nI_eq (b := 0) h (by decide)
section CRL
variable {tx : Nat → Nat} {k g : Nat} {x : PS} {fa pl : Int32} {ra rs : Nat} {so : Int32} {le : Int64} {wo nu si : Int32}
theorem cr_z (h : CR tx k x fa pl ra rs so le wo nu si) : fa = 0 ↔ x.1 = 0 := by
  obtain ⟨a, c, _⟩ := h
  rw [a]
  exact nI_z (by omega)
theorem cr_fail1 (h : CR tx k x fa pl ra rs so le wo nu si) (h0 : fa = 0) {kd pp : Nat} (h1 : 0 < kd) (h2 : kd ≤ 5) (h3 : pp ≤ k) {le' : Int64} {wo' nu' si' : Int32} : CR tx k (failS kd pp x) (nI kd) (nI pp) k k 0 le' wo' nu' si' := by
  have e := (cr_z h).mp h0
  rw [failS_0 kd pp e]
  exact ⟨rfl, h2, Or.inr ⟨fun q => by simp only at q; omega, rfl, h3, rfl, rfl, rfl⟩⟩
theorem cr_fail2 (h : CR tx k x fa pl ra rs so le wo nu si) (h0 : ¬ fa = 0) {kd pp : Nat} {le' : Int64} {wo' nu' si' : Int32} : CR tx k (failS kd pp x) fa pl k k 0 le' wo' nu' si' := by
  have e : ¬ x.1 = 0 := fun q => h0 ((cr_z h).mpr q)
  rw [failS_d kd pp e]
  obtain ⟨a, c, d⟩ := h
  rcases d with d | d
  · exact absurd d.1 e
  · exact ⟨a, c, Or.inr ⟨e, d.2.1, d.2.2.1, rfl, rfl, rfl⟩⟩
theorem cr_so (h : CR tx k x fa pl ra rs so le wo nu si) : so = nI (srS tx k x) := by
  obtain ⟨_, _, d | d⟩ := h
  · unfold srS
    rw [if_pos d.1]
    exact d.2.2.2.2.2.1
  · unfold srS
    rw [if_neg d.1]
    exact d.2.2.2.2.2
theorem tsr_le (p g : Nat) : tsr tx k p g ≤ 3 := by
  unfold tsr
  split
  · omega
  · split
    · omega
    · exact (srt_le _).2
theorem srS_le (x : PS) : srS tx k x ≤ 3 := by
  unfold srS
  split
  · exact tsr_le _ _
  · omega
theorem cl_dead (h : CL tx k k g ra rs so le wo nu si) : ra = k ∧ rs = k ∧ so = 0 := by
  obtain ⟨a, b, c, _⟩ := h
  have q : tq tx k k = k := sq_stop (by omega)
  have t : tsr tx k k g = 0 := by
    unfold tsr
    rw [q, if_pos (Nat.le_refl _)]
  refine ⟨?_, b.trans q, ?_⟩
  · rw [a]
    unfold ten
    rw [t, if_pos rfl, q]
  · rw [c, t]
    rfl
theorem ten_le (p g : Nat) (h : p ≤ k) : ten tx k p g ≤ k := by
  have q : tq tx k p ≤ k := sq_le h
  unfold ten
  split
  · exact q
  · rename_i a
    have : tq tx k p < k := by
      unfold tsr at a
      split at a <;> omega
    split
    · omega
    · exact sq_le (by omega)
theorem tq_ge (p : Nat) : p ≤ tq tx k p := sq_ge _ _ _
/-- a step on -/
theorem cr_adv (h : CR tx k x fa pl ra rs so le wo nu si) {s0 : Nat} (hs : so = nI s0) (hs3 : s0 ≤ 3) {ra' rs' : Nat} {so' : Int32} {le' : Int64} {wo' nu' si' : Int32} (hc : CL tx k ra (if s0 = 1 ∨ s0 = 2 then 1 else 0) ra' rs' so' le' wo' nu' si') : CR tx k (advS tx k x) fa pl ra' rs' so' le' wo' nu' si' := by
  have hs' := cr_so h
  have e : s0 = srS tx k x := by
    have := srS_le (tx := tx) (k := k) x
    exact (nI_eq (by omega) (by omega)).mp (hs.symm.trans hs')
  obtain ⟨a, c, d | d⟩ := h
  · refine ⟨?_, ?_, Or.inl ?_⟩
    · rw [a, d.1]
      unfold advS
      rw [if_pos d.1]
    · unfold advS
      rw [if_pos d.1]
      exact Nat.zero_le _
    · unfold advS
      rw [if_pos d.1]
      refine ⟨rfl, d.2.1, ten_le _ _ d.2.2.1, ?_⟩
      have e1 : ra = enS tx k x := d.2.2.2.1
      have e2 : (if s0 = 1 ∨ s0 = 2 then 1 else 0) = tgl tx k x.2.2.1 x.2.2.2 := by
        rw [e]
        unfold srS tgl
        rw [if_pos d.1]
      rw [e1, e2] at hc
      exact hc
  · unfold advS
    rw [if_neg d.1]
    have e1 := d.2.2.2.1
    subst e1
    obtain ⟨q1, q2, q3⟩ := cl_dead hc
    exact ⟨a, c, Or.inr ⟨d.1, d.2.1, d.2.2.1, q1, q2, q3⟩⟩
end CRL
set_option maxHeartbeats 4000000 in
set_option maxRecDepth 100000 in
theorem c_sortOfF (l : Launch) (D : va_G) (y : Nat → ClassId) (cv : Nat) (hc : cv < 256) : CT l D y ⟨"NineBoards$Reader", "sortOf", "(I)I"⟩ prog_8_method_33_code 1 (some .int) ({ frames := 0, cells := 0, slots := 0, locals := 0 } : Room) [.int (nI cv)] [] (QI D [] (fun (r : Int32) (u : Unit) => (r = 1 ∧ srt cv = 1) ∨ (r = 2 ∧ srt cv = 2) ∨ (r = 3 ∧ srt cv = 3)) (fun _ => [])) := by
  refine CT.of (by decide) (nb rfl) ?_
  intro p e s m args below meth c C hr
  refine j_lv (lv' := [(0, .int (nI cv))]) rfl ?_
  refine j_iload_n (pc := 0) C d_Reader_sortOf_0 rfl 0 rfl ?_
  refine j_bipush (pc := 1) C (v := 97) d_Reader_sortOf_1 (by decide) ?_
  by_cases c1 : cv < 97
  · refine j_icmp_ltT (pc := 3) C (tgt := 16) d_Reader_sortOf_3 (by decide) (show nI cv < nI 97 from nI_lt (by omega) (by omega)) ?_
    refine j_iload_n (pc := 16) C d_Reader_sortOf_16 rfl 0 rfl ?_
    refine j_bipush (pc := 17) C (v := 48) d_Reader_sortOf_17 (by decide) ?_
    by_cases c2 : cv < 48
    · refine j_icmp_ltT (pc := 19) C (tgt := 32) d_Reader_sortOf_19 (by decide) (show nI cv < nI 48 from nI_lt (by omega) (by omega)) ?_
      refine j_iconst (pc := 32) C (v := 3) d_Reader_sortOf_32 (by decide) ?_
      exact j_iret (pc := 33) C hr rfl () (Or.inr (Or.inr ⟨rfl, srt_3 (by omega) (by omega)⟩)) [] rfl (by decide) (by decide) (by decide) d_Reader_sortOf_33
    · refine j_icmp_ltF (pc := 19) C (tgt := 32) d_Reader_sortOf_19 (by decide) (show ¬ nI cv < nI 48 from nI_nlt (by omega) (by omega)) ?_
      refine j_iload_n (pc := 22) C d_Reader_sortOf_22 rfl 0 rfl ?_
      refine j_bipush (pc := 23) C (v := 57) d_Reader_sortOf_23 (by decide) ?_
      by_cases c3 : 57 < cv
      · refine j_icmp_gtT (pc := 25) C (tgt := 32) d_Reader_sortOf_25 (by decide) (show nI 57 < nI cv from nI_lt (by omega) (by omega)) ?_
        refine j_iconst (pc := 32) C (v := 3) d_Reader_sortOf_32 (by decide) ?_
        exact j_iret (pc := 33) C hr rfl () (Or.inr (Or.inr ⟨rfl, srt_3 (by omega) (by omega)⟩)) [] rfl (by decide) (by decide) (by decide) d_Reader_sortOf_33
      · refine j_icmp_gtF (pc := 25) C (tgt := 32) d_Reader_sortOf_25 (by decide) (show ¬ nI 57 < nI cv from nI_nlt (by omega) (by omega)) ?_
        refine j_iconst (pc := 28) C (v := 2) d_Reader_sortOf_28 (by decide) ?_
        refine j_goto (pc := 29) C (tgt := 33) d_Reader_sortOf_29 (by decide) ?_
        exact j_iret (pc := 33) C hr rfl () (Or.inr (Or.inl ⟨rfl, srt_2 (by omega) (by omega)⟩)) [] rfl (by decide) (by decide) (by decide) d_Reader_sortOf_33
  · refine j_icmp_ltF (pc := 3) C (tgt := 16) d_Reader_sortOf_3 (by decide) (show ¬ nI cv < nI 97 from nI_nlt (by omega) (by omega)) ?_
    refine j_iload_n (pc := 6) C d_Reader_sortOf_6 rfl 0 rfl ?_
    refine j_bipush (pc := 7) C (v := 122) d_Reader_sortOf_7 (by decide) ?_
    by_cases c4 : 122 < cv
    · refine j_icmp_gtT (pc := 9) C (tgt := 16) d_Reader_sortOf_9 (by decide) (show nI 122 < nI cv from nI_lt (by omega) (by omega)) ?_
      refine j_iload_n (pc := 16) C d_Reader_sortOf_16 rfl 0 rfl ?_
      refine j_bipush (pc := 17) C (v := 48) d_Reader_sortOf_17 (by decide) ?_
      by_cases c5 : cv < 48
      · refine j_icmp_ltT (pc := 19) C (tgt := 32) d_Reader_sortOf_19 (by decide) (show nI cv < nI 48 from nI_lt (by omega) (by omega)) ?_
        refine j_iconst (pc := 32) C (v := 3) d_Reader_sortOf_32 (by decide) ?_
        exact j_iret (pc := 33) C hr rfl () (Or.inr (Or.inr ⟨rfl, srt_3 (by omega) (by omega)⟩)) [] rfl (by decide) (by decide) (by decide) d_Reader_sortOf_33
      · refine j_icmp_ltF (pc := 19) C (tgt := 32) d_Reader_sortOf_19 (by decide) (show ¬ nI cv < nI 48 from nI_nlt (by omega) (by omega)) ?_
        refine j_iload_n (pc := 22) C d_Reader_sortOf_22 rfl 0 rfl ?_
        refine j_bipush (pc := 23) C (v := 57) d_Reader_sortOf_23 (by decide) ?_
        by_cases c6 : 57 < cv
        · refine j_icmp_gtT (pc := 25) C (tgt := 32) d_Reader_sortOf_25 (by decide) (show nI 57 < nI cv from nI_lt (by omega) (by omega)) ?_
          refine j_iconst (pc := 32) C (v := 3) d_Reader_sortOf_32 (by decide) ?_
          exact j_iret (pc := 33) C hr rfl () (Or.inr (Or.inr ⟨rfl, srt_3 (by omega) (by omega)⟩)) [] rfl (by decide) (by decide) (by decide) d_Reader_sortOf_33
        · refine j_icmp_gtF (pc := 25) C (tgt := 32) d_Reader_sortOf_25 (by decide) (show ¬ nI 57 < nI cv from nI_nlt (by omega) (by omega)) ?_
          refine j_iconst (pc := 28) C (v := 2) d_Reader_sortOf_28 (by decide) ?_
          refine j_goto (pc := 29) C (tgt := 33) d_Reader_sortOf_29 (by decide) ?_
          exact j_iret (pc := 33) C hr rfl () (Or.inr (Or.inl ⟨rfl, srt_2 (by omega) (by omega)⟩)) [] rfl (by decide) (by decide) (by decide) d_Reader_sortOf_33
    · refine j_icmp_gtF (pc := 9) C (tgt := 16) d_Reader_sortOf_9 (by decide) (show ¬ nI 122 < nI cv from nI_nlt (by omega) (by omega)) ?_
      refine j_iconst (pc := 12) C (v := 1) d_Reader_sortOf_12 (by decide) ?_
      refine j_goto (pc := 13) C (tgt := 33) d_Reader_sortOf_13 (by decide) ?_
      exact j_iret (pc := 33) C hr rfl () (Or.inl ⟨rfl, srt_1 (by omega) (by omega)⟩) [] rfl (by decide) (by decide) (by decide) d_Reader_sortOf_33
set_option maxHeartbeats 4000000 in
set_option maxRecDepth 100000 in
theorem c_rF_fail_1 (l : Launch) (D : va_G) (y : Nat → ClassId) (rd : Nat) (ow : Nat) (tp : Nat) (lk : Nat) (td : Nat) (fa : Int32) (pl : Int32) (so : Int32) (le : Int64) (wo : Int32) (nu : Int32) (si : Int32) (ra : Nat) (rs : Nat) (k : Nat) (tx : Nat → Nat) (gs : PS) (pp : Nat) (ha : ra ≤ k) (hs : rs ≤ ra) (hk : k ≤ 1600) (hg : CR tx k gs fa pl ra rs so le wo nu si) (hpp : pp ≤ k) : CT l D y ⟨"NineBoards$Reader", "fail", "(II)V"⟩ prog_8_method_31_code 3 none ({ frames := 0, cells := 0, slots := 0, locals := 0 } : Room) [.ref rd, .int 1, .int (nI pp)] [(rd, .inr (5, [.int fa, .int pl, .ref ow, .ref tp, .ref lk, .int (nI ra), .int so, .int (nI rs), .long le, .int wo, .int nu, .int si])), (tp, .inr (0, [.ref td, .int (nI k)]))] (QV D [(rd, .inr (5, [.int fa, .int pl, .ref ow, .ref tp, .ref lk, .int (nI ra), .int so, .int (nI rs), .long le, .int wo, .int nu, .int si])), (tp, .inr (0, [.ref td, .int (nI k)]))] (fun (u : Int32 × Int32) => ¬ u.1 = 0 ∧ CR tx k (failS 1 pp gs) u.1 u.2 k k 0 le wo nu si) (fun u => [(rd, .inr (5, [.int u.1, .int u.2, .ref ow, .ref tp, .ref lk, .int (nI k), .int 0, .int (nI k), .long le, .int wo, .int nu, .int si])), (tp, .inr (0, [.ref td, .int (nI k)]))])) := by
  refine CT.of (by decide) (nb rfl) ?_
  intro p e s m args below meth c C hr
  refine j_lv (lv' := [(0, .ref rd), (1, .int 1), (2, .int (nI pp))]) rfl ?_
  refine j_aload_n (pc := 0) C d_Reader_fail_0 rfl 0 rfl ?_
  refine j_get (pc := 1) C gf_Reader_44 0 rfl rfl d_Reader_fail_1 ?_
  refine j_if_ne (pc := 4) C (tgt := 17) d_Reader_fail_4 (by decide) (fun c1 => ?_) (fun c1 => ?_)
  · refine j_aload_n (pc := 17) C d_Reader_fail_17 rfl 0 rfl ?_
    refine j_aload_n (pc := 18) C d_Reader_fail_18 rfl 0 rfl ?_
    refine j_get (pc := 19) C gf_Reader_19 0 rfl rfl d_Reader_fail_19 ?_
    refine j_get (pc := 22) C gf_Reader_285 1 rfl rfl d_Reader_fail_22 ?_
    refine j_put (pc := 25) C pf_Reader_47 0 (ws' := [(rd, .inr (5, [.int fa, .int pl, .ref ow, .ref tp, .ref lk, .int (nI k), .int so, .int (nI rs), .long le, .int wo, .int nu, .int si])), (tp, .inr (0, [.ref td, .int (nI k)]))]) rfl rfl rfl (nl rfl) rfl d_Reader_fail_25 ?_
    refine j_aload_n (pc := 28) C d_Reader_fail_28 rfl 0 rfl ?_
    refine j_aload_n (pc := 29) C d_Reader_fail_29 rfl 0 rfl ?_
    refine j_get (pc := 30) C gf_Reader_47 0 rfl rfl d_Reader_fail_30 ?_
    refine j_put (pc := 33) C pf_Reader_62 0 (ws' := [(rd, .inr (5, [.int fa, .int pl, .ref ow, .ref tp, .ref lk, .int (nI k), .int so, .int (nI k), .long le, .int wo, .int nu, .int si])), (tp, .inr (0, [.ref td, .int (nI k)]))]) rfl rfl rfl (nl rfl) rfl d_Reader_fail_33 ?_
    refine j_aload_n (pc := 36) C d_Reader_fail_36 rfl 0 rfl ?_
    refine j_iconst (pc := 37) C (v := 0) d_Reader_fail_37 (by decide) ?_
    refine j_put (pc := 38) C pf_Reader_50 0 (ws' := [(rd, .inr (5, [.int fa, .int pl, .ref ow, .ref tp, .ref lk, .int (nI k), .int 0, .int (nI k), .long le, .int wo, .int nu, .int si])), (tp, .inr (0, [.ref td, .int (nI k)]))]) rfl rfl rfl (nl rfl) rfl d_Reader_fail_38 ?_
    exact j_vret (pc := 41) C hr (fa, pl) ⟨c1, cr_fail2 hg c1⟩ [0, 1] rfl (by decide) (by decide) (by decide) d_Reader_fail_41
  · refine j_aload_n (pc := 7) C d_Reader_fail_7 rfl 0 rfl ?_
    refine j_iload_n (pc := 8) C d_Reader_fail_8 rfl 1 rfl ?_
    refine j_put (pc := 9) C pf_Reader_44 0 (ws' := [(rd, .inr (5, [.int 1, .int pl, .ref ow, .ref tp, .ref lk, .int (nI ra), .int so, .int (nI rs), .long le, .int wo, .int nu, .int si])), (tp, .inr (0, [.ref td, .int (nI k)]))]) rfl rfl rfl (nl rfl) rfl d_Reader_fail_9 ?_
    refine j_aload_n (pc := 12) C d_Reader_fail_12 rfl 0 rfl ?_
    refine j_iload_n (pc := 13) C d_Reader_fail_13 rfl 2 rfl ?_
    refine j_put (pc := 14) C pf_Reader_9 0 (ws' := [(rd, .inr (5, [.int 1, .int (nI pp), .ref ow, .ref tp, .ref lk, .int (nI ra), .int so, .int (nI rs), .long le, .int wo, .int nu, .int si])), (tp, .inr (0, [.ref td, .int (nI k)]))]) rfl rfl rfl (nl rfl) rfl d_Reader_fail_14 ?_
    refine j_aload_n (pc := 17) C d_Reader_fail_17 rfl 0 rfl ?_
    refine j_aload_n (pc := 18) C d_Reader_fail_18 rfl 0 rfl ?_
    refine j_get (pc := 19) C gf_Reader_19 0 rfl rfl d_Reader_fail_19 ?_
    refine j_get (pc := 22) C gf_Reader_285 1 rfl rfl d_Reader_fail_22 ?_
    refine j_put (pc := 25) C pf_Reader_47 0 (ws' := [(rd, .inr (5, [.int 1, .int (nI pp), .ref ow, .ref tp, .ref lk, .int (nI k), .int so, .int (nI rs), .long le, .int wo, .int nu, .int si])), (tp, .inr (0, [.ref td, .int (nI k)]))]) rfl rfl rfl (nl rfl) rfl d_Reader_fail_25 ?_
    refine j_aload_n (pc := 28) C d_Reader_fail_28 rfl 0 rfl ?_
    refine j_aload_n (pc := 29) C d_Reader_fail_29 rfl 0 rfl ?_
    refine j_get (pc := 30) C gf_Reader_47 0 rfl rfl d_Reader_fail_30 ?_
    refine j_put (pc := 33) C pf_Reader_62 0 (ws' := [(rd, .inr (5, [.int 1, .int (nI pp), .ref ow, .ref tp, .ref lk, .int (nI k), .int so, .int (nI k), .long le, .int wo, .int nu, .int si])), (tp, .inr (0, [.ref td, .int (nI k)]))]) rfl rfl rfl (nl rfl) rfl d_Reader_fail_33 ?_
    refine j_aload_n (pc := 36) C d_Reader_fail_36 rfl 0 rfl ?_
    refine j_iconst (pc := 37) C (v := 0) d_Reader_fail_37 (by decide) ?_
    refine j_put (pc := 38) C pf_Reader_50 0 (ws' := [(rd, .inr (5, [.int 1, .int (nI pp), .ref ow, .ref tp, .ref lk, .int (nI k), .int 0, .int (nI k), .long le, .int wo, .int nu, .int si])), (tp, .inr (0, [.ref td, .int (nI k)]))]) rfl rfl rfl (nl rfl) rfl d_Reader_fail_38 ?_
    exact j_vret (pc := 41) C hr (1, nI pp) ⟨(show ¬ (1 : Int32) = 0 by decide), cr_fail1 (kd := 1) hg c1 (by decide) (by decide) (by omega)⟩ [0, 1] rfl (by decide) (by decide) (by decide) d_Reader_fail_41
set_option maxHeartbeats 4000000 in
set_option maxRecDepth 100000 in
theorem c_rF_fail_2 (l : Launch) (D : va_G) (y : Nat → ClassId) (rd : Nat) (ow : Nat) (tp : Nat) (lk : Nat) (td : Nat) (fa : Int32) (pl : Int32) (so : Int32) (le : Int64) (wo : Int32) (nu : Int32) (si : Int32) (ra : Nat) (rs : Nat) (k : Nat) (tx : Nat → Nat) (gs : PS) (pp : Nat) (ha : ra ≤ k) (hs : rs ≤ ra) (hk : k ≤ 1600) (hg : CR tx k gs fa pl ra rs so le wo nu si) (hpp : pp ≤ k) : CT l D y ⟨"NineBoards$Reader", "fail", "(II)V"⟩ prog_8_method_31_code 3 none ({ frames := 0, cells := 0, slots := 0, locals := 0 } : Room) [.ref rd, .int 2, .int (nI pp)] [(rd, .inr (5, [.int fa, .int pl, .ref ow, .ref tp, .ref lk, .int (nI ra), .int so, .int (nI rs), .long le, .int wo, .int nu, .int si])), (tp, .inr (0, [.ref td, .int (nI k)]))] (QV D [(rd, .inr (5, [.int fa, .int pl, .ref ow, .ref tp, .ref lk, .int (nI ra), .int so, .int (nI rs), .long le, .int wo, .int nu, .int si])), (tp, .inr (0, [.ref td, .int (nI k)]))] (fun (u : Int32 × Int32) => ¬ u.1 = 0 ∧ CR tx k (failS 2 pp gs) u.1 u.2 k k 0 le wo nu si) (fun u => [(rd, .inr (5, [.int u.1, .int u.2, .ref ow, .ref tp, .ref lk, .int (nI k), .int 0, .int (nI k), .long le, .int wo, .int nu, .int si])), (tp, .inr (0, [.ref td, .int (nI k)]))])) := by
  refine CT.of (by decide) (nb rfl) ?_
  intro p e s m args below meth c C hr
  refine j_lv (lv' := [(0, .ref rd), (1, .int 2), (2, .int (nI pp))]) rfl ?_
  refine j_aload_n (pc := 0) C d_Reader_fail_0 rfl 0 rfl ?_
  refine j_get (pc := 1) C gf_Reader_44 0 rfl rfl d_Reader_fail_1 ?_
  refine j_if_ne (pc := 4) C (tgt := 17) d_Reader_fail_4 (by decide) (fun c1 => ?_) (fun c1 => ?_)
  · refine j_aload_n (pc := 17) C d_Reader_fail_17 rfl 0 rfl ?_
    refine j_aload_n (pc := 18) C d_Reader_fail_18 rfl 0 rfl ?_
    refine j_get (pc := 19) C gf_Reader_19 0 rfl rfl d_Reader_fail_19 ?_
    refine j_get (pc := 22) C gf_Reader_285 1 rfl rfl d_Reader_fail_22 ?_
    refine j_put (pc := 25) C pf_Reader_47 0 (ws' := [(rd, .inr (5, [.int fa, .int pl, .ref ow, .ref tp, .ref lk, .int (nI k), .int so, .int (nI rs), .long le, .int wo, .int nu, .int si])), (tp, .inr (0, [.ref td, .int (nI k)]))]) rfl rfl rfl (nl rfl) rfl d_Reader_fail_25 ?_
    refine j_aload_n (pc := 28) C d_Reader_fail_28 rfl 0 rfl ?_
    refine j_aload_n (pc := 29) C d_Reader_fail_29 rfl 0 rfl ?_
    refine j_get (pc := 30) C gf_Reader_47 0 rfl rfl d_Reader_fail_30 ?_
    refine j_put (pc := 33) C pf_Reader_62 0 (ws' := [(rd, .inr (5, [.int fa, .int pl, .ref ow, .ref tp, .ref lk, .int (nI k), .int so, .int (nI k), .long le, .int wo, .int nu, .int si])), (tp, .inr (0, [.ref td, .int (nI k)]))]) rfl rfl rfl (nl rfl) rfl d_Reader_fail_33 ?_
    refine j_aload_n (pc := 36) C d_Reader_fail_36 rfl 0 rfl ?_
    refine j_iconst (pc := 37) C (v := 0) d_Reader_fail_37 (by decide) ?_
    refine j_put (pc := 38) C pf_Reader_50 0 (ws' := [(rd, .inr (5, [.int fa, .int pl, .ref ow, .ref tp, .ref lk, .int (nI k), .int 0, .int (nI k), .long le, .int wo, .int nu, .int si])), (tp, .inr (0, [.ref td, .int (nI k)]))]) rfl rfl rfl (nl rfl) rfl d_Reader_fail_38 ?_
    exact j_vret (pc := 41) C hr (fa, pl) ⟨c1, cr_fail2 hg c1⟩ [0, 1] rfl (by decide) (by decide) (by decide) d_Reader_fail_41
  · refine j_aload_n (pc := 7) C d_Reader_fail_7 rfl 0 rfl ?_
    refine j_iload_n (pc := 8) C d_Reader_fail_8 rfl 1 rfl ?_
    refine j_put (pc := 9) C pf_Reader_44 0 (ws' := [(rd, .inr (5, [.int 2, .int pl, .ref ow, .ref tp, .ref lk, .int (nI ra), .int so, .int (nI rs), .long le, .int wo, .int nu, .int si])), (tp, .inr (0, [.ref td, .int (nI k)]))]) rfl rfl rfl (nl rfl) rfl d_Reader_fail_9 ?_
    refine j_aload_n (pc := 12) C d_Reader_fail_12 rfl 0 rfl ?_
    refine j_iload_n (pc := 13) C d_Reader_fail_13 rfl 2 rfl ?_
    refine j_put (pc := 14) C pf_Reader_9 0 (ws' := [(rd, .inr (5, [.int 2, .int (nI pp), .ref ow, .ref tp, .ref lk, .int (nI ra), .int so, .int (nI rs), .long le, .int wo, .int nu, .int si])), (tp, .inr (0, [.ref td, .int (nI k)]))]) rfl rfl rfl (nl rfl) rfl d_Reader_fail_14 ?_
    refine j_aload_n (pc := 17) C d_Reader_fail_17 rfl 0 rfl ?_
    refine j_aload_n (pc := 18) C d_Reader_fail_18 rfl 0 rfl ?_
    refine j_get (pc := 19) C gf_Reader_19 0 rfl rfl d_Reader_fail_19 ?_
    refine j_get (pc := 22) C gf_Reader_285 1 rfl rfl d_Reader_fail_22 ?_
    refine j_put (pc := 25) C pf_Reader_47 0 (ws' := [(rd, .inr (5, [.int 2, .int (nI pp), .ref ow, .ref tp, .ref lk, .int (nI k), .int so, .int (nI rs), .long le, .int wo, .int nu, .int si])), (tp, .inr (0, [.ref td, .int (nI k)]))]) rfl rfl rfl (nl rfl) rfl d_Reader_fail_25 ?_
    refine j_aload_n (pc := 28) C d_Reader_fail_28 rfl 0 rfl ?_
    refine j_aload_n (pc := 29) C d_Reader_fail_29 rfl 0 rfl ?_
    refine j_get (pc := 30) C gf_Reader_47 0 rfl rfl d_Reader_fail_30 ?_
    refine j_put (pc := 33) C pf_Reader_62 0 (ws' := [(rd, .inr (5, [.int 2, .int (nI pp), .ref ow, .ref tp, .ref lk, .int (nI k), .int so, .int (nI k), .long le, .int wo, .int nu, .int si])), (tp, .inr (0, [.ref td, .int (nI k)]))]) rfl rfl rfl (nl rfl) rfl d_Reader_fail_33 ?_
    refine j_aload_n (pc := 36) C d_Reader_fail_36 rfl 0 rfl ?_
    refine j_iconst (pc := 37) C (v := 0) d_Reader_fail_37 (by decide) ?_
    refine j_put (pc := 38) C pf_Reader_50 0 (ws' := [(rd, .inr (5, [.int 2, .int (nI pp), .ref ow, .ref tp, .ref lk, .int (nI k), .int 0, .int (nI k), .long le, .int wo, .int nu, .int si])), (tp, .inr (0, [.ref td, .int (nI k)]))]) rfl rfl rfl (nl rfl) rfl d_Reader_fail_38 ?_
    exact j_vret (pc := 41) C hr (2, nI pp) ⟨(show ¬ (2 : Int32) = 0 by decide), cr_fail1 (kd := 2) hg c1 (by decide) (by decide) (by omega)⟩ [0, 1] rfl (by decide) (by decide) (by decide) d_Reader_fail_41
set_option maxHeartbeats 4000000 in
set_option maxRecDepth 100000 in
theorem c_rF_fail_3 (l : Launch) (D : va_G) (y : Nat → ClassId) (rd : Nat) (ow : Nat) (tp : Nat) (lk : Nat) (td : Nat) (fa : Int32) (pl : Int32) (so : Int32) (le : Int64) (wo : Int32) (nu : Int32) (si : Int32) (ra : Nat) (rs : Nat) (k : Nat) (tx : Nat → Nat) (gs : PS) (pp : Nat) (ha : ra ≤ k) (hs : rs ≤ ra) (hk : k ≤ 1600) (hg : CR tx k gs fa pl ra rs so le wo nu si) (hpp : pp ≤ k) : CT l D y ⟨"NineBoards$Reader", "fail", "(II)V"⟩ prog_8_method_31_code 3 none ({ frames := 0, cells := 0, slots := 0, locals := 0 } : Room) [.ref rd, .int 3, .int (nI pp)] [(rd, .inr (5, [.int fa, .int pl, .ref ow, .ref tp, .ref lk, .int (nI ra), .int so, .int (nI rs), .long le, .int wo, .int nu, .int si])), (tp, .inr (0, [.ref td, .int (nI k)]))] (QV D [(rd, .inr (5, [.int fa, .int pl, .ref ow, .ref tp, .ref lk, .int (nI ra), .int so, .int (nI rs), .long le, .int wo, .int nu, .int si])), (tp, .inr (0, [.ref td, .int (nI k)]))] (fun (u : Int32 × Int32) => ¬ u.1 = 0 ∧ CR tx k (failS 3 pp gs) u.1 u.2 k k 0 le wo nu si) (fun u => [(rd, .inr (5, [.int u.1, .int u.2, .ref ow, .ref tp, .ref lk, .int (nI k), .int 0, .int (nI k), .long le, .int wo, .int nu, .int si])), (tp, .inr (0, [.ref td, .int (nI k)]))])) := by
  refine CT.of (by decide) (nb rfl) ?_
  intro p e s m args below meth c C hr
  refine j_lv (lv' := [(0, .ref rd), (1, .int 3), (2, .int (nI pp))]) rfl ?_
  refine j_aload_n (pc := 0) C d_Reader_fail_0 rfl 0 rfl ?_
  refine j_get (pc := 1) C gf_Reader_44 0 rfl rfl d_Reader_fail_1 ?_
  refine j_if_ne (pc := 4) C (tgt := 17) d_Reader_fail_4 (by decide) (fun c1 => ?_) (fun c1 => ?_)
  · refine j_aload_n (pc := 17) C d_Reader_fail_17 rfl 0 rfl ?_
    refine j_aload_n (pc := 18) C d_Reader_fail_18 rfl 0 rfl ?_
    refine j_get (pc := 19) C gf_Reader_19 0 rfl rfl d_Reader_fail_19 ?_
    refine j_get (pc := 22) C gf_Reader_285 1 rfl rfl d_Reader_fail_22 ?_
    refine j_put (pc := 25) C pf_Reader_47 0 (ws' := [(rd, .inr (5, [.int fa, .int pl, .ref ow, .ref tp, .ref lk, .int (nI k), .int so, .int (nI rs), .long le, .int wo, .int nu, .int si])), (tp, .inr (0, [.ref td, .int (nI k)]))]) rfl rfl rfl (nl rfl) rfl d_Reader_fail_25 ?_
    refine j_aload_n (pc := 28) C d_Reader_fail_28 rfl 0 rfl ?_
    refine j_aload_n (pc := 29) C d_Reader_fail_29 rfl 0 rfl ?_
    refine j_get (pc := 30) C gf_Reader_47 0 rfl rfl d_Reader_fail_30 ?_
    refine j_put (pc := 33) C pf_Reader_62 0 (ws' := [(rd, .inr (5, [.int fa, .int pl, .ref ow, .ref tp, .ref lk, .int (nI k), .int so, .int (nI k), .long le, .int wo, .int nu, .int si])), (tp, .inr (0, [.ref td, .int (nI k)]))]) rfl rfl rfl (nl rfl) rfl d_Reader_fail_33 ?_
    refine j_aload_n (pc := 36) C d_Reader_fail_36 rfl 0 rfl ?_
    refine j_iconst (pc := 37) C (v := 0) d_Reader_fail_37 (by decide) ?_
    refine j_put (pc := 38) C pf_Reader_50 0 (ws' := [(rd, .inr (5, [.int fa, .int pl, .ref ow, .ref tp, .ref lk, .int (nI k), .int 0, .int (nI k), .long le, .int wo, .int nu, .int si])), (tp, .inr (0, [.ref td, .int (nI k)]))]) rfl rfl rfl (nl rfl) rfl d_Reader_fail_38 ?_
    exact j_vret (pc := 41) C hr (fa, pl) ⟨c1, cr_fail2 hg c1⟩ [0, 1] rfl (by decide) (by decide) (by decide) d_Reader_fail_41
  · refine j_aload_n (pc := 7) C d_Reader_fail_7 rfl 0 rfl ?_
    refine j_iload_n (pc := 8) C d_Reader_fail_8 rfl 1 rfl ?_
    refine j_put (pc := 9) C pf_Reader_44 0 (ws' := [(rd, .inr (5, [.int 3, .int pl, .ref ow, .ref tp, .ref lk, .int (nI ra), .int so, .int (nI rs), .long le, .int wo, .int nu, .int si])), (tp, .inr (0, [.ref td, .int (nI k)]))]) rfl rfl rfl (nl rfl) rfl d_Reader_fail_9 ?_
    refine j_aload_n (pc := 12) C d_Reader_fail_12 rfl 0 rfl ?_
    refine j_iload_n (pc := 13) C d_Reader_fail_13 rfl 2 rfl ?_
    refine j_put (pc := 14) C pf_Reader_9 0 (ws' := [(rd, .inr (5, [.int 3, .int (nI pp), .ref ow, .ref tp, .ref lk, .int (nI ra), .int so, .int (nI rs), .long le, .int wo, .int nu, .int si])), (tp, .inr (0, [.ref td, .int (nI k)]))]) rfl rfl rfl (nl rfl) rfl d_Reader_fail_14 ?_
    refine j_aload_n (pc := 17) C d_Reader_fail_17 rfl 0 rfl ?_
    refine j_aload_n (pc := 18) C d_Reader_fail_18 rfl 0 rfl ?_
    refine j_get (pc := 19) C gf_Reader_19 0 rfl rfl d_Reader_fail_19 ?_
    refine j_get (pc := 22) C gf_Reader_285 1 rfl rfl d_Reader_fail_22 ?_
    refine j_put (pc := 25) C pf_Reader_47 0 (ws' := [(rd, .inr (5, [.int 3, .int (nI pp), .ref ow, .ref tp, .ref lk, .int (nI k), .int so, .int (nI rs), .long le, .int wo, .int nu, .int si])), (tp, .inr (0, [.ref td, .int (nI k)]))]) rfl rfl rfl (nl rfl) rfl d_Reader_fail_25 ?_
    refine j_aload_n (pc := 28) C d_Reader_fail_28 rfl 0 rfl ?_
    refine j_aload_n (pc := 29) C d_Reader_fail_29 rfl 0 rfl ?_
    refine j_get (pc := 30) C gf_Reader_47 0 rfl rfl d_Reader_fail_30 ?_
    refine j_put (pc := 33) C pf_Reader_62 0 (ws' := [(rd, .inr (5, [.int 3, .int (nI pp), .ref ow, .ref tp, .ref lk, .int (nI k), .int so, .int (nI k), .long le, .int wo, .int nu, .int si])), (tp, .inr (0, [.ref td, .int (nI k)]))]) rfl rfl rfl (nl rfl) rfl d_Reader_fail_33 ?_
    refine j_aload_n (pc := 36) C d_Reader_fail_36 rfl 0 rfl ?_
    refine j_iconst (pc := 37) C (v := 0) d_Reader_fail_37 (by decide) ?_
    refine j_put (pc := 38) C pf_Reader_50 0 (ws' := [(rd, .inr (5, [.int 3, .int (nI pp), .ref ow, .ref tp, .ref lk, .int (nI k), .int 0, .int (nI k), .long le, .int wo, .int nu, .int si])), (tp, .inr (0, [.ref td, .int (nI k)]))]) rfl rfl rfl (nl rfl) rfl d_Reader_fail_38 ?_
    exact j_vret (pc := 41) C hr (3, nI pp) ⟨(show ¬ (3 : Int32) = 0 by decide), cr_fail1 (kd := 3) hg c1 (by decide) (by decide) (by omega)⟩ [0, 1] rfl (by decide) (by decide) (by decide) d_Reader_fail_41
set_option maxHeartbeats 4000000 in
set_option maxRecDepth 100000 in
theorem c_rF_fail_4 (l : Launch) (D : va_G) (y : Nat → ClassId) (rd : Nat) (ow : Nat) (tp : Nat) (lk : Nat) (td : Nat) (fa : Int32) (pl : Int32) (so : Int32) (le : Int64) (wo : Int32) (nu : Int32) (si : Int32) (ra : Nat) (rs : Nat) (k : Nat) (tx : Nat → Nat) (gs : PS) (pp : Nat) (ha : ra ≤ k) (hs : rs ≤ ra) (hk : k ≤ 1600) (hg : CR tx k gs fa pl ra rs so le wo nu si) (hpp : pp ≤ k) : CT l D y ⟨"NineBoards$Reader", "fail", "(II)V"⟩ prog_8_method_31_code 3 none ({ frames := 0, cells := 0, slots := 0, locals := 0 } : Room) [.ref rd, .int 4, .int (nI pp)] [(rd, .inr (5, [.int fa, .int pl, .ref ow, .ref tp, .ref lk, .int (nI ra), .int so, .int (nI rs), .long le, .int wo, .int nu, .int si])), (tp, .inr (0, [.ref td, .int (nI k)]))] (QV D [(rd, .inr (5, [.int fa, .int pl, .ref ow, .ref tp, .ref lk, .int (nI ra), .int so, .int (nI rs), .long le, .int wo, .int nu, .int si])), (tp, .inr (0, [.ref td, .int (nI k)]))] (fun (u : Int32 × Int32) => ¬ u.1 = 0 ∧ CR tx k (failS 4 pp gs) u.1 u.2 k k 0 le wo nu si) (fun u => [(rd, .inr (5, [.int u.1, .int u.2, .ref ow, .ref tp, .ref lk, .int (nI k), .int 0, .int (nI k), .long le, .int wo, .int nu, .int si])), (tp, .inr (0, [.ref td, .int (nI k)]))])) := by
  refine CT.of (by decide) (nb rfl) ?_
  intro p e s m args below meth c C hr
  refine j_lv (lv' := [(0, .ref rd), (1, .int 4), (2, .int (nI pp))]) rfl ?_
  refine j_aload_n (pc := 0) C d_Reader_fail_0 rfl 0 rfl ?_
  refine j_get (pc := 1) C gf_Reader_44 0 rfl rfl d_Reader_fail_1 ?_
  refine j_if_ne (pc := 4) C (tgt := 17) d_Reader_fail_4 (by decide) (fun c1 => ?_) (fun c1 => ?_)
  · refine j_aload_n (pc := 17) C d_Reader_fail_17 rfl 0 rfl ?_
    refine j_aload_n (pc := 18) C d_Reader_fail_18 rfl 0 rfl ?_
    refine j_get (pc := 19) C gf_Reader_19 0 rfl rfl d_Reader_fail_19 ?_
    refine j_get (pc := 22) C gf_Reader_285 1 rfl rfl d_Reader_fail_22 ?_
    refine j_put (pc := 25) C pf_Reader_47 0 (ws' := [(rd, .inr (5, [.int fa, .int pl, .ref ow, .ref tp, .ref lk, .int (nI k), .int so, .int (nI rs), .long le, .int wo, .int nu, .int si])), (tp, .inr (0, [.ref td, .int (nI k)]))]) rfl rfl rfl (nl rfl) rfl d_Reader_fail_25 ?_
    refine j_aload_n (pc := 28) C d_Reader_fail_28 rfl 0 rfl ?_
    refine j_aload_n (pc := 29) C d_Reader_fail_29 rfl 0 rfl ?_
    refine j_get (pc := 30) C gf_Reader_47 0 rfl rfl d_Reader_fail_30 ?_
    refine j_put (pc := 33) C pf_Reader_62 0 (ws' := [(rd, .inr (5, [.int fa, .int pl, .ref ow, .ref tp, .ref lk, .int (nI k), .int so, .int (nI k), .long le, .int wo, .int nu, .int si])), (tp, .inr (0, [.ref td, .int (nI k)]))]) rfl rfl rfl (nl rfl) rfl d_Reader_fail_33 ?_
    refine j_aload_n (pc := 36) C d_Reader_fail_36 rfl 0 rfl ?_
    refine j_iconst (pc := 37) C (v := 0) d_Reader_fail_37 (by decide) ?_
    refine j_put (pc := 38) C pf_Reader_50 0 (ws' := [(rd, .inr (5, [.int fa, .int pl, .ref ow, .ref tp, .ref lk, .int (nI k), .int 0, .int (nI k), .long le, .int wo, .int nu, .int si])), (tp, .inr (0, [.ref td, .int (nI k)]))]) rfl rfl rfl (nl rfl) rfl d_Reader_fail_38 ?_
    exact j_vret (pc := 41) C hr (fa, pl) ⟨c1, cr_fail2 hg c1⟩ [0, 1] rfl (by decide) (by decide) (by decide) d_Reader_fail_41
  · refine j_aload_n (pc := 7) C d_Reader_fail_7 rfl 0 rfl ?_
    refine j_iload_n (pc := 8) C d_Reader_fail_8 rfl 1 rfl ?_
    refine j_put (pc := 9) C pf_Reader_44 0 (ws' := [(rd, .inr (5, [.int 4, .int pl, .ref ow, .ref tp, .ref lk, .int (nI ra), .int so, .int (nI rs), .long le, .int wo, .int nu, .int si])), (tp, .inr (0, [.ref td, .int (nI k)]))]) rfl rfl rfl (nl rfl) rfl d_Reader_fail_9 ?_
    refine j_aload_n (pc := 12) C d_Reader_fail_12 rfl 0 rfl ?_
    refine j_iload_n (pc := 13) C d_Reader_fail_13 rfl 2 rfl ?_
    refine j_put (pc := 14) C pf_Reader_9 0 (ws' := [(rd, .inr (5, [.int 4, .int (nI pp), .ref ow, .ref tp, .ref lk, .int (nI ra), .int so, .int (nI rs), .long le, .int wo, .int nu, .int si])), (tp, .inr (0, [.ref td, .int (nI k)]))]) rfl rfl rfl (nl rfl) rfl d_Reader_fail_14 ?_
    refine j_aload_n (pc := 17) C d_Reader_fail_17 rfl 0 rfl ?_
    refine j_aload_n (pc := 18) C d_Reader_fail_18 rfl 0 rfl ?_
    refine j_get (pc := 19) C gf_Reader_19 0 rfl rfl d_Reader_fail_19 ?_
    refine j_get (pc := 22) C gf_Reader_285 1 rfl rfl d_Reader_fail_22 ?_
    refine j_put (pc := 25) C pf_Reader_47 0 (ws' := [(rd, .inr (5, [.int 4, .int (nI pp), .ref ow, .ref tp, .ref lk, .int (nI k), .int so, .int (nI rs), .long le, .int wo, .int nu, .int si])), (tp, .inr (0, [.ref td, .int (nI k)]))]) rfl rfl rfl (nl rfl) rfl d_Reader_fail_25 ?_
    refine j_aload_n (pc := 28) C d_Reader_fail_28 rfl 0 rfl ?_
    refine j_aload_n (pc := 29) C d_Reader_fail_29 rfl 0 rfl ?_
    refine j_get (pc := 30) C gf_Reader_47 0 rfl rfl d_Reader_fail_30 ?_
    refine j_put (pc := 33) C pf_Reader_62 0 (ws' := [(rd, .inr (5, [.int 4, .int (nI pp), .ref ow, .ref tp, .ref lk, .int (nI k), .int so, .int (nI k), .long le, .int wo, .int nu, .int si])), (tp, .inr (0, [.ref td, .int (nI k)]))]) rfl rfl rfl (nl rfl) rfl d_Reader_fail_33 ?_
    refine j_aload_n (pc := 36) C d_Reader_fail_36 rfl 0 rfl ?_
    refine j_iconst (pc := 37) C (v := 0) d_Reader_fail_37 (by decide) ?_
    refine j_put (pc := 38) C pf_Reader_50 0 (ws' := [(rd, .inr (5, [.int 4, .int (nI pp), .ref ow, .ref tp, .ref lk, .int (nI k), .int 0, .int (nI k), .long le, .int wo, .int nu, .int si])), (tp, .inr (0, [.ref td, .int (nI k)]))]) rfl rfl rfl (nl rfl) rfl d_Reader_fail_38 ?_
    exact j_vret (pc := 41) C hr (4, nI pp) ⟨(show ¬ (4 : Int32) = 0 by decide), cr_fail1 (kd := 4) hg c1 (by decide) (by decide) (by omega)⟩ [0, 1] rfl (by decide) (by decide) (by decide) d_Reader_fail_41
set_option maxHeartbeats 4000000 in
set_option maxRecDepth 100000 in
theorem c_rF_fail_5 (l : Launch) (D : va_G) (y : Nat → ClassId) (rd : Nat) (ow : Nat) (tp : Nat) (lk : Nat) (td : Nat) (fa : Int32) (pl : Int32) (so : Int32) (le : Int64) (wo : Int32) (nu : Int32) (si : Int32) (ra : Nat) (rs : Nat) (k : Nat) (tx : Nat → Nat) (gs : PS) (pp : Nat) (ha : ra ≤ k) (hs : rs ≤ ra) (hk : k ≤ 1600) (hg : CR tx k gs fa pl ra rs so le wo nu si) (hpp : pp ≤ k) : CT l D y ⟨"NineBoards$Reader", "fail", "(II)V"⟩ prog_8_method_31_code 3 none ({ frames := 0, cells := 0, slots := 0, locals := 0 } : Room) [.ref rd, .int 5, .int (nI pp)] [(rd, .inr (5, [.int fa, .int pl, .ref ow, .ref tp, .ref lk, .int (nI ra), .int so, .int (nI rs), .long le, .int wo, .int nu, .int si])), (tp, .inr (0, [.ref td, .int (nI k)]))] (QV D [(rd, .inr (5, [.int fa, .int pl, .ref ow, .ref tp, .ref lk, .int (nI ra), .int so, .int (nI rs), .long le, .int wo, .int nu, .int si])), (tp, .inr (0, [.ref td, .int (nI k)]))] (fun (u : Int32 × Int32) => ¬ u.1 = 0 ∧ CR tx k (failS 5 pp gs) u.1 u.2 k k 0 le wo nu si) (fun u => [(rd, .inr (5, [.int u.1, .int u.2, .ref ow, .ref tp, .ref lk, .int (nI k), .int 0, .int (nI k), .long le, .int wo, .int nu, .int si])), (tp, .inr (0, [.ref td, .int (nI k)]))])) := by
  refine CT.of (by decide) (nb rfl) ?_
  intro p e s m args below meth c C hr
  refine j_lv (lv' := [(0, .ref rd), (1, .int 5), (2, .int (nI pp))]) rfl ?_
  refine j_aload_n (pc := 0) C d_Reader_fail_0 rfl 0 rfl ?_
  refine j_get (pc := 1) C gf_Reader_44 0 rfl rfl d_Reader_fail_1 ?_
  refine j_if_ne (pc := 4) C (tgt := 17) d_Reader_fail_4 (by decide) (fun c1 => ?_) (fun c1 => ?_)
  · refine j_aload_n (pc := 17) C d_Reader_fail_17 rfl 0 rfl ?_
    refine j_aload_n (pc := 18) C d_Reader_fail_18 rfl 0 rfl ?_
    refine j_get (pc := 19) C gf_Reader_19 0 rfl rfl d_Reader_fail_19 ?_
    refine j_get (pc := 22) C gf_Reader_285 1 rfl rfl d_Reader_fail_22 ?_
    refine j_put (pc := 25) C pf_Reader_47 0 (ws' := [(rd, .inr (5, [.int fa, .int pl, .ref ow, .ref tp, .ref lk, .int (nI k), .int so, .int (nI rs), .long le, .int wo, .int nu, .int si])), (tp, .inr (0, [.ref td, .int (nI k)]))]) rfl rfl rfl (nl rfl) rfl d_Reader_fail_25 ?_
    refine j_aload_n (pc := 28) C d_Reader_fail_28 rfl 0 rfl ?_
    refine j_aload_n (pc := 29) C d_Reader_fail_29 rfl 0 rfl ?_
    refine j_get (pc := 30) C gf_Reader_47 0 rfl rfl d_Reader_fail_30 ?_
    refine j_put (pc := 33) C pf_Reader_62 0 (ws' := [(rd, .inr (5, [.int fa, .int pl, .ref ow, .ref tp, .ref lk, .int (nI k), .int so, .int (nI k), .long le, .int wo, .int nu, .int si])), (tp, .inr (0, [.ref td, .int (nI k)]))]) rfl rfl rfl (nl rfl) rfl d_Reader_fail_33 ?_
    refine j_aload_n (pc := 36) C d_Reader_fail_36 rfl 0 rfl ?_
    refine j_iconst (pc := 37) C (v := 0) d_Reader_fail_37 (by decide) ?_
    refine j_put (pc := 38) C pf_Reader_50 0 (ws' := [(rd, .inr (5, [.int fa, .int pl, .ref ow, .ref tp, .ref lk, .int (nI k), .int 0, .int (nI k), .long le, .int wo, .int nu, .int si])), (tp, .inr (0, [.ref td, .int (nI k)]))]) rfl rfl rfl (nl rfl) rfl d_Reader_fail_38 ?_
    exact j_vret (pc := 41) C hr (fa, pl) ⟨c1, cr_fail2 hg c1⟩ [0, 1] rfl (by decide) (by decide) (by decide) d_Reader_fail_41
  · refine j_aload_n (pc := 7) C d_Reader_fail_7 rfl 0 rfl ?_
    refine j_iload_n (pc := 8) C d_Reader_fail_8 rfl 1 rfl ?_
    refine j_put (pc := 9) C pf_Reader_44 0 (ws' := [(rd, .inr (5, [.int 5, .int pl, .ref ow, .ref tp, .ref lk, .int (nI ra), .int so, .int (nI rs), .long le, .int wo, .int nu, .int si])), (tp, .inr (0, [.ref td, .int (nI k)]))]) rfl rfl rfl (nl rfl) rfl d_Reader_fail_9 ?_
    refine j_aload_n (pc := 12) C d_Reader_fail_12 rfl 0 rfl ?_
    refine j_iload_n (pc := 13) C d_Reader_fail_13 rfl 2 rfl ?_
    refine j_put (pc := 14) C pf_Reader_9 0 (ws' := [(rd, .inr (5, [.int 5, .int (nI pp), .ref ow, .ref tp, .ref lk, .int (nI ra), .int so, .int (nI rs), .long le, .int wo, .int nu, .int si])), (tp, .inr (0, [.ref td, .int (nI k)]))]) rfl rfl rfl (nl rfl) rfl d_Reader_fail_14 ?_
    refine j_aload_n (pc := 17) C d_Reader_fail_17 rfl 0 rfl ?_
    refine j_aload_n (pc := 18) C d_Reader_fail_18 rfl 0 rfl ?_
    refine j_get (pc := 19) C gf_Reader_19 0 rfl rfl d_Reader_fail_19 ?_
    refine j_get (pc := 22) C gf_Reader_285 1 rfl rfl d_Reader_fail_22 ?_
    refine j_put (pc := 25) C pf_Reader_47 0 (ws' := [(rd, .inr (5, [.int 5, .int (nI pp), .ref ow, .ref tp, .ref lk, .int (nI k), .int so, .int (nI rs), .long le, .int wo, .int nu, .int si])), (tp, .inr (0, [.ref td, .int (nI k)]))]) rfl rfl rfl (nl rfl) rfl d_Reader_fail_25 ?_
    refine j_aload_n (pc := 28) C d_Reader_fail_28 rfl 0 rfl ?_
    refine j_aload_n (pc := 29) C d_Reader_fail_29 rfl 0 rfl ?_
    refine j_get (pc := 30) C gf_Reader_47 0 rfl rfl d_Reader_fail_30 ?_
    refine j_put (pc := 33) C pf_Reader_62 0 (ws' := [(rd, .inr (5, [.int 5, .int (nI pp), .ref ow, .ref tp, .ref lk, .int (nI k), .int so, .int (nI k), .long le, .int wo, .int nu, .int si])), (tp, .inr (0, [.ref td, .int (nI k)]))]) rfl rfl rfl (nl rfl) rfl d_Reader_fail_33 ?_
    refine j_aload_n (pc := 36) C d_Reader_fail_36 rfl 0 rfl ?_
    refine j_iconst (pc := 37) C (v := 0) d_Reader_fail_37 (by decide) ?_
    refine j_put (pc := 38) C pf_Reader_50 0 (ws' := [(rd, .inr (5, [.int 5, .int (nI pp), .ref ow, .ref tp, .ref lk, .int (nI k), .int 0, .int (nI k), .long le, .int wo, .int nu, .int si])), (tp, .inr (0, [.ref td, .int (nI k)]))]) rfl rfl rfl (nl rfl) rfl d_Reader_fail_38 ?_
    exact j_vret (pc := 41) C hr (5, nI pp) ⟨(show ¬ (5 : Int32) = 0 by decide), cr_fail1 (kd := 5) hg c1 (by decide) (by decide) (by omega)⟩ [0, 1] rfl (by decide) (by decide) (by decide) d_Reader_fail_41
set_option maxHeartbeats 4000000 in
set_option maxRecDepth 100000 in
theorem c_rF_knowWord (l : Launch) (D : va_G) (y : Nat → ClassId) (rd : Nat) (ow : Nat) (tp : Nat) (lk : Nat) (td : Nat) (fa : Int32) (pl : Int32) (so : Int32) (le : Int64) (wo : Int32) (nu : Int32) (si : Int32) (ra : Nat) (rs : Nat) (k : Nat) (tx : Nat → Nat) (ww : Nat → Int64) (ha : ra ≤ k) (hs : rs ≤ ra) (hk : k ≤ 1600) (hB : ∀ j, tx j < 256) (hl : ∀ i, rs ≤ i → i < ra → 97 ≤ tx i ∧ tx i ≤ 122) : CT l D y ⟨"NineBoards$Reader", "knowWord", "()V"⟩ prog_8_method_34_code 2 none ({ frames := 0, cells := 0, slots := 0, locals := 0 } : Room) [.ref rd] [(rd, .inr (5, [.int fa, .int pl, .ref ow, .ref tp, .ref lk, .int (nI ra), .int so, .int (nI rs), .long le, .int wo, .int nu, .int si])), (tp, .inr (0, [.ref td, .int (nI k)])), (td, .inl (y 0, 1600, .inl (tby tx))), (ow, .inl (y 1, 33, .inr (.inl ww)))] (QV D [(rd, .inr (5, [.int fa, .int pl, .ref ow, .ref tp, .ref lk, .int (nI ra), .int so, .int (nI rs), .long le, .int wo, .int nu, .int si])), (tp, .inr (0, [.ref td, .int (nI k)])), (td, .inl (y 0, 1600, .inl (tby tx))), (ow, .inl (y 1, 33, .inr (.inl ww)))] (fun (u : Int64 × Int32) => u.1 = nL (pkn tx rs (min 12 (ra - rs))) ∧ u.2 = wlF ww u.1 33) (fun u => [(rd, .inr (5, [.int fa, .int pl, .ref ow, .ref tp, .ref lk, .int (nI ra), .int so, .int (nI rs), .long u.1, .int u.2, .int nu, .int si])), (tp, .inr (0, [.ref td, .int (nI k)])), (td, .inl (y 0, 1600, .inl (tby tx))), (ow, .inl (y 1, 33, .inr (.inl ww)))])) := by
  refine CT.of (by decide) (nb rfl) ?_
  intro p e s m args below meth c C hr
  refine j_lv (lv' := [(0, .ref rd)]) rfl ?_
  refine j_aload_n (pc := 0) C d_Reader_knowWord_0 rfl 0 rfl ?_
  refine j_lconst (pc := 1) C (v := 0) d_Reader_knowWord_1 (by decide) ?_
  refine j_put (pc := 2) C pf_Reader_278 0 (ws' := [(rd, .inr (5, [.int fa, .int pl, .ref ow, .ref tp, .ref lk, .int (nI ra), .int so, .int (nI rs), .long 0, .int wo, .int nu, .int si])), (tp, .inr (0, [.ref td, .int (nI k)])), (td, .inl (y 0, 1600, .inl (tby tx))), (ow, .inl (y 1, 33, .inr (.inl ww)))]) rfl rfl rfl (nl rfl) rfl d_Reader_knowWord_2 ?_
  refine j_aload_n (pc := 5) C d_Reader_knowWord_5 rfl 0 rfl ?_
  refine j_get (pc := 6) C gf_Reader_62 0 rfl rfl d_Reader_knowWord_6 ?_
  refine j_istore_n (pc := 9) C (lv' := [(1, .int (nI rs)), (0, .ref rd)]) d_Reader_knowWord_9 rfl (by decide) rfl ?_
  refine j_loop (α := Nat × Int64) (fun a => ra - a.1) (fun a => (rs ≤ a.1) ∧ (a.1 ≤ ra) ∧ (a.1 ≤ rs + 12) ∧ (a.2 = nL (pkn tx rs (a.1 - rs)))) (fun a => [(rd, .inr (5, [.int fa, .int pl, .ref ow, .ref tp, .ref lk, .int (nI ra), .int so, .int (nI rs), .long a.2, .int wo, .int nu, .int si])), (tp, .inr (0, [.ref td, .int (nI k)])), (td, .inl (y 0, 1600, .inl (tby tx))), (ow, .inl (y 1, 33, .inr (.inl ww)))]) (fun a => [(1, .int (nI a.1)), (0, .ref rd)]) (rs, 0) rfl rfl ⟨(show rs ≤ rs by omega), (show rs ≤ ra by omega), (show rs ≤ rs + 12 by omega), (show 0 = nL (pkn tx rs (rs - rs)) by rw [Nat.sub_self]; rfl)⟩ ?_
  rintro ⟨qz, lz⟩ hP18 ih19
  obtain ⟨hq__, hq2__, hq3__, hle__⟩ := hP18
  have hq_ : rs ≤ qz := hq__
  have hq2_ : qz ≤ ra := hq2__
  have hq3_ : qz ≤ rs + 12 := hq3__
  have hle_ : lz = nL (pkn tx rs (qz - rs)) := hle__
  refine j_ws (ws' := [(rd, .inr (5, [.int fa, .int pl, .ref ow, .ref tp, .ref lk, .int (nI ra), .int so, .int (nI rs), .long lz, .int wo, .int nu, .int si])), (tp, .inr (0, [.ref td, .int (nI k)])), (td, .inl (y 0, 1600, .inl (tby tx))), (ow, .inl (y 1, 33, .inr (.inl ww)))]) rfl ?_
  refine j_lv (lv' := [(1, .int (nI qz)), (0, .ref rd)]) rfl ?_
  refine j_iload_n (pc := 10) C d_Reader_knowWord_10 rfl 0 rfl ?_
  refine j_aload_n (pc := 11) C d_Reader_knowWord_11 rfl 1 rfl ?_
  refine j_get (pc := 12) C gf_Reader_47 0 rfl rfl d_Reader_knowWord_12 ?_
  by_cases c20 : ra ≤ qz
  · refine j_icmp_geT (pc := 15) C (tgt := 68) d_Reader_knowWord_15 (by decide) (show nI ra ≤ nI qz from nI_le (by omega) (by omega)) ?_
    refine j_aload_n (pc := 68) C d_Reader_knowWord_68 rfl 1 rfl ?_
    refine j_iconst (pc := 69) C (v := (-1)) d_Reader_knowWord_69 (by decide) ?_
    refine j_put (pc := 70) C pf_Reader_80 0 (ws' := [(rd, .inr (5, [.int fa, .int pl, .ref ow, .ref tp, .ref lk, .int (nI ra), .int so, .int (nI rs), .long lz, .int (-1), .int nu, .int si])), (tp, .inr (0, [.ref td, .int (nI k)])), (td, .inl (y 0, 1600, .inl (tby tx))), (ow, .inl (y 1, 33, .inr (.inl ww)))]) rfl rfl rfl (nl rfl) rfl d_Reader_knowWord_70 ?_
    refine j_iconst (pc := 73) C (v := 0) d_Reader_knowWord_73 (by decide) ?_
    refine j_istore_n (pc := 74) C (lv' := [(1, .int 0), (0, .ref rd)]) d_Reader_knowWord_74 rfl (by decide) rfl ?_
    refine j_loop (α := Nat × Int32) (fun a => 33 - a.1) (fun a => (a.1 ≤ 33) ∧ (a.2 = wlF ww lz a.1)) (fun a => [(rd, .inr (5, [.int fa, .int pl, .ref ow, .ref tp, .ref lk, .int (nI ra), .int so, .int (nI rs), .long lz, .int a.2, .int nu, .int si])), (tp, .inr (0, [.ref td, .int (nI k)])), (td, .inl (y 0, 1600, .inl (tby tx))), (ow, .inl (y 1, 33, .inr (.inl ww)))]) (fun a => [(1, .int (nI a.1)), (0, .ref rd)]) (0, (-1)) rfl rfl ⟨(show 0 ≤ 33 by omega), (show (-1) = wlF ww lz 0 from rfl)⟩ ?_
    rintro ⟨wz, vz⟩ hP23 ih24
    obtain ⟨hw__, hv__⟩ := hP23
    have hw_ : wz ≤ 33 := hw__
    have hv_ : vz = wlF ww lz wz := hv__
    refine j_ws (ws' := [(rd, .inr (5, [.int fa, .int pl, .ref ow, .ref tp, .ref lk, .int (nI ra), .int so, .int (nI rs), .long lz, .int vz, .int nu, .int si])), (tp, .inr (0, [.ref td, .int (nI k)])), (td, .inl (y 0, 1600, .inl (tby tx))), (ow, .inl (y 1, 33, .inr (.inl ww)))]) rfl ?_
    refine j_lv (lv' := [(1, .int (nI wz)), (0, .ref rd)]) rfl ?_
    refine j_iload_n (pc := 75) C d_Reader_knowWord_75 rfl 0 rfl ?_
    refine j_bipush (pc := 76) C (v := 33) d_Reader_knowWord_76 (by decide) ?_
    by_cases c25 : 33 ≤ wz
    · refine j_icmp_geT (pc := 78) C (tgt := 106) d_Reader_knowWord_78 (by decide) (show nI 33 ≤ nI wz from nI_le (by omega) (by omega)) ?_
      exact j_vret (pc := 106) C hr (lz, vz) ⟨(show lz = nL (pkn tx rs (min 12 (ra - rs))) by rw [hle_, show min 12 (ra - rs) = qz - rs by omega]), (show vz = wlF ww lz 33 by rw [hv_, show wz = 33 by omega])⟩ [0, 1, 2, 3] rfl (by decide) (by decide) (by decide) d_Reader_knowWord_106
    · refine j_icmp_geF (pc := 78) C (tgt := 106) d_Reader_knowWord_78 (by decide) (show ¬ nI 33 ≤ nI wz from nI_ge (by omega) (by omega)) ?_
      refine j_aload_n (pc := 81) C d_Reader_knowWord_81 rfl 1 rfl ?_
      refine j_get (pc := 82) C gf_Reader_15 0 rfl rfl d_Reader_knowWord_82 ?_
      refine j_iload_n (pc := 85) C d_Reader_knowWord_85 rfl 0 rfl ?_
      refine j_lald (pc := 86) C 3 rfl (v := ww wz) (vp_in_nI (by omega) (by decide)) (by rw [nI_clamp (by omega)]) d_Reader_knowWord_86 ?_
      refine j_aload_n (pc := 87) C d_Reader_knowWord_87 rfl 1 rfl ?_
      refine j_get (pc := 88) C gf_Reader_278 0 rfl rfl d_Reader_knowWord_88 ?_
      refine j_lcmp (pc := 91) C (v := lg_cmp (ww wz) lz) d_Reader_knowWord_91 rfl ?_
      refine j_if_ne (pc := 92) C (tgt := 100) d_Reader_knowWord_92 (by decide) (fun c26 => ?_) (fun c26 => ?_)
      · refine j_iinc (pc := 100) C (v := nI (wz + 1)) (lv' := [(1, .int (nI (wz + 1))), (0, .ref rd)]) d_Reader_knowWord_100 0 rfl (nI_add _ _) (by decide) rfl ?_
        refine j_goto (pc := 103) C (tgt := 75) d_Reader_knowWord_103 (by decide) ?_
        exact ih24 ((wz + 1), vz) ⟨(show (wz + 1) ≤ 33 by omega), (show vz = wlF ww lz (wz + 1) by first | exact (if_pos ((lg_cmp_eq _ _).mp c26)).symm | (rw [hv_]; exact (if_neg (fun e => c26 ((lg_cmp_eq _ _).mpr e))).symm))⟩ (show 33 - (wz + 1) < 33 - wz by omega)
      · refine j_aload_n (pc := 95) C d_Reader_knowWord_95 rfl 1 rfl ?_
        refine j_iload_n (pc := 96) C d_Reader_knowWord_96 rfl 0 rfl ?_
        refine j_put (pc := 97) C pf_Reader_80 0 (ws' := [(rd, .inr (5, [.int fa, .int pl, .ref ow, .ref tp, .ref lk, .int (nI ra), .int so, .int (nI rs), .long lz, .int (nI wz), .int nu, .int si])), (tp, .inr (0, [.ref td, .int (nI k)])), (td, .inl (y 0, 1600, .inl (tby tx))), (ow, .inl (y 1, 33, .inr (.inl ww)))]) rfl rfl rfl (nl rfl) rfl d_Reader_knowWord_97 ?_
        refine j_iinc (pc := 100) C (v := nI (wz + 1)) (lv' := [(1, .int (nI (wz + 1))), (0, .ref rd)]) d_Reader_knowWord_100 0 rfl (nI_add _ _) (by decide) rfl ?_
        refine j_goto (pc := 103) C (tgt := 75) d_Reader_knowWord_103 (by decide) ?_
        exact ih24 ((wz + 1), nI wz) ⟨(show (wz + 1) ≤ 33 by omega), (show (nI wz) = wlF ww lz (wz + 1) by first | exact (if_pos ((lg_cmp_eq _ _).mp c26)).symm | (rw [hv_]; exact (if_neg (fun e => c26 ((lg_cmp_eq _ _).mpr e))).symm))⟩ (show 33 - (wz + 1) < 33 - wz by omega)
  · refine j_icmp_geF (pc := 15) C (tgt := 68) d_Reader_knowWord_15 (by decide) (show ¬ nI ra ≤ nI qz from nI_ge (by omega) (by omega)) ?_
    refine j_iload_n (pc := 18) C d_Reader_knowWord_18 rfl 0 rfl ?_
    refine j_aload_n (pc := 19) C d_Reader_knowWord_19 rfl 1 rfl ?_
    refine j_get (pc := 20) C gf_Reader_62 0 rfl rfl d_Reader_knowWord_20 ?_
    refine j_bipush (pc := 23) C (v := 12) d_Reader_knowWord_23 (by decide) ?_
    refine j_iadd (pc := 25) C (v := nI (rs + 12)) d_Reader_knowWord_25 (nI_add _ _) ?_
    by_cases c27 : (rs + 12) ≤ qz
    · refine j_icmp_geT (pc := 26) C (tgt := 68) d_Reader_knowWord_26 (by decide) (show nI (rs + 12) ≤ nI qz from nI_le (by omega) (by omega)) ?_
      refine j_aload_n (pc := 68) C d_Reader_knowWord_68 rfl 1 rfl ?_
      refine j_iconst (pc := 69) C (v := (-1)) d_Reader_knowWord_69 (by decide) ?_
      refine j_put (pc := 70) C pf_Reader_80 0 (ws' := [(rd, .inr (5, [.int fa, .int pl, .ref ow, .ref tp, .ref lk, .int (nI ra), .int so, .int (nI rs), .long lz, .int (-1), .int nu, .int si])), (tp, .inr (0, [.ref td, .int (nI k)])), (td, .inl (y 0, 1600, .inl (tby tx))), (ow, .inl (y 1, 33, .inr (.inl ww)))]) rfl rfl rfl (nl rfl) rfl d_Reader_knowWord_70 ?_
      refine j_iconst (pc := 73) C (v := 0) d_Reader_knowWord_73 (by decide) ?_
      refine j_istore_n (pc := 74) C (lv' := [(1, .int 0), (0, .ref rd)]) d_Reader_knowWord_74 rfl (by decide) rfl ?_
      refine j_loop (α := Nat × Int32) (fun a => 33 - a.1) (fun a => (a.1 ≤ 33) ∧ (a.2 = wlF ww lz a.1)) (fun a => [(rd, .inr (5, [.int fa, .int pl, .ref ow, .ref tp, .ref lk, .int (nI ra), .int so, .int (nI rs), .long lz, .int a.2, .int nu, .int si])), (tp, .inr (0, [.ref td, .int (nI k)])), (td, .inl (y 0, 1600, .inl (tby tx))), (ow, .inl (y 1, 33, .inr (.inl ww)))]) (fun a => [(1, .int (nI a.1)), (0, .ref rd)]) (0, (-1)) rfl rfl ⟨(show 0 ≤ 33 by omega), (show (-1) = wlF ww lz 0 from rfl)⟩ ?_
      rintro ⟨wz, vz⟩ hP30 ih31
      obtain ⟨hw__, hv__⟩ := hP30
      have hw_ : wz ≤ 33 := hw__
      have hv_ : vz = wlF ww lz wz := hv__
      refine j_ws (ws' := [(rd, .inr (5, [.int fa, .int pl, .ref ow, .ref tp, .ref lk, .int (nI ra), .int so, .int (nI rs), .long lz, .int vz, .int nu, .int si])), (tp, .inr (0, [.ref td, .int (nI k)])), (td, .inl (y 0, 1600, .inl (tby tx))), (ow, .inl (y 1, 33, .inr (.inl ww)))]) rfl ?_
      refine j_lv (lv' := [(1, .int (nI wz)), (0, .ref rd)]) rfl ?_
      refine j_iload_n (pc := 75) C d_Reader_knowWord_75 rfl 0 rfl ?_
      refine j_bipush (pc := 76) C (v := 33) d_Reader_knowWord_76 (by decide) ?_
      by_cases c32 : 33 ≤ wz
      · refine j_icmp_geT (pc := 78) C (tgt := 106) d_Reader_knowWord_78 (by decide) (show nI 33 ≤ nI wz from nI_le (by omega) (by omega)) ?_
        exact j_vret (pc := 106) C hr (lz, vz) ⟨(show lz = nL (pkn tx rs (min 12 (ra - rs))) by rw [hle_, show min 12 (ra - rs) = qz - rs by omega]), (show vz = wlF ww lz 33 by rw [hv_, show wz = 33 by omega])⟩ [0, 1, 2, 3] rfl (by decide) (by decide) (by decide) d_Reader_knowWord_106
      · refine j_icmp_geF (pc := 78) C (tgt := 106) d_Reader_knowWord_78 (by decide) (show ¬ nI 33 ≤ nI wz from nI_ge (by omega) (by omega)) ?_
        refine j_aload_n (pc := 81) C d_Reader_knowWord_81 rfl 1 rfl ?_
        refine j_get (pc := 82) C gf_Reader_15 0 rfl rfl d_Reader_knowWord_82 ?_
        refine j_iload_n (pc := 85) C d_Reader_knowWord_85 rfl 0 rfl ?_
        refine j_lald (pc := 86) C 3 rfl (v := ww wz) (vp_in_nI (by omega) (by decide)) (by rw [nI_clamp (by omega)]) d_Reader_knowWord_86 ?_
        refine j_aload_n (pc := 87) C d_Reader_knowWord_87 rfl 1 rfl ?_
        refine j_get (pc := 88) C gf_Reader_278 0 rfl rfl d_Reader_knowWord_88 ?_
        refine j_lcmp (pc := 91) C (v := lg_cmp (ww wz) lz) d_Reader_knowWord_91 rfl ?_
        refine j_if_ne (pc := 92) C (tgt := 100) d_Reader_knowWord_92 (by decide) (fun c33 => ?_) (fun c33 => ?_)
        · refine j_iinc (pc := 100) C (v := nI (wz + 1)) (lv' := [(1, .int (nI (wz + 1))), (0, .ref rd)]) d_Reader_knowWord_100 0 rfl (nI_add _ _) (by decide) rfl ?_
          refine j_goto (pc := 103) C (tgt := 75) d_Reader_knowWord_103 (by decide) ?_
          exact ih31 ((wz + 1), vz) ⟨(show (wz + 1) ≤ 33 by omega), (show vz = wlF ww lz (wz + 1) by first | exact (if_pos ((lg_cmp_eq _ _).mp c33)).symm | (rw [hv_]; exact (if_neg (fun e => c33 ((lg_cmp_eq _ _).mpr e))).symm))⟩ (show 33 - (wz + 1) < 33 - wz by omega)
        · refine j_aload_n (pc := 95) C d_Reader_knowWord_95 rfl 1 rfl ?_
          refine j_iload_n (pc := 96) C d_Reader_knowWord_96 rfl 0 rfl ?_
          refine j_put (pc := 97) C pf_Reader_80 0 (ws' := [(rd, .inr (5, [.int fa, .int pl, .ref ow, .ref tp, .ref lk, .int (nI ra), .int so, .int (nI rs), .long lz, .int (nI wz), .int nu, .int si])), (tp, .inr (0, [.ref td, .int (nI k)])), (td, .inl (y 0, 1600, .inl (tby tx))), (ow, .inl (y 1, 33, .inr (.inl ww)))]) rfl rfl rfl (nl rfl) rfl d_Reader_knowWord_97 ?_
          refine j_iinc (pc := 100) C (v := nI (wz + 1)) (lv' := [(1, .int (nI (wz + 1))), (0, .ref rd)]) d_Reader_knowWord_100 0 rfl (nI_add _ _) (by decide) rfl ?_
          refine j_goto (pc := 103) C (tgt := 75) d_Reader_knowWord_103 (by decide) ?_
          exact ih31 ((wz + 1), nI wz) ⟨(show (wz + 1) ≤ 33 by omega), (show (nI wz) = wlF ww lz (wz + 1) by first | exact (if_pos ((lg_cmp_eq _ _).mp c33)).symm | (rw [hv_]; exact (if_neg (fun e => c33 ((lg_cmp_eq _ _).mpr e))).symm))⟩ (show 33 - (wz + 1) < 33 - wz by omega)
    · refine j_icmp_geF (pc := 26) C (tgt := 68) d_Reader_knowWord_26 (by decide) (show ¬ nI (rs + 12) ≤ nI qz from nI_ge (by omega) (by omega)) ?_
      refine j_aload_n (pc := 29) C d_Reader_knowWord_29 rfl 1 rfl ?_
      refine j_dup (pc := 30) C d_Reader_knowWord_30 rfl ?_
      refine j_get (pc := 31) C gf_Reader_278 0 rfl rfl d_Reader_knowWord_31 ?_
      refine j_aload_n (pc := 34) C d_Reader_knowWord_34 rfl 1 rfl ?_
      refine j_get (pc := 35) C gf_Reader_19 0 rfl rfl d_Reader_knowWord_35 ?_
      refine j_get (pc := 38) C gf_Reader_288 1 rfl rfl d_Reader_knowWord_38 ?_
      refine j_iload_n (pc := 41) C d_Reader_knowWord_41 rfl 0 rfl ?_
      have hb34 : tx qz < 256 := hB qz
      obtain ⟨hb35, hb36⟩ := hl qz (by omega) (by omega)
      refine j_iald (pc := 42) C 2 rfl (v := nI (tx qz)) (vp_in_nI (by omega) (by decide)) (by rw [nI_clamp (by omega)]; rfl) d_Reader_knowWord_42 ?_
      refine j_bipush (pc := 43) C (v := 97) d_Reader_knowWord_43 (by decide) ?_
      refine j_isub (pc := 45) C (v := nI ((tx qz) - 97)) d_Reader_knowWord_45 (pk_sub (a := (tx qz)) (b := 97) (by omega)) ?_
      refine j_iconst (pc := 46) C (v := 1) d_Reader_knowWord_46 (by decide) ?_
      refine j_iadd (pc := 47) C (v := nI (((tx qz) - 97) + 1)) d_Reader_knowWord_47 (nI_add _ _) ?_
      refine j_i2l (pc := 48) C (v := (nI (((tx qz) - 97) + 1)).toInt64) d_Reader_knowWord_48 rfl ?_
      refine j_iconst (pc := 49) C (v := 5) d_Reader_knowWord_49 (by decide) ?_
      refine j_iload_n (pc := 50) C d_Reader_knowWord_50 rfl 0 rfl ?_
      refine j_aload_n (pc := 51) C d_Reader_knowWord_51 rfl 1 rfl ?_
      refine j_get (pc := 52) C gf_Reader_62 0 rfl rfl d_Reader_knowWord_52 ?_
      refine j_isub (pc := 55) C (v := nI (qz - rs)) d_Reader_knowWord_55 (pk_sub (by omega)) ?_
      refine j_imul (pc := 56) C (v := nI (5 * (qz - rs))) d_Reader_knowWord_56 (pk_mul _ _) ?_
      refine j_lshl (pc := 57) C (v := ((nI (((tx qz) - 97) + 1)).toInt64) <<< ((nI (5 * (qz - rs))).toInt64 &&& 63)) d_Reader_knowWord_57 rfl ?_
      refine j_lor (pc := 58) C (v := lz ||| (((nI (((tx qz) - 97) + 1)).toInt64) <<< ((nI (5 * (qz - rs))).toInt64 &&& 63))) d_Reader_knowWord_58 rfl ?_
      refine j_put (pc := 59) C pf_Reader_278 0 (ws' := [(rd, .inr (5, [.int fa, .int pl, .ref ow, .ref tp, .ref lk, .int (nI ra), .int so, .int (nI rs), .long (lz ||| (((nI (((tx qz) - 97) + 1)).toInt64) <<< ((nI (5 * (qz - rs))).toInt64 &&& 63))), .int wo, .int nu, .int si])), (tp, .inr (0, [.ref td, .int (nI k)])), (td, .inl (y 0, 1600, .inl (tby tx))), (ow, .inl (y 1, 33, .inr (.inl ww)))]) rfl rfl rfl (nl rfl) rfl d_Reader_knowWord_59 ?_
      refine j_iinc (pc := 62) C (v := nI (qz + 1)) (lv' := [(1, .int (nI (qz + 1))), (0, .ref rd)]) d_Reader_knowWord_62 0 rfl (nI_add _ _) (by decide) rfl ?_
      refine j_goto (pc := 65) C (tgt := 10) d_Reader_knowWord_65 (by decide) ?_
      exact ih19 ((qz + 1), lz ||| (((nI (((tx qz) - 97) + 1)).toInt64) <<< ((nI (5 * (qz - rs))).toInt64 &&& 63))) ⟨(show rs ≤ (qz + 1) by omega), (show (qz + 1) ≤ ra by omega), (show (qz + 1) ≤ rs + 12 by omega), (show (lz ||| (((nI (((tx qz) - 97) + 1)).toInt64) <<< ((nI (5 * (qz - rs))).toInt64 &&& 63))) = nL (pkn tx rs ((qz + 1) - rs)) from or_pk hle_ (by omega) (by omega) (fun i e1 e2 => hl i e1 (by omega)) rfl)⟩ (show ra - (qz + 1) < ra - qz by omega)
set_option maxHeartbeats 4000000 in
set_option maxRecDepth 100000 in
theorem c_rF_knowNumber (l : Launch) (D : va_G) (y : Nat → ClassId) (rd : Nat) (ow : Nat) (tp : Nat) (lk : Nat) (td : Nat) (fa : Int32) (pl : Int32) (so : Int32) (le : Int64) (wo : Int32) (nu : Int32) (si : Int32) (ra : Nat) (rs : Nat) (k : Nat) (tx : Nat → Nat) (ha : ra ≤ k) (hs : rs ≤ ra) (hk : k ≤ 1600) (hB : ∀ j, tx j < 256) (hl : ∀ i, rs ≤ i → i < ra → 48 ≤ tx i ∧ tx i ≤ 57) : CT l D y ⟨"NineBoards$Reader", "knowNumber", "()V"⟩ prog_8_method_35_code 2 none ({ frames := 0, cells := 0, slots := 0, locals := 0 } : Room) [.ref rd] [(rd, .inr (5, [.int fa, .int pl, .ref ow, .ref tp, .ref lk, .int (nI ra), .int so, .int (nI rs), .long le, .int wo, .int nu, .int si])), (tp, .inr (0, [.ref td, .int (nI k)])), (td, .inl (y 0, 1600, .inl (tby tx)))] (QV D [(rd, .inr (5, [.int fa, .int pl, .ref ow, .ref tp, .ref lk, .int (nI ra), .int so, .int (nI rs), .long le, .int wo, .int nu, .int si])), (tp, .inr (0, [.ref td, .int (nI k)])), (td, .inl (y 0, 1600, .inl (tby tx)))] (fun (u : Int32) => u = nI (tvn tx rs (min 4 (ra - rs)))) (fun u => [(rd, .inr (5, [.int fa, .int pl, .ref ow, .ref tp, .ref lk, .int (nI ra), .int so, .int (nI rs), .long le, .int wo, .int u, .int si])), (tp, .inr (0, [.ref td, .int (nI k)])), (td, .inl (y 0, 1600, .inl (tby tx)))])) := by
  refine CT.of (by decide) (nb rfl) ?_
  intro p e s m args below meth c C hr
  refine j_lv (lv' := [(0, .ref rd)]) rfl ?_
  refine j_aload_n (pc := 0) C d_Reader_knowNumber_0 rfl 0 rfl ?_
  refine j_iconst (pc := 1) C (v := 0) d_Reader_knowNumber_1 (by decide) ?_
  refine j_put (pc := 2) C pf_Reader_275 0 (ws' := [(rd, .inr (5, [.int fa, .int pl, .ref ow, .ref tp, .ref lk, .int (nI ra), .int so, .int (nI rs), .long le, .int wo, .int 0, .int si])), (tp, .inr (0, [.ref td, .int (nI k)])), (td, .inl (y 0, 1600, .inl (tby tx)))]) rfl rfl rfl (nl rfl) rfl d_Reader_knowNumber_2 ?_
  refine j_aload_n (pc := 5) C d_Reader_knowNumber_5 rfl 0 rfl ?_
  refine j_get (pc := 6) C gf_Reader_62 0 rfl rfl d_Reader_knowNumber_6 ?_
  refine j_istore_n (pc := 9) C (lv' := [(1, .int (nI rs)), (0, .ref rd)]) d_Reader_knowNumber_9 rfl (by decide) rfl ?_
  refine j_loop (α := Nat × Nat) (fun a => ra - a.1) (fun a => (rs ≤ a.1) ∧ (a.1 ≤ ra) ∧ (a.1 ≤ rs + 4) ∧ (a.2 = tvn tx rs (a.1 - rs))) (fun a => [(rd, .inr (5, [.int fa, .int pl, .ref ow, .ref tp, .ref lk, .int (nI ra), .int so, .int (nI rs), .long le, .int wo, .int (nI a.2), .int si])), (tp, .inr (0, [.ref td, .int (nI k)])), (td, .inl (y 0, 1600, .inl (tby tx)))]) (fun a => [(1, .int (nI a.1)), (0, .ref rd)]) (rs, 0) rfl rfl ⟨(show rs ≤ rs by omega), (show rs ≤ ra by omega), (show rs ≤ rs + 4 by omega), (show 0 = tvn tx rs (rs - rs) by rw [Nat.sub_self]; rfl)⟩ ?_
  rintro ⟨qz, mz⟩ hP6 ih7
  obtain ⟨hq__, hq2__, hq3__, hnu__⟩ := hP6
  have hq_ : rs ≤ qz := hq__
  have hq2_ : qz ≤ ra := hq2__
  have hq3_ : qz ≤ rs + 4 := hq3__
  have hnu_ : mz = tvn tx rs (qz - rs) := hnu__
  refine j_ws (ws' := [(rd, .inr (5, [.int fa, .int pl, .ref ow, .ref tp, .ref lk, .int (nI ra), .int so, .int (nI rs), .long le, .int wo, .int (nI mz), .int si])), (tp, .inr (0, [.ref td, .int (nI k)])), (td, .inl (y 0, 1600, .inl (tby tx)))]) rfl ?_
  refine j_lv (lv' := [(1, .int (nI qz)), (0, .ref rd)]) rfl ?_
  refine j_iload_n (pc := 10) C d_Reader_knowNumber_10 rfl 0 rfl ?_
  refine j_aload_n (pc := 11) C d_Reader_knowNumber_11 rfl 1 rfl ?_
  refine j_get (pc := 12) C gf_Reader_47 0 rfl rfl d_Reader_knowNumber_12 ?_
  by_cases c8 : ra ≤ qz
  · refine j_icmp_geT (pc := 15) C (tgt := 58) d_Reader_knowNumber_15 (by decide) (show nI ra ≤ nI qz from nI_le (by omega) (by omega)) ?_
    exact j_vret (pc := 58) C hr (nI mz) (show nI mz = nI (tvn tx rs (min 4 (ra - rs))) by rw [hnu_, show min 4 (ra - rs) = qz - rs by omega]) [0, 1, 2] rfl (by decide) (by decide) (by decide) d_Reader_knowNumber_58
  · refine j_icmp_geF (pc := 15) C (tgt := 58) d_Reader_knowNumber_15 (by decide) (show ¬ nI ra ≤ nI qz from nI_ge (by omega) (by omega)) ?_
    refine j_iload_n (pc := 18) C d_Reader_knowNumber_18 rfl 0 rfl ?_
    refine j_aload_n (pc := 19) C d_Reader_knowNumber_19 rfl 1 rfl ?_
    refine j_get (pc := 20) C gf_Reader_62 0 rfl rfl d_Reader_knowNumber_20 ?_
    refine j_iconst (pc := 23) C (v := 4) d_Reader_knowNumber_23 (by decide) ?_
    refine j_iadd (pc := 24) C (v := nI (rs + 4)) d_Reader_knowNumber_24 (nI_add _ _) ?_
    by_cases c9 : (rs + 4) ≤ qz
    · refine j_icmp_geT (pc := 25) C (tgt := 58) d_Reader_knowNumber_25 (by decide) (show nI (rs + 4) ≤ nI qz from nI_le (by omega) (by omega)) ?_
      exact j_vret (pc := 58) C hr (nI mz) (show nI mz = nI (tvn tx rs (min 4 (ra - rs))) by rw [hnu_, show min 4 (ra - rs) = qz - rs by omega]) [0, 1, 2] rfl (by decide) (by decide) (by decide) d_Reader_knowNumber_58
    · refine j_icmp_geF (pc := 25) C (tgt := 58) d_Reader_knowNumber_25 (by decide) (show ¬ nI (rs + 4) ≤ nI qz from nI_ge (by omega) (by omega)) ?_
      refine j_aload_n (pc := 28) C d_Reader_knowNumber_28 rfl 1 rfl ?_
      refine j_bipush (pc := 29) C (v := 10) d_Reader_knowNumber_29 (by decide) ?_
      refine j_aload_n (pc := 31) C d_Reader_knowNumber_31 rfl 1 rfl ?_
      refine j_get (pc := 32) C gf_Reader_275 0 rfl rfl d_Reader_knowNumber_32 ?_
      refine j_imul (pc := 35) C (v := nI (10 * mz)) d_Reader_knowNumber_35 (pk_mul _ _) ?_
      refine j_aload_n (pc := 36) C d_Reader_knowNumber_36 rfl 1 rfl ?_
      refine j_get (pc := 37) C gf_Reader_19 0 rfl rfl d_Reader_knowNumber_37 ?_
      refine j_get (pc := 40) C gf_Reader_288 1 rfl rfl d_Reader_knowNumber_40 ?_
      refine j_iload_n (pc := 43) C d_Reader_knowNumber_43 rfl 0 rfl ?_
      have hb10 : tx qz < 256 := hB qz
      obtain ⟨hb11, hb12⟩ := hl qz (by omega) (by omega)
      refine j_iald (pc := 44) C 2 rfl (v := nI (tx qz)) (vp_in_nI (by omega) (by decide)) (by rw [nI_clamp (by omega)]; rfl) d_Reader_knowNumber_44 ?_
      refine j_iadd (pc := 45) C (v := nI ((10 * mz) + (tx qz))) d_Reader_knowNumber_45 (nI_add _ _) ?_
      refine j_bipush (pc := 46) C (v := 48) d_Reader_knowNumber_46 (by decide) ?_
      refine j_isub (pc := 48) C (v := nI (((10 * mz) + (tx qz)) - 48)) d_Reader_knowNumber_48 (pk_sub (a := ((10 * mz) + (tx qz))) (b := 48) (by omega)) ?_
      refine j_put (pc := 49) C pf_Reader_275 0 (ws' := [(rd, .inr (5, [.int fa, .int pl, .ref ow, .ref tp, .ref lk, .int (nI ra), .int so, .int (nI rs), .long le, .int wo, .int (nI (((10 * mz) + (tx qz)) - 48)), .int si])), (tp, .inr (0, [.ref td, .int (nI k)])), (td, .inl (y 0, 1600, .inl (tby tx)))]) rfl rfl rfl (nl rfl) rfl d_Reader_knowNumber_49 ?_
      refine j_iinc (pc := 52) C (v := nI (qz + 1)) (lv' := [(1, .int (nI (qz + 1))), (0, .ref rd)]) d_Reader_knowNumber_52 0 rfl (nI_add _ _) (by decide) rfl ?_
      refine j_goto (pc := 55) C (tgt := 10) d_Reader_knowNumber_55 (by decide) ?_
      exact ih7 ((qz + 1), (((10 * mz) + (tx qz)) - 48)) ⟨(show rs ≤ (qz + 1) by omega), (show (qz + 1) ≤ ra by omega), (show (qz + 1) ≤ rs + 4 by omega), (show (((10 * mz) + (tx qz)) - 48) = tvn tx rs ((qz + 1) - rs) by rw [show qz + 1 - rs = (qz - rs) + 1 by omega, tvn, ← hnu_, show rs + (qz - rs) = qz by omega]; omega)⟩ (show ra - (qz + 1) < ra - qz by omega)
