/-- the reference's own object: where its rows lie, and its numbers -/
abbrev MB (mo : Nat) (ad : Nat → Nat) (x1 x2 x3 x4 x5 x6 x7 x8 x42 x49 x51 x53 x54 x59 x61 x64 x66 x67 : Int32) (x76 : Int64) (x78 : Int32) : Nat × va_E := (mo, .inr (10, [.ref (ad 0), .int x1, .int x2, .int x3, .int x4, .int x5, .int x6, .int x7, .int x8, .ref (ad 9), .ref (ad 10), .ref (ad 11), .ref (ad 12), .ref (ad 13), .ref (ad 14), .ref (ad 15), .ref (ad 16), .ref (ad 17), .ref (ad 18), .ref (ad 19), .ref (ad 20), .ref (ad 21), .ref (ad 22), .ref (ad 23), .ref (ad 24), .ref (ad 25), .ref (ad 26), .ref (ad 27), .ref (ad 28), .ref (ad 29), .ref (ad 30), .ref (ad 31), .ref (ad 32), .ref (ad 33), .ref (ad 34), .ref (ad 35), .ref (ad 36), .ref (ad 37), .ref (ad 38), .ref (ad 39), .ref (ad 40), .ref (ad 41), .int x42, .ref (ad 43), .ref (ad 44), .ref (ad 45), .ref (ad 46), .ref (ad 47), .ref (ad 48), .int x49, .ref (ad 50), .int x51, .ref (ad 52), .int x53, .int x54, .ref (ad 55), .ref (ad 56), .ref (ad 57), .ref (ad 58), .int x59, .ref (ad 60), .int x61, .ref (ad 62), .ref (ad 63), .int x64, .ref (ad 65), .int x66, .int x67, .ref (ad 68), .ref (ad 69), .ref (ad 70), .ref (ad 71), .ref (ad 72), .ref (ad 73), .ref (ad 74), .ref (ad 75), .long x76, .ref (ad 77), .int x78]))
theorem isin_x {v : Int32} {c : Nat} (hc : c ≤ 1000) (h1 : 0 ≤ v.toInt) (h2 : v.toInt ≤ (nI c - 1).toInt) : ∃ j : Nat, j < c ∧ v = nI j := by
  have e : (nI c - 1).toInt = (c : Int) - 1 := by
    rcases Nat.eq_zero_or_pos c with q | q
    · subst q
      decide
    · rw [show nI c - 1 = nI (c - 1) from nI_s1 q, nI_toInt (by omega)]
      omega
  rw [e] at h2
  exact ⟨v.toInt.toNat, by omega, Int32.toInt_inj.mp (by rw [nI_toInt (by omega)]; omega)⟩
theorem isin_k {v : Int32} {a b : Nat} (hb : b ≤ 100000) (h1 : (a : Int) ≤ v.toInt) (h2 : v.toInt ≤ (b : Int)) : ∃ j : Nat, (a ≤ j ∧ j ≤ b) ∧ v = nI j := ⟨v.toInt.toNat, by omega, Int32.toInt_inj.mp (by rw [nI_toInt (by omega)]; omega)⟩
theorem m_rem {d c : Nat} (hd : d ≤ 2000) (hc : 0 < c) (hc2 : c ≤ 6) : d % c < c := Nat.mod_lt _ hc
/-- how many numbers lie on the pile behind a row of codes -/
def stepC (v : Int32) (n : Nat) : Option Nat := if 1000 ≤ v then some (n + 1) else if v = 17 then some (n + 1) else if v = 16 then (if 1 ≤ n then some n else none) else if 7 ≤ v ∧ v ≤ 9 then some (n + 1) else if 2 ≤ n then some (n - 1) else none
def dp (f : Nat → Int32) (s : Nat) : Nat → Option Nat
  | 0 => some 0
  | n + 1 => (dp f s n).bind (stepC (f (s + n)))
theorem dp_le {f : Nat → Int32} {s : Nat} : ∀ {n q : Nat}, dp f s n = some q → q ≤ n := by
  intro n
  induction n with
  | zero => intro q h; cases h; exact Nat.le_refl _
  | succ n ih =>
    intro q h
    unfold dp at h
    cases e : dp f s n with
    | none => rw [e] at h; cases h
    | some t =>
      rw [e] at h
      have ht := ih e
      simp only [Option.bind_some] at h
      unfold stepC at h
      repeat' split at h
      all_goals (first | (cases h; omega) | cases h)
theorem dp_pre {f : Nat → Int32} {s n q : Nat} (h : dp f s (n + 1) = some q) : ∃ t, dp f s n = some t ∧ stepC (f (s + n)) t = some q := by
  unfold dp at h
  cases e : dp f s n with
  | none => rw [e] at h; cases h
  | some t => rw [e] at h; exact ⟨t, rfl, h⟩
theorem dp_all {f : Nat → Int32} {s : Nat} : ∀ {n q : Nat}, dp f s n = some q → ∀ k, k ≤ n → ∃ t, dp f s k = some t := by
  intro n
  induction n with
  | zero => intro q h k hk; rw [Nat.le_zero.mp hk]; exact ⟨_, h⟩
  | succ n ih =>
    intro q h k hk
    obtain ⟨t, ht, _⟩ := dp_pre h
    rcases Nat.lt_or_ge n k with r | r
    · rw [show k = n + 1 by omega]; exact ⟨_, h⟩
    · exact ih ht k r
theorem d_Model_isIn_0 : decode prog_13_method_2_code 0 = .ok (.lload_n 0, 1) := by decide +kernel
theorem d_Model_isIn_1 : decode prog_13_method_2_code 1 = .ok (.lload_n 2, 1) := by decide +kernel
theorem d_Model_isIn_2 : decode prog_13_method_2_code 2 = .ok (.lcmp, 1) := by decide +kernel
theorem d_Model_isIn_3 : decode prog_13_method_2_code 3 = .ok (.ifCond .lt 14, 3) := by decide +kernel
theorem d_Model_isIn_17 : decode prog_13_method_2_code 17 = .ok (.iconst 0, 1) := by decide +kernel
theorem d_Model_isIn_18 : decode prog_13_method_2_code 18 = .ok (.ireturn, 1) := by decide +kernel
theorem d_Model_isIn_6 : decode prog_13_method_2_code 6 = .ok (.lload_n 0, 1) := by decide +kernel
theorem d_Model_isIn_7 : decode prog_13_method_2_code 7 = .ok (.lload 4, 2) := by decide +kernel
theorem d_Model_isIn_9 : decode prog_13_method_2_code 9 = .ok (.lcmp, 1) := by decide +kernel
theorem d_Model_isIn_10 : decode prog_13_method_2_code 10 = .ok (.ifCond .gt 7, 3) := by decide +kernel
theorem d_Model_isIn_13 : decode prog_13_method_2_code 13 = .ok (.iconst 1, 1) := by decide +kernel
theorem d_Model_isIn_14 : decode prog_13_method_2_code 14 = .ok (.goto 4, 3) := by decide +kernel
set_option maxHeartbeats 4000000 in
set_option maxRecDepth 100000 in
theorem c_isIn_ix (l : Launch) (D : va_G) (y : Nat → ClassId) (v : Int32) (c0 : Nat) (hc : c0 ≤ 1000) : CT l D y ⟨"NineBoardsModel", "isIn", "(JJJ)Z"⟩ prog_13_method_2_code 6 (some .boolean) ({ frames := 0, cells := 0, slots := 0, locals := 0 } : Room) [.long v.toInt64, .long 0, .long ((nI c0 - 1).toInt64)] [] (QI D [] (fun (r : Int32) (u : Unit) => r = 0 ∨ (r = 1 ∧ ∃ j : Nat, j < c0 ∧ v = nI j)) (fun _ => [])) := by
  refine CT.of (by decide) (nb rfl) ?_
  intro p e s m args below meth c C hr
  refine j_lv (lv' := [(0, .long v.toInt64), (2, .long 0), (4, .long ((nI c0 - 1).toInt64))]) rfl ?_
  refine j_lload_n (pc := 0) C d_Model_isIn_0 rfl 0 rfl ?_
  refine j_lload_n (pc := 1) C d_Model_isIn_1 rfl 1 rfl ?_
  refine j_lcmp (pc := 2) C (v := lg_cmp v.toInt64 0) d_Model_isIn_2 rfl ?_
  refine j_if_lt (pc := 3) C (tgt := 17) d_Model_isIn_3 (by decide) (fun c1 => ?_) (fun c1 => ?_)
  · refine j_iconst (pc := 17) C (v := 0) d_Model_isIn_17 (by decide) ?_
    exact j_iret (pc := 18) C hr (by decide) () (by exact Or.inl rfl) [] rfl (by decide) (by decide) (by decide) d_Model_isIn_18
  · refine j_lload_n (pc := 6) C d_Model_isIn_6 rfl 0 rfl ?_
    refine j_lload (pc := 7) C d_Model_isIn_7 2 rfl ?_
    refine j_lcmp (pc := 9) C (v := lg_cmp v.toInt64 ((nI c0 - 1).toInt64)) d_Model_isIn_9 rfl ?_
    refine j_if_gt (pc := 10) C (tgt := 17) d_Model_isIn_10 (by decide) (fun c2 => ?_) (fun c2 => ?_)
    · refine j_iconst (pc := 17) C (v := 0) d_Model_isIn_17 (by decide) ?_
      exact j_iret (pc := 18) C hr (by decide) () (by exact Or.inl rfl) [] rfl (by decide) (by decide) (by decide) d_Model_isIn_18
    · refine j_iconst (pc := 13) C (v := 1) d_Model_isIn_13 (by decide) ?_
      refine j_goto (pc := 14) C (tgt := 18) d_Model_isIn_14 (by decide) ?_
      exact j_iret (pc := 18) C hr (by decide) () (by simp only [lg_cmp_lt, lg_cmp_gt, Int64.lt_iff_toInt_lt, Int32.toInt_toInt64] at c1 c2; exact Or.inr ⟨rfl, isin_x hc (by have := (by decide : Int64.toInt 0 = 0); omega) (by omega)⟩) [] rfl (by decide) (by decide) (by decide) d_Model_isIn_18
set_option maxHeartbeats 4000000 in
set_option maxRecDepth 100000 in
theorem c_isIn_1_99 (l : Launch) (D : va_G) (y : Nat → ClassId) (v : Int32)  : CT l D y ⟨"NineBoardsModel", "isIn", "(JJJ)Z"⟩ prog_13_method_2_code 6 (some .boolean) ({ frames := 0, cells := 0, slots := 0, locals := 0 } : Room) [.long v.toInt64, .long 1, .long 99] [] (QI D [] (fun (r : Int32) (u : Unit) => r = 0 ∨ (r = 1 ∧ ∃ j : Nat, (1 ≤ j ∧ j ≤ 99) ∧ v = nI j)) (fun _ => [])) := by
  refine CT.of (by decide) (nb rfl) ?_
  intro p e s m args below meth c C hr
  refine j_lv (lv' := [(0, .long v.toInt64), (2, .long 1), (4, .long 99)]) rfl ?_
  refine j_lload_n (pc := 0) C d_Model_isIn_0 rfl 0 rfl ?_
  refine j_lload_n (pc := 1) C d_Model_isIn_1 rfl 1 rfl ?_
  refine j_lcmp (pc := 2) C (v := lg_cmp v.toInt64 1) d_Model_isIn_2 rfl ?_
  refine j_if_lt (pc := 3) C (tgt := 17) d_Model_isIn_3 (by decide) (fun c1 => ?_) (fun c1 => ?_)
  · refine j_iconst (pc := 17) C (v := 0) d_Model_isIn_17 (by decide) ?_
    exact j_iret (pc := 18) C hr (by decide) () (by exact Or.inl rfl) [] rfl (by decide) (by decide) (by decide) d_Model_isIn_18
  · refine j_lload_n (pc := 6) C d_Model_isIn_6 rfl 0 rfl ?_
    refine j_lload (pc := 7) C d_Model_isIn_7 2 rfl ?_
    refine j_lcmp (pc := 9) C (v := lg_cmp v.toInt64 99) d_Model_isIn_9 rfl ?_
    refine j_if_gt (pc := 10) C (tgt := 17) d_Model_isIn_10 (by decide) (fun c2 => ?_) (fun c2 => ?_)
    · refine j_iconst (pc := 17) C (v := 0) d_Model_isIn_17 (by decide) ?_
      exact j_iret (pc := 18) C hr (by decide) () (by exact Or.inl rfl) [] rfl (by decide) (by decide) (by decide) d_Model_isIn_18
    · refine j_iconst (pc := 13) C (v := 1) d_Model_isIn_13 (by decide) ?_
      refine j_goto (pc := 14) C (tgt := 18) d_Model_isIn_14 (by decide) ?_
      exact j_iret (pc := 18) C hr (by decide) () (by simp only [lg_cmp_lt, lg_cmp_gt, Int64.lt_iff_toInt_lt, Int32.toInt_toInt64, (by decide : Int64.toInt 1 = 1), (by decide : Int64.toInt 99 = 99)] at c1 c2; exact Or.inr ⟨rfl, isin_k (by decide) (by omega) (by omega)⟩) [] rfl (by decide) (by decide) (by decide) d_Model_isIn_18
set_option maxHeartbeats 4000000 in
set_option maxRecDepth 100000 in
theorem c_isIn_1_6 (l : Launch) (D : va_G) (y : Nat → ClassId) (v : Int32)  : CT l D y ⟨"NineBoardsModel", "isIn", "(JJJ)Z"⟩ prog_13_method_2_code 6 (some .boolean) ({ frames := 0, cells := 0, slots := 0, locals := 0 } : Room) [.long v.toInt64, .long 1, .long 6] [] (QI D [] (fun (r : Int32) (u : Unit) => r = 0 ∨ (r = 1 ∧ ∃ j : Nat, (1 ≤ j ∧ j ≤ 6) ∧ v = nI j)) (fun _ => [])) := by
  refine CT.of (by decide) (nb rfl) ?_
  intro p e s m args below meth c C hr
  refine j_lv (lv' := [(0, .long v.toInt64), (2, .long 1), (4, .long 6)]) rfl ?_
  refine j_lload_n (pc := 0) C d_Model_isIn_0 rfl 0 rfl ?_
  refine j_lload_n (pc := 1) C d_Model_isIn_1 rfl 1 rfl ?_
  refine j_lcmp (pc := 2) C (v := lg_cmp v.toInt64 1) d_Model_isIn_2 rfl ?_
  refine j_if_lt (pc := 3) C (tgt := 17) d_Model_isIn_3 (by decide) (fun c1 => ?_) (fun c1 => ?_)
  · refine j_iconst (pc := 17) C (v := 0) d_Model_isIn_17 (by decide) ?_
    exact j_iret (pc := 18) C hr (by decide) () (by exact Or.inl rfl) [] rfl (by decide) (by decide) (by decide) d_Model_isIn_18
  · refine j_lload_n (pc := 6) C d_Model_isIn_6 rfl 0 rfl ?_
    refine j_lload (pc := 7) C d_Model_isIn_7 2 rfl ?_
    refine j_lcmp (pc := 9) C (v := lg_cmp v.toInt64 6) d_Model_isIn_9 rfl ?_
    refine j_if_gt (pc := 10) C (tgt := 17) d_Model_isIn_10 (by decide) (fun c2 => ?_) (fun c2 => ?_)
    · refine j_iconst (pc := 17) C (v := 0) d_Model_isIn_17 (by decide) ?_
      exact j_iret (pc := 18) C hr (by decide) () (by exact Or.inl rfl) [] rfl (by decide) (by decide) (by decide) d_Model_isIn_18
    · refine j_iconst (pc := 13) C (v := 1) d_Model_isIn_13 (by decide) ?_
      refine j_goto (pc := 14) C (tgt := 18) d_Model_isIn_14 (by decide) ?_
      exact j_iret (pc := 18) C hr (by decide) () (by simp only [lg_cmp_lt, lg_cmp_gt, Int64.lt_iff_toInt_lt, Int32.toInt_toInt64, (by decide : Int64.toInt 1 = 1), (by decide : Int64.toInt 6 = 6)] at c1 c2; exact Or.inr ⟨rfl, isin_k (by decide) (by omega) (by omega)⟩) [] rfl (by decide) (by decide) (by decide) d_Model_isIn_18
set_option maxHeartbeats 4000000 in
set_option maxRecDepth 100000 in
theorem c_isIn_1_12 (l : Launch) (D : va_G) (y : Nat → ClassId) (v : Int32)  : CT l D y ⟨"NineBoardsModel", "isIn", "(JJJ)Z"⟩ prog_13_method_2_code 6 (some .boolean) ({ frames := 0, cells := 0, slots := 0, locals := 0 } : Room) [.long v.toInt64, .long 1, .long 12] [] (QI D [] (fun (r : Int32) (u : Unit) => r = 0 ∨ (r = 1 ∧ ∃ j : Nat, (1 ≤ j ∧ j ≤ 12) ∧ v = nI j)) (fun _ => [])) := by
  refine CT.of (by decide) (nb rfl) ?_
  intro p e s m args below meth c C hr
  refine j_lv (lv' := [(0, .long v.toInt64), (2, .long 1), (4, .long 12)]) rfl ?_
  refine j_lload_n (pc := 0) C d_Model_isIn_0 rfl 0 rfl ?_
  refine j_lload_n (pc := 1) C d_Model_isIn_1 rfl 1 rfl ?_
  refine j_lcmp (pc := 2) C (v := lg_cmp v.toInt64 1) d_Model_isIn_2 rfl ?_
  refine j_if_lt (pc := 3) C (tgt := 17) d_Model_isIn_3 (by decide) (fun c1 => ?_) (fun c1 => ?_)
  · refine j_iconst (pc := 17) C (v := 0) d_Model_isIn_17 (by decide) ?_
    exact j_iret (pc := 18) C hr (by decide) () (by exact Or.inl rfl) [] rfl (by decide) (by decide) (by decide) d_Model_isIn_18
  · refine j_lload_n (pc := 6) C d_Model_isIn_6 rfl 0 rfl ?_
    refine j_lload (pc := 7) C d_Model_isIn_7 2 rfl ?_
    refine j_lcmp (pc := 9) C (v := lg_cmp v.toInt64 12) d_Model_isIn_9 rfl ?_
    refine j_if_gt (pc := 10) C (tgt := 17) d_Model_isIn_10 (by decide) (fun c2 => ?_) (fun c2 => ?_)
    · refine j_iconst (pc := 17) C (v := 0) d_Model_isIn_17 (by decide) ?_
      exact j_iret (pc := 18) C hr (by decide) () (by exact Or.inl rfl) [] rfl (by decide) (by decide) (by decide) d_Model_isIn_18
    · refine j_iconst (pc := 13) C (v := 1) d_Model_isIn_13 (by decide) ?_
      refine j_goto (pc := 14) C (tgt := 18) d_Model_isIn_14 (by decide) ?_
      exact j_iret (pc := 18) C hr (by decide) () (by simp only [lg_cmp_lt, lg_cmp_gt, Int64.lt_iff_toInt_lt, Int32.toInt_toInt64, (by decide : Int64.toInt 1 = 1), (by decide : Int64.toInt 12 = 12)] at c1 c2; exact Or.inr ⟨rfl, isin_k (by decide) (by omega) (by omega)⟩) [] rfl (by decide) (by decide) (by decide) d_Model_isIn_18
set_option maxHeartbeats 4000000 in
set_option maxRecDepth 100000 in
theorem c_isIn_1_20 (l : Launch) (D : va_G) (y : Nat → ClassId) (v : Int32)  : CT l D y ⟨"NineBoardsModel", "isIn", "(JJJ)Z"⟩ prog_13_method_2_code 6 (some .boolean) ({ frames := 0, cells := 0, slots := 0, locals := 0 } : Room) [.long v.toInt64, .long 1, .long 20] [] (QI D [] (fun (r : Int32) (u : Unit) => r = 0 ∨ (r = 1 ∧ ∃ j : Nat, (1 ≤ j ∧ j ≤ 20) ∧ v = nI j)) (fun _ => [])) := by
  refine CT.of (by decide) (nb rfl) ?_
  intro p e s m args below meth c C hr
  refine j_lv (lv' := [(0, .long v.toInt64), (2, .long 1), (4, .long 20)]) rfl ?_
  refine j_lload_n (pc := 0) C d_Model_isIn_0 rfl 0 rfl ?_
  refine j_lload_n (pc := 1) C d_Model_isIn_1 rfl 1 rfl ?_
  refine j_lcmp (pc := 2) C (v := lg_cmp v.toInt64 1) d_Model_isIn_2 rfl ?_
  refine j_if_lt (pc := 3) C (tgt := 17) d_Model_isIn_3 (by decide) (fun c1 => ?_) (fun c1 => ?_)
  · refine j_iconst (pc := 17) C (v := 0) d_Model_isIn_17 (by decide) ?_
    exact j_iret (pc := 18) C hr (by decide) () (by exact Or.inl rfl) [] rfl (by decide) (by decide) (by decide) d_Model_isIn_18
  · refine j_lload_n (pc := 6) C d_Model_isIn_6 rfl 0 rfl ?_
    refine j_lload (pc := 7) C d_Model_isIn_7 2 rfl ?_
    refine j_lcmp (pc := 9) C (v := lg_cmp v.toInt64 20) d_Model_isIn_9 rfl ?_
    refine j_if_gt (pc := 10) C (tgt := 17) d_Model_isIn_10 (by decide) (fun c2 => ?_) (fun c2 => ?_)
    · refine j_iconst (pc := 17) C (v := 0) d_Model_isIn_17 (by decide) ?_
      exact j_iret (pc := 18) C hr (by decide) () (by exact Or.inl rfl) [] rfl (by decide) (by decide) (by decide) d_Model_isIn_18
    · refine j_iconst (pc := 13) C (v := 1) d_Model_isIn_13 (by decide) ?_
      refine j_goto (pc := 14) C (tgt := 18) d_Model_isIn_14 (by decide) ?_
      exact j_iret (pc := 18) C hr (by decide) () (by simp only [lg_cmp_lt, lg_cmp_gt, Int64.lt_iff_toInt_lt, Int32.toInt_toInt64, (by decide : Int64.toInt 1 = 1), (by decide : Int64.toInt 20 = 20)] at c1 c2; exact Or.inr ⟨rfl, isin_k (by decide) (by omega) (by omega)⟩) [] rfl (by decide) (by decide) (by decide) d_Model_isIn_18
set_option maxHeartbeats 4000000 in
set_option maxRecDepth 100000 in
theorem c_isIn_1_100 (l : Launch) (D : va_G) (y : Nat → ClassId) (v : Int32)  : CT l D y ⟨"NineBoardsModel", "isIn", "(JJJ)Z"⟩ prog_13_method_2_code 6 (some .boolean) ({ frames := 0, cells := 0, slots := 0, locals := 0 } : Room) [.long v.toInt64, .long 1, .long 100] [] (QI D [] (fun (r : Int32) (u : Unit) => r = 0 ∨ (r = 1 ∧ ∃ j : Nat, (1 ≤ j ∧ j ≤ 100) ∧ v = nI j)) (fun _ => [])) := by
  refine CT.of (by decide) (nb rfl) ?_
  intro p e s m args below meth c C hr
  refine j_lv (lv' := [(0, .long v.toInt64), (2, .long 1), (4, .long 100)]) rfl ?_
  refine j_lload_n (pc := 0) C d_Model_isIn_0 rfl 0 rfl ?_
  refine j_lload_n (pc := 1) C d_Model_isIn_1 rfl 1 rfl ?_
  refine j_lcmp (pc := 2) C (v := lg_cmp v.toInt64 1) d_Model_isIn_2 rfl ?_
  refine j_if_lt (pc := 3) C (tgt := 17) d_Model_isIn_3 (by decide) (fun c1 => ?_) (fun c1 => ?_)
  · refine j_iconst (pc := 17) C (v := 0) d_Model_isIn_17 (by decide) ?_
    exact j_iret (pc := 18) C hr (by decide) () (by exact Or.inl rfl) [] rfl (by decide) (by decide) (by decide) d_Model_isIn_18
  · refine j_lload_n (pc := 6) C d_Model_isIn_6 rfl 0 rfl ?_
    refine j_lload (pc := 7) C d_Model_isIn_7 2 rfl ?_
    refine j_lcmp (pc := 9) C (v := lg_cmp v.toInt64 100) d_Model_isIn_9 rfl ?_
    refine j_if_gt (pc := 10) C (tgt := 17) d_Model_isIn_10 (by decide) (fun c2 => ?_) (fun c2 => ?_)
    · refine j_iconst (pc := 17) C (v := 0) d_Model_isIn_17 (by decide) ?_
      exact j_iret (pc := 18) C hr (by decide) () (by exact Or.inl rfl) [] rfl (by decide) (by decide) (by decide) d_Model_isIn_18
    · refine j_iconst (pc := 13) C (v := 1) d_Model_isIn_13 (by decide) ?_
      refine j_goto (pc := 14) C (tgt := 18) d_Model_isIn_14 (by decide) ?_
      exact j_iret (pc := 18) C hr (by decide) () (by simp only [lg_cmp_lt, lg_cmp_gt, Int64.lt_iff_toInt_lt, Int32.toInt_toInt64, (by decide : Int64.toInt 1 = 1), (by decide : Int64.toInt 100 = 100)] at c1 c2; exact Or.inr ⟨rfl, isin_k (by decide) (by omega) (by omega)⟩) [] rfl (by decide) (by decide) (by decide) d_Model_isIn_18
set_option maxHeartbeats 4000000 in
set_option maxRecDepth 100000 in
theorem c_isIn_0_2 (l : Launch) (D : va_G) (y : Nat → ClassId) (v : Int32)  : CT l D y ⟨"NineBoardsModel", "isIn", "(JJJ)Z"⟩ prog_13_method_2_code 6 (some .boolean) ({ frames := 0, cells := 0, slots := 0, locals := 0 } : Room) [.long v.toInt64, .long 0, .long 2] [] (QI D [] (fun (r : Int32) (u : Unit) => r = 0 ∨ (r = 1 ∧ ∃ j : Nat, (0 ≤ j ∧ j ≤ 2) ∧ v = nI j)) (fun _ => [])) := by
  refine CT.of (by decide) (nb rfl) ?_
  intro p e s m args below meth c C hr
  refine j_lv (lv' := [(0, .long v.toInt64), (2, .long 0), (4, .long 2)]) rfl ?_
  refine j_lload_n (pc := 0) C d_Model_isIn_0 rfl 0 rfl ?_
  refine j_lload_n (pc := 1) C d_Model_isIn_1 rfl 1 rfl ?_
  refine j_lcmp (pc := 2) C (v := lg_cmp v.toInt64 0) d_Model_isIn_2 rfl ?_
  refine j_if_lt (pc := 3) C (tgt := 17) d_Model_isIn_3 (by decide) (fun c1 => ?_) (fun c1 => ?_)
  · refine j_iconst (pc := 17) C (v := 0) d_Model_isIn_17 (by decide) ?_
    exact j_iret (pc := 18) C hr (by decide) () (by exact Or.inl rfl) [] rfl (by decide) (by decide) (by decide) d_Model_isIn_18
  · refine j_lload_n (pc := 6) C d_Model_isIn_6 rfl 0 rfl ?_
    refine j_lload (pc := 7) C d_Model_isIn_7 2 rfl ?_
    refine j_lcmp (pc := 9) C (v := lg_cmp v.toInt64 2) d_Model_isIn_9 rfl ?_
    refine j_if_gt (pc := 10) C (tgt := 17) d_Model_isIn_10 (by decide) (fun c2 => ?_) (fun c2 => ?_)
    · refine j_iconst (pc := 17) C (v := 0) d_Model_isIn_17 (by decide) ?_
      exact j_iret (pc := 18) C hr (by decide) () (by exact Or.inl rfl) [] rfl (by decide) (by decide) (by decide) d_Model_isIn_18
    · refine j_iconst (pc := 13) C (v := 1) d_Model_isIn_13 (by decide) ?_
      refine j_goto (pc := 14) C (tgt := 18) d_Model_isIn_14 (by decide) ?_
      exact j_iret (pc := 18) C hr (by decide) () (by simp only [lg_cmp_lt, lg_cmp_gt, Int64.lt_iff_toInt_lt, Int32.toInt_toInt64, (by decide : Int64.toInt 0 = 0), (by decide : Int64.toInt 2 = 2)] at c1 c2; exact Or.inr ⟨rfl, isin_k (by decide) (by omega) (by omega)⟩) [] rfl (by decide) (by decide) (by decide) d_Model_isIn_18
set_option maxHeartbeats 4000000 in
set_option maxRecDepth 100000 in
theorem c_isIn_0_20 (l : Launch) (D : va_G) (y : Nat → ClassId) (v : Int32)  : CT l D y ⟨"NineBoardsModel", "isIn", "(JJJ)Z"⟩ prog_13_method_2_code 6 (some .boolean) ({ frames := 0, cells := 0, slots := 0, locals := 0 } : Room) [.long v.toInt64, .long 0, .long 20] [] (QI D [] (fun (r : Int32) (u : Unit) => r = 0 ∨ (r = 1 ∧ ∃ j : Nat, (0 ≤ j ∧ j ≤ 20) ∧ v = nI j)) (fun _ => [])) := by
  refine CT.of (by decide) (nb rfl) ?_
  intro p e s m args below meth c C hr
  refine j_lv (lv' := [(0, .long v.toInt64), (2, .long 0), (4, .long 20)]) rfl ?_
  refine j_lload_n (pc := 0) C d_Model_isIn_0 rfl 0 rfl ?_
  refine j_lload_n (pc := 1) C d_Model_isIn_1 rfl 1 rfl ?_
  refine j_lcmp (pc := 2) C (v := lg_cmp v.toInt64 0) d_Model_isIn_2 rfl ?_
  refine j_if_lt (pc := 3) C (tgt := 17) d_Model_isIn_3 (by decide) (fun c1 => ?_) (fun c1 => ?_)
  · refine j_iconst (pc := 17) C (v := 0) d_Model_isIn_17 (by decide) ?_
    exact j_iret (pc := 18) C hr (by decide) () (by exact Or.inl rfl) [] rfl (by decide) (by decide) (by decide) d_Model_isIn_18
  · refine j_lload_n (pc := 6) C d_Model_isIn_6 rfl 0 rfl ?_
    refine j_lload (pc := 7) C d_Model_isIn_7 2 rfl ?_
    refine j_lcmp (pc := 9) C (v := lg_cmp v.toInt64 20) d_Model_isIn_9 rfl ?_
    refine j_if_gt (pc := 10) C (tgt := 17) d_Model_isIn_10 (by decide) (fun c2 => ?_) (fun c2 => ?_)
    · refine j_iconst (pc := 17) C (v := 0) d_Model_isIn_17 (by decide) ?_
      exact j_iret (pc := 18) C hr (by decide) () (by exact Or.inl rfl) [] rfl (by decide) (by decide) (by decide) d_Model_isIn_18
    · refine j_iconst (pc := 13) C (v := 1) d_Model_isIn_13 (by decide) ?_
      refine j_goto (pc := 14) C (tgt := 18) d_Model_isIn_14 (by decide) ?_
      exact j_iret (pc := 18) C hr (by decide) () (by simp only [lg_cmp_lt, lg_cmp_gt, Int64.lt_iff_toInt_lt, Int32.toInt_toInt64, (by decide : Int64.toInt 0 = 0), (by decide : Int64.toInt 20 = 20)] at c1 c2; exact Or.inr ⟨rfl, isin_k (by decide) (by omega) (by omega)⟩) [] rfl (by decide) (by decide) (by decide) d_Model_isIn_18
set_option maxHeartbeats 4000000 in
set_option maxRecDepth 100000 in
theorem c_isIn_0_998 (l : Launch) (D : va_G) (y : Nat → ClassId) (v : Int32)  : CT l D y ⟨"NineBoardsModel", "isIn", "(JJJ)Z"⟩ prog_13_method_2_code 6 (some .boolean) ({ frames := 0, cells := 0, slots := 0, locals := 0 } : Room) [.long v.toInt64, .long 0, .long 998] [] (QI D [] (fun (r : Int32) (u : Unit) => r = 0 ∨ (r = 1 ∧ ∃ j : Nat, (0 ≤ j ∧ j ≤ 998) ∧ v = nI j)) (fun _ => [])) := by
  refine CT.of (by decide) (nb rfl) ?_
  intro p e s m args below meth c C hr
  refine j_lv (lv' := [(0, .long v.toInt64), (2, .long 0), (4, .long 998)]) rfl ?_
  refine j_lload_n (pc := 0) C d_Model_isIn_0 rfl 0 rfl ?_
  refine j_lload_n (pc := 1) C d_Model_isIn_1 rfl 1 rfl ?_
  refine j_lcmp (pc := 2) C (v := lg_cmp v.toInt64 0) d_Model_isIn_2 rfl ?_
  refine j_if_lt (pc := 3) C (tgt := 17) d_Model_isIn_3 (by decide) (fun c1 => ?_) (fun c1 => ?_)
  · refine j_iconst (pc := 17) C (v := 0) d_Model_isIn_17 (by decide) ?_
    exact j_iret (pc := 18) C hr (by decide) () (by exact Or.inl rfl) [] rfl (by decide) (by decide) (by decide) d_Model_isIn_18
  · refine j_lload_n (pc := 6) C d_Model_isIn_6 rfl 0 rfl ?_
    refine j_lload (pc := 7) C d_Model_isIn_7 2 rfl ?_
    refine j_lcmp (pc := 9) C (v := lg_cmp v.toInt64 998) d_Model_isIn_9 rfl ?_
    refine j_if_gt (pc := 10) C (tgt := 17) d_Model_isIn_10 (by decide) (fun c2 => ?_) (fun c2 => ?_)
    · refine j_iconst (pc := 17) C (v := 0) d_Model_isIn_17 (by decide) ?_
      exact j_iret (pc := 18) C hr (by decide) () (by exact Or.inl rfl) [] rfl (by decide) (by decide) (by decide) d_Model_isIn_18
    · refine j_iconst (pc := 13) C (v := 1) d_Model_isIn_13 (by decide) ?_
      refine j_goto (pc := 14) C (tgt := 18) d_Model_isIn_14 (by decide) ?_
      exact j_iret (pc := 18) C hr (by decide) () (by simp only [lg_cmp_lt, lg_cmp_gt, Int64.lt_iff_toInt_lt, Int32.toInt_toInt64, (by decide : Int64.toInt 0 = 0), (by decide : Int64.toInt 998 = 998)] at c1 c2; exact Or.inr ⟨rfl, isin_k (by decide) (by omega) (by omega)⟩) [] rfl (by decide) (by decide) (by decide) d_Model_isIn_18
set_option maxHeartbeats 4000000 in
set_option maxRecDepth 100000 in
theorem c_isIn_0_9999 (l : Launch) (D : va_G) (y : Nat → ClassId) (v : Int32)  : CT l D y ⟨"NineBoardsModel", "isIn", "(JJJ)Z"⟩ prog_13_method_2_code 6 (some .boolean) ({ frames := 0, cells := 0, slots := 0, locals := 0 } : Room) [.long v.toInt64, .long 0, .long 9999] [] (QI D [] (fun (r : Int32) (u : Unit) => r = 0 ∨ (r = 1 ∧ ∃ j : Nat, (0 ≤ j ∧ j ≤ 9999) ∧ v = nI j)) (fun _ => [])) := by
  refine CT.of (by decide) (nb rfl) ?_
  intro p e s m args below meth c C hr
  refine j_lv (lv' := [(0, .long v.toInt64), (2, .long 0), (4, .long 9999)]) rfl ?_
  refine j_lload_n (pc := 0) C d_Model_isIn_0 rfl 0 rfl ?_
  refine j_lload_n (pc := 1) C d_Model_isIn_1 rfl 1 rfl ?_
  refine j_lcmp (pc := 2) C (v := lg_cmp v.toInt64 0) d_Model_isIn_2 rfl ?_
  refine j_if_lt (pc := 3) C (tgt := 17) d_Model_isIn_3 (by decide) (fun c1 => ?_) (fun c1 => ?_)
  · refine j_iconst (pc := 17) C (v := 0) d_Model_isIn_17 (by decide) ?_
    exact j_iret (pc := 18) C hr (by decide) () (by exact Or.inl rfl) [] rfl (by decide) (by decide) (by decide) d_Model_isIn_18
  · refine j_lload_n (pc := 6) C d_Model_isIn_6 rfl 0 rfl ?_
    refine j_lload (pc := 7) C d_Model_isIn_7 2 rfl ?_
    refine j_lcmp (pc := 9) C (v := lg_cmp v.toInt64 9999) d_Model_isIn_9 rfl ?_
    refine j_if_gt (pc := 10) C (tgt := 17) d_Model_isIn_10 (by decide) (fun c2 => ?_) (fun c2 => ?_)
    · refine j_iconst (pc := 17) C (v := 0) d_Model_isIn_17 (by decide) ?_
      exact j_iret (pc := 18) C hr (by decide) () (by exact Or.inl rfl) [] rfl (by decide) (by decide) (by decide) d_Model_isIn_18
    · refine j_iconst (pc := 13) C (v := 1) d_Model_isIn_13 (by decide) ?_
      refine j_goto (pc := 14) C (tgt := 18) d_Model_isIn_14 (by decide) ?_
      exact j_iret (pc := 18) C hr (by decide) () (by simp only [lg_cmp_lt, lg_cmp_gt, Int64.lt_iff_toInt_lt, Int32.toInt_toInt64, (by decide : Int64.toInt 0 = 0), (by decide : Int64.toInt 9999 = 9999)] at c1 c2; exact Or.inr ⟨rfl, isin_k (by decide) (by omega) (by omega)⟩) [] rfl (by decide) (by decide) (by decide) d_Model_isIn_18
set_option maxHeartbeats 4000000 in
set_option maxRecDepth 100000 in
theorem c_isIn_0_100 (l : Launch) (D : va_G) (y : Nat → ClassId) (v : Int32)  : CT l D y ⟨"NineBoardsModel", "isIn", "(JJJ)Z"⟩ prog_13_method_2_code 6 (some .boolean) ({ frames := 0, cells := 0, slots := 0, locals := 0 } : Room) [.long v.toInt64, .long 0, .long 100] [] (QI D [] (fun (r : Int32) (u : Unit) => r = 0 ∨ (r = 1 ∧ ∃ j : Nat, (0 ≤ j ∧ j ≤ 100) ∧ v = nI j)) (fun _ => [])) := by
  refine CT.of (by decide) (nb rfl) ?_
  intro p e s m args below meth c C hr
  refine j_lv (lv' := [(0, .long v.toInt64), (2, .long 0), (4, .long 100)]) rfl ?_
  refine j_lload_n (pc := 0) C d_Model_isIn_0 rfl 0 rfl ?_
  refine j_lload_n (pc := 1) C d_Model_isIn_1 rfl 1 rfl ?_
  refine j_lcmp (pc := 2) C (v := lg_cmp v.toInt64 0) d_Model_isIn_2 rfl ?_
  refine j_if_lt (pc := 3) C (tgt := 17) d_Model_isIn_3 (by decide) (fun c1 => ?_) (fun c1 => ?_)
  · refine j_iconst (pc := 17) C (v := 0) d_Model_isIn_17 (by decide) ?_
    exact j_iret (pc := 18) C hr (by decide) () (by exact Or.inl rfl) [] rfl (by decide) (by decide) (by decide) d_Model_isIn_18
  · refine j_lload_n (pc := 6) C d_Model_isIn_6 rfl 0 rfl ?_
    refine j_lload (pc := 7) C d_Model_isIn_7 2 rfl ?_
    refine j_lcmp (pc := 9) C (v := lg_cmp v.toInt64 100) d_Model_isIn_9 rfl ?_
    refine j_if_gt (pc := 10) C (tgt := 17) d_Model_isIn_10 (by decide) (fun c2 => ?_) (fun c2 => ?_)
    · refine j_iconst (pc := 17) C (v := 0) d_Model_isIn_17 (by decide) ?_
      exact j_iret (pc := 18) C hr (by decide) () (by exact Or.inl rfl) [] rfl (by decide) (by decide) (by decide) d_Model_isIn_18
    · refine j_iconst (pc := 13) C (v := 1) d_Model_isIn_13 (by decide) ?_
      refine j_goto (pc := 14) C (tgt := 18) d_Model_isIn_14 (by decide) ?_
      exact j_iret (pc := 18) C hr (by decide) () (by simp only [lg_cmp_lt, lg_cmp_gt, Int64.lt_iff_toInt_lt, Int32.toInt_toInt64, (by decide : Int64.toInt 0 = 0), (by decide : Int64.toInt 100 = 100)] at c1 c2; exact Or.inr ⟨rfl, isin_k (by decide) (by omega) (by omega)⟩) [] rfl (by decide) (by decide) (by decide) d_Model_isIn_18
set_option maxHeartbeats 4000000 in
set_option maxRecDepth 100000 in
theorem c_isIn_0_4 (l : Launch) (D : va_G) (y : Nat → ClassId) (v : Int32)  : CT l D y ⟨"NineBoardsModel", "isIn", "(JJJ)Z"⟩ prog_13_method_2_code 6 (some .boolean) ({ frames := 0, cells := 0, slots := 0, locals := 0 } : Room) [.long v.toInt64, .long 0, .long 4] [] (QI D [] (fun (r : Int32) (u : Unit) => r = 0 ∨ (r = 1 ∧ ∃ j : Nat, (0 ≤ j ∧ j ≤ 4) ∧ v = nI j)) (fun _ => [])) := by
  refine CT.of (by decide) (nb rfl) ?_
  intro p e s m args below meth c C hr
  refine j_lv (lv' := [(0, .long v.toInt64), (2, .long 0), (4, .long 4)]) rfl ?_
  refine j_lload_n (pc := 0) C d_Model_isIn_0 rfl 0 rfl ?_
  refine j_lload_n (pc := 1) C d_Model_isIn_1 rfl 1 rfl ?_
  refine j_lcmp (pc := 2) C (v := lg_cmp v.toInt64 0) d_Model_isIn_2 rfl ?_
  refine j_if_lt (pc := 3) C (tgt := 17) d_Model_isIn_3 (by decide) (fun c1 => ?_) (fun c1 => ?_)
  · refine j_iconst (pc := 17) C (v := 0) d_Model_isIn_17 (by decide) ?_
    exact j_iret (pc := 18) C hr (by decide) () (by exact Or.inl rfl) [] rfl (by decide) (by decide) (by decide) d_Model_isIn_18
  · refine j_lload_n (pc := 6) C d_Model_isIn_6 rfl 0 rfl ?_
    refine j_lload (pc := 7) C d_Model_isIn_7 2 rfl ?_
    refine j_lcmp (pc := 9) C (v := lg_cmp v.toInt64 4) d_Model_isIn_9 rfl ?_
    refine j_if_gt (pc := 10) C (tgt := 17) d_Model_isIn_10 (by decide) (fun c2 => ?_) (fun c2 => ?_)
    · refine j_iconst (pc := 17) C (v := 0) d_Model_isIn_17 (by decide) ?_
      exact j_iret (pc := 18) C hr (by decide) () (by exact Or.inl rfl) [] rfl (by decide) (by decide) (by decide) d_Model_isIn_18
    · refine j_iconst (pc := 13) C (v := 1) d_Model_isIn_13 (by decide) ?_
      refine j_goto (pc := 14) C (tgt := 18) d_Model_isIn_14 (by decide) ?_
      exact j_iret (pc := 18) C hr (by decide) () (by simp only [lg_cmp_lt, lg_cmp_gt, Int64.lt_iff_toInt_lt, Int32.toInt_toInt64, (by decide : Int64.toInt 0 = 0), (by decide : Int64.toInt 4 = 4)] at c1 c2; exact Or.inr ⟨rfl, isin_k (by decide) (by omega) (by omega)⟩) [] rfl (by decide) (by decide) (by decide) d_Model_isIn_18
set_option maxHeartbeats 4000000 in
set_option maxRecDepth 100000 in
theorem c_isIn_0_5 (l : Launch) (D : va_G) (y : Nat → ClassId) (v : Int32)  : CT l D y ⟨"NineBoardsModel", "isIn", "(JJJ)Z"⟩ prog_13_method_2_code 6 (some .boolean) ({ frames := 0, cells := 0, slots := 0, locals := 0 } : Room) [.long v.toInt64, .long 0, .long 5] [] (QI D [] (fun (r : Int32) (u : Unit) => r = 0 ∨ (r = 1 ∧ ∃ j : Nat, (0 ≤ j ∧ j ≤ 5) ∧ v = nI j)) (fun _ => [])) := by
  refine CT.of (by decide) (nb rfl) ?_
  intro p e s m args below meth c C hr
  refine j_lv (lv' := [(0, .long v.toInt64), (2, .long 0), (4, .long 5)]) rfl ?_
  refine j_lload_n (pc := 0) C d_Model_isIn_0 rfl 0 rfl ?_
  refine j_lload_n (pc := 1) C d_Model_isIn_1 rfl 1 rfl ?_
  refine j_lcmp (pc := 2) C (v := lg_cmp v.toInt64 0) d_Model_isIn_2 rfl ?_
  refine j_if_lt (pc := 3) C (tgt := 17) d_Model_isIn_3 (by decide) (fun c1 => ?_) (fun c1 => ?_)
  · refine j_iconst (pc := 17) C (v := 0) d_Model_isIn_17 (by decide) ?_
    exact j_iret (pc := 18) C hr (by decide) () (by exact Or.inl rfl) [] rfl (by decide) (by decide) (by decide) d_Model_isIn_18
  · refine j_lload_n (pc := 6) C d_Model_isIn_6 rfl 0 rfl ?_
    refine j_lload (pc := 7) C d_Model_isIn_7 2 rfl ?_
    refine j_lcmp (pc := 9) C (v := lg_cmp v.toInt64 5) d_Model_isIn_9 rfl ?_
    refine j_if_gt (pc := 10) C (tgt := 17) d_Model_isIn_10 (by decide) (fun c2 => ?_) (fun c2 => ?_)
    · refine j_iconst (pc := 17) C (v := 0) d_Model_isIn_17 (by decide) ?_
      exact j_iret (pc := 18) C hr (by decide) () (by exact Or.inl rfl) [] rfl (by decide) (by decide) (by decide) d_Model_isIn_18
    · refine j_iconst (pc := 13) C (v := 1) d_Model_isIn_13 (by decide) ?_
      refine j_goto (pc := 14) C (tgt := 18) d_Model_isIn_14 (by decide) ?_
      exact j_iret (pc := 18) C hr (by decide) () (by simp only [lg_cmp_lt, lg_cmp_gt, Int64.lt_iff_toInt_lt, Int32.toInt_toInt64, (by decide : Int64.toInt 0 = 0), (by decide : Int64.toInt 5 = 5)] at c1 c2; exact Or.inr ⟨rfl, isin_k (by decide) (by omega) (by omega)⟩) [] rfl (by decide) (by decide) (by decide) d_Model_isIn_18
set_option maxHeartbeats 4000000 in
set_option maxRecDepth 100000 in
theorem c_isIn_any (l : Launch) (D : va_G) (y : Nat → ClassId) (va : Int64) (vb : Int64) (vc : Int64)  : CT l D y ⟨"NineBoardsModel", "isIn", "(JJJ)Z"⟩ prog_13_method_2_code 6 (some .boolean) ({ frames := 0, cells := 0, slots := 0, locals := 0 } : Room) [.long va, .long vb, .long vc] [] (QI D [] (fun (r : Int32) (u : Unit) => (r = 0 ∨ r = 1)) (fun _ => [])) := by
  refine CT.of (by decide) (nb rfl) ?_
  intro p e s m args below meth c C hr
  refine j_lv (lv' := [(0, .long va), (2, .long vb), (4, .long vc)]) rfl ?_
  refine j_lload_n (pc := 0) C d_Model_isIn_0 rfl 0 rfl ?_
  refine j_lload_n (pc := 1) C d_Model_isIn_1 rfl 1 rfl ?_
  refine j_lcmp (pc := 2) C (v := lg_cmp va vb) d_Model_isIn_2 rfl ?_
  refine j_if_lt (pc := 3) C (tgt := 17) d_Model_isIn_3 (by decide) (fun c1 => ?_) (fun c1 => ?_)
  · refine j_iconst (pc := 17) C (v := 0) d_Model_isIn_17 (by decide) ?_
    exact j_iret (pc := 18) C hr (by decide) () (by decide) [] rfl (by decide) (by decide) (by decide) d_Model_isIn_18
  · refine j_lload_n (pc := 6) C d_Model_isIn_6 rfl 0 rfl ?_
    refine j_lload (pc := 7) C d_Model_isIn_7 2 rfl ?_
    refine j_lcmp (pc := 9) C (v := lg_cmp va vc) d_Model_isIn_9 rfl ?_
    refine j_if_gt (pc := 10) C (tgt := 17) d_Model_isIn_10 (by decide) (fun c2 => ?_) (fun c2 => ?_)
    · refine j_iconst (pc := 17) C (v := 0) d_Model_isIn_17 (by decide) ?_
      exact j_iret (pc := 18) C hr (by decide) () (by decide) [] rfl (by decide) (by decide) (by decide) d_Model_isIn_18
    · refine j_iconst (pc := 13) C (v := 1) d_Model_isIn_13 (by decide) ?_
      refine j_goto (pc := 14) C (tgt := 18) d_Model_isIn_14 (by decide) ?_
      exact j_iret (pc := 18) C hr (by decide) () (by decide) [] rfl (by decide) (by decide) (by decide) d_Model_isIn_18
theorem d_Model_isLetter_0 : decode prog_13_method_6_code 0 = .ok (.iload_n 0, 1) := by decide +kernel
theorem d_Model_isLetter_1 : decode prog_13_method_6_code 1 = .ok (.bipush 97, 2) := by decide +kernel
theorem d_Model_isLetter_3 : decode prog_13_method_6_code 3 = .ok (.if_icmp .lt 13, 3) := by decide +kernel
theorem d_Model_isLetter_16 : decode prog_13_method_6_code 16 = .ok (.iconst 0, 1) := by decide +kernel
theorem d_Model_isLetter_17 : decode prog_13_method_6_code 17 = .ok (.ireturn, 1) := by decide +kernel
theorem d_Model_isLetter_6 : decode prog_13_method_6_code 6 = .ok (.iload_n 0, 1) := by decide +kernel
theorem d_Model_isLetter_7 : decode prog_13_method_6_code 7 = .ok (.bipush 122, 2) := by decide +kernel
theorem d_Model_isLetter_9 : decode prog_13_method_6_code 9 = .ok (.if_icmp .gt 7, 3) := by decide +kernel
theorem d_Model_isLetter_12 : decode prog_13_method_6_code 12 = .ok (.iconst 1, 1) := by decide +kernel
theorem d_Model_isLetter_13 : decode prog_13_method_6_code 13 = .ok (.goto 4, 3) := by decide +kernel
set_option maxHeartbeats 4000000 in
set_option maxRecDepth 100000 in
theorem c_M_isLetter (l : Launch) (D : va_G) (y : Nat → ClassId) (v : Int32)  : CT l D y ⟨"NineBoardsModel", "isLetter", "(I)Z"⟩ prog_13_method_6_code 1 (some .boolean) ({ frames := 0, cells := 0, slots := 0, locals := 0 } : Room) [.int v] [] (QI D [] (fun (r : Int32) (u : Unit) => (r = 0 ∨ r = 1)) (fun _ => [])) := by
  refine CT.of (by decide) (nb rfl) ?_
  intro p e s m args below meth c C hr
  refine j_lv (lv' := [(0, .int v)]) rfl ?_
  refine j_iload_n (pc := 0) C d_Model_isLetter_0 rfl 0 rfl ?_
  refine j_bipush (pc := 1) C (v := 97) d_Model_isLetter_1 (by decide) ?_
  refine j_icmp_lt (pc := 3) C (tgt := 16) d_Model_isLetter_3 (by decide) (fun c1 => ?_) (fun c1 => ?_)
  · refine j_iconst (pc := 16) C (v := 0) d_Model_isLetter_16 (by decide) ?_
    exact j_iret (pc := 17) C hr (by decide) () (by decide) [] rfl (by decide) (by decide) (by decide) d_Model_isLetter_17
  · refine j_iload_n (pc := 6) C d_Model_isLetter_6 rfl 0 rfl ?_
    refine j_bipush (pc := 7) C (v := 122) d_Model_isLetter_7 (by decide) ?_
    refine j_icmp_gt (pc := 9) C (tgt := 16) d_Model_isLetter_9 (by decide) (fun c2 => ?_) (fun c2 => ?_)
    · refine j_iconst (pc := 16) C (v := 0) d_Model_isLetter_16 (by decide) ?_
      exact j_iret (pc := 17) C hr (by decide) () (by decide) [] rfl (by decide) (by decide) (by decide) d_Model_isLetter_17
    · refine j_iconst (pc := 12) C (v := 1) d_Model_isLetter_12 (by decide) ?_
      refine j_goto (pc := 13) C (tgt := 17) d_Model_isLetter_13 (by decide) ?_
      exact j_iret (pc := 17) C hr (by decide) () (by decide) [] rfl (by decide) (by decide) (by decide) d_Model_isLetter_17
theorem d_Model_isDigit_0 : decode prog_13_method_7_code 0 = .ok (.iload_n 0, 1) := by decide +kernel
theorem d_Model_isDigit_1 : decode prog_13_method_7_code 1 = .ok (.bipush 48, 2) := by decide +kernel
theorem d_Model_isDigit_3 : decode prog_13_method_7_code 3 = .ok (.if_icmp .lt 13, 3) := by decide +kernel
theorem d_Model_isDigit_16 : decode prog_13_method_7_code 16 = .ok (.iconst 0, 1) := by decide +kernel
theorem d_Model_isDigit_17 : decode prog_13_method_7_code 17 = .ok (.ireturn, 1) := by decide +kernel
theorem d_Model_isDigit_6 : decode prog_13_method_7_code 6 = .ok (.iload_n 0, 1) := by decide +kernel
theorem d_Model_isDigit_7 : decode prog_13_method_7_code 7 = .ok (.bipush 57, 2) := by decide +kernel
theorem d_Model_isDigit_9 : decode prog_13_method_7_code 9 = .ok (.if_icmp .gt 7, 3) := by decide +kernel
theorem d_Model_isDigit_12 : decode prog_13_method_7_code 12 = .ok (.iconst 1, 1) := by decide +kernel
theorem d_Model_isDigit_13 : decode prog_13_method_7_code 13 = .ok (.goto 4, 3) := by decide +kernel
set_option maxHeartbeats 4000000 in
set_option maxRecDepth 100000 in
theorem c_M_isDigit (l : Launch) (D : va_G) (y : Nat → ClassId) (v : Int32)  : CT l D y ⟨"NineBoardsModel", "isDigit", "(I)Z"⟩ prog_13_method_7_code 1 (some .boolean) ({ frames := 0, cells := 0, slots := 0, locals := 0 } : Room) [.int v] [] (QI D [] (fun (r : Int32) (u : Unit) => (r = 0 ∨ r = 1)) (fun _ => [])) := by
  refine CT.of (by decide) (nb rfl) ?_
  intro p e s m args below meth c C hr
  refine j_lv (lv' := [(0, .int v)]) rfl ?_
  refine j_iload_n (pc := 0) C d_Model_isDigit_0 rfl 0 rfl ?_
  refine j_bipush (pc := 1) C (v := 48) d_Model_isDigit_1 (by decide) ?_
  refine j_icmp_lt (pc := 3) C (tgt := 16) d_Model_isDigit_3 (by decide) (fun c1 => ?_) (fun c1 => ?_)
  · refine j_iconst (pc := 16) C (v := 0) d_Model_isDigit_16 (by decide) ?_
    exact j_iret (pc := 17) C hr (by decide) () (by decide) [] rfl (by decide) (by decide) (by decide) d_Model_isDigit_17
  · refine j_iload_n (pc := 6) C d_Model_isDigit_6 rfl 0 rfl ?_
    refine j_bipush (pc := 7) C (v := 57) d_Model_isDigit_7 (by decide) ?_
    refine j_icmp_gt (pc := 9) C (tgt := 16) d_Model_isDigit_9 (by decide) (fun c2 => ?_) (fun c2 => ?_)
    · refine j_iconst (pc := 16) C (v := 0) d_Model_isDigit_16 (by decide) ?_
      exact j_iret (pc := 17) C hr (by decide) () (by decide) [] rfl (by decide) (by decide) (by decide) d_Model_isDigit_17
    · refine j_iconst (pc := 12) C (v := 1) d_Model_isDigit_12 (by decide) ?_
      refine j_goto (pc := 13) C (tgt := 17) d_Model_isDigit_13 (by decide) ?_
      exact j_iret (pc := 17) C hr (by decide) () (by decide) [] rfl (by decide) (by decide) (by decide) d_Model_isDigit_17
theorem d_Model_gateMany_0 : decode prog_13_method_54_code 0 = .ok (.aload_n 0, 1) := by decide +kernel
theorem d_Model_gateMany_1 : decode prog_13_method_54_code 1 = .ok (.getfield 117, 3) := by decide +kernel
theorem gf_Model_117 : GF "NineBoardsModel" 117 10 43 := ⟨_, _, _, rfl, ci_Model, by decide, (mt_5 (List.mem_of_getElem? (i := 131) rfl) rfl)⟩
theorem d_Model_gateMany_4 : decode prog_13_method_54_code 4 = .ok (.iconst 4, 1) := by decide +kernel
theorem d_Model_gateMany_5 : decode prog_13_method_54_code 5 = .ok (.iaload, 1) := by decide +kernel
theorem d_Model_gateMany_6 : decode prog_13_method_54_code 6 = .ok (.ireturn, 1) := by decide +kernel
set_option maxHeartbeats 4000000 in
set_option maxRecDepth 100000 in
theorem c_M_gateMany (l : Launch) (D : va_G) (y : Nat → ClassId) (mo : Nat) (ma : Nat → Nat) (t1 : Nat) (i2 : Int32) (i3 : Int32) (i4 : Int32) (i5 : Int32) (i6 : Int32) (i7 : Int32) (i8 : Int32) (i42 : Int32) (i49 : Int32) (i51 : Int32) (i53 : Int32) (i54 : Int32) (i59 : Int32) (i61 : Int32) (i64 : Int32) (i66 : Int32) (t67 : Nat) (i76 : Int64) (i78 : Int32) (g43 : Nat → Int32) (c0 : Nat) (hc0 : g43 4 = nI c0) (bc0 : c0 ≤ 9) : CT l D y ⟨"NineBoardsModel", "gateMany", "()I"⟩ prog_13_method_54_code 1 (some .int) ({ frames := 0, cells := 0, slots := 0, locals := 0 } : Room) [.ref mo] [MB mo ma (nI t1) i2 i3 i4 i5 i6 i7 i8 i42 i49 i51 i53 i54 i59 i61 i64 i66 (nI t67) i76 i78, (ma 43, .inl (y 0, 8, .inl g43))] (QI D [MB mo ma (nI t1) i2 i3 i4 i5 i6 i7 i8 i42 i49 i51 i53 i54 i59 i61 i64 i66 (nI t67) i76 i78, (ma 43, .inl (y 0, 8, .inl g43))] (fun (r : Int32) (u : Unit) => r = nI c0) (fun _ => [MB mo ma (nI t1) i2 i3 i4 i5 i6 i7 i8 i42 i49 i51 i53 i54 i59 i61 i64 i66 (nI t67) i76 i78, (ma 43, .inl (y 0, 8, .inl g43))])) := by
  refine CT.of (by decide) (nb rfl) ?_
  intro p e s m args below meth c C hr
  refine j_lv (lv' := [(0, .ref mo)]) rfl ?_
  refine j_aload_n (pc := 0) C d_Model_gateMany_0 rfl 0 rfl ?_
  refine j_get (pc := 1) C gf_Model_117 0 rfl rfl d_Model_gateMany_1 ?_
  refine j_iconst (pc := 4) C (v := 4) d_Model_gateMany_4 (by decide) ?_
  refine j_iald (pc := 5) C 1 rfl (v := nI c0) (vin (by decide)) (by exact hc0) d_Model_gateMany_5 ?_
  exact j_iret (pc := 6) C hr rfl () rfl [0, 1] rfl (by decide) (by decide) (by decide) d_Model_gateMany_6
theorem d_Model_villages_0 : decode prog_13_method_55_code 0 = .ok (.aload_n 0, 1) := by decide +kernel
theorem d_Model_villages_1 : decode prog_13_method_55_code 1 = .ok (.getfield 117, 3) := by decide +kernel
theorem d_Model_villages_4 : decode prog_13_method_55_code 4 = .ok (.iconst 5, 1) := by decide +kernel
theorem d_Model_villages_5 : decode prog_13_method_55_code 5 = .ok (.iaload, 1) := by decide +kernel
theorem d_Model_villages_6 : decode prog_13_method_55_code 6 = .ok (.ireturn, 1) := by decide +kernel
set_option maxHeartbeats 4000000 in
set_option maxRecDepth 100000 in
theorem c_M_villages (l : Launch) (D : va_G) (y : Nat → ClassId) (mo : Nat) (ma : Nat → Nat) (t1 : Nat) (i2 : Int32) (i3 : Int32) (i4 : Int32) (i5 : Int32) (i6 : Int32) (i7 : Int32) (i8 : Int32) (i42 : Int32) (i49 : Int32) (i51 : Int32) (i53 : Int32) (i54 : Int32) (i59 : Int32) (i61 : Int32) (i64 : Int32) (i66 : Int32) (t67 : Nat) (i76 : Int64) (i78 : Int32) (g43 : Nat → Int32) (c1 : Nat) (hc1 : g43 5 = nI c1) (bc1 : c1 ≤ 6) : CT l D y ⟨"NineBoardsModel", "villages", "()I"⟩ prog_13_method_55_code 1 (some .int) ({ frames := 0, cells := 0, slots := 0, locals := 0 } : Room) [.ref mo] [MB mo ma (nI t1) i2 i3 i4 i5 i6 i7 i8 i42 i49 i51 i53 i54 i59 i61 i64 i66 (nI t67) i76 i78, (ma 43, .inl (y 0, 8, .inl g43))] (QI D [MB mo ma (nI t1) i2 i3 i4 i5 i6 i7 i8 i42 i49 i51 i53 i54 i59 i61 i64 i66 (nI t67) i76 i78, (ma 43, .inl (y 0, 8, .inl g43))] (fun (r : Int32) (u : Unit) => r = nI c1) (fun _ => [MB mo ma (nI t1) i2 i3 i4 i5 i6 i7 i8 i42 i49 i51 i53 i54 i59 i61 i64 i66 (nI t67) i76 i78, (ma 43, .inl (y 0, 8, .inl g43))])) := by
  refine CT.of (by decide) (nb rfl) ?_
  intro p e s m args below meth c C hr
  refine j_lv (lv' := [(0, .ref mo)]) rfl ?_
  refine j_aload_n (pc := 0) C d_Model_villages_0 rfl 0 rfl ?_
  refine j_get (pc := 1) C gf_Model_117 0 rfl rfl d_Model_villages_1 ?_
  refine j_iconst (pc := 4) C (v := 5) d_Model_villages_4 (by decide) ?_
  refine j_iald (pc := 5) C 1 rfl (v := nI c1) (vin (by decide)) (by exact hc1) d_Model_villages_5 ?_
  exact j_iret (pc := 6) C hr rfl () rfl [0, 1] rfl (by decide) (by decide) (by decide) d_Model_villages_6
theorem d_Model_joinedTo_0 : decode prog_13_method_56_code 0 = .ok (.aload_n 0, 1) := by decide +kernel
theorem d_Model_joinedTo_1 : decode prog_13_method_56_code 1 = .ok (.getfield 127, 3) := by decide +kernel
theorem gf_Model_127 : GF "NineBoardsModel" 127 10 46 := ⟨_, _, _, rfl, ci_Model, by decide, (mt_5 (List.mem_of_getElem? (i := 134) rfl) rfl)⟩
theorem d_Model_joinedTo_4 : decode prog_13_method_56_code 4 = .ok (.bipush 54, 2) := by decide +kernel
theorem d_Model_joinedTo_6 : decode prog_13_method_56_code 6 = .ok (.bipush 6, 2) := by decide +kernel
theorem d_Model_joinedTo_8 : decode prog_13_method_56_code 8 = .ok (.iload_n 1, 1) := by decide +kernel
theorem d_Model_joinedTo_9 : decode prog_13_method_56_code 9 = .ok (.imul, 1) := by decide +kernel
theorem d_Model_joinedTo_10 : decode prog_13_method_56_code 10 = .ok (.iadd, 1) := by decide +kernel
theorem d_Model_joinedTo_11 : decode prog_13_method_56_code 11 = .ok (.iconst 5, 1) := by decide +kernel
theorem d_Model_joinedTo_12 : decode prog_13_method_56_code 12 = .ok (.iadd, 1) := by decide +kernel
theorem d_Model_joinedTo_13 : decode prog_13_method_56_code 13 = .ok (.iaload, 1) := by decide +kernel
theorem d_Model_joinedTo_14 : decode prog_13_method_56_code 14 = .ok (.ireturn, 1) := by decide +kernel
set_option maxHeartbeats 4000000 in
set_option maxRecDepth 100000 in
theorem c_M_joinedTo (l : Launch) (D : va_G) (y : Nat → ClassId) (mo : Nat) (ma : Nat → Nat) (t1 : Nat) (i2 : Int32) (i3 : Int32) (i4 : Int32) (i5 : Int32) (i6 : Int32) (i7 : Int32) (i8 : Int32) (i42 : Int32) (i49 : Int32) (i51 : Int32) (i53 : Int32) (i54 : Int32) (i59 : Int32) (i61 : Int32) (i64 : Int32) (i66 : Int32) (t67 : Nat) (i76 : Int64) (i78 : Int32) (g46 : Nat → Int32) (j : Nat) (hG : ∀ j, j < 9 → g46 (54 + 6 * j + 5) = -1 ∨ ∃ q, q < 9 ∧ g46 (54 + 6 * j + 5) = nI q) (hj : j < 9) : CT l D y ⟨"NineBoardsModel", "joinedTo", "(I)I"⟩ prog_13_method_56_code 2 (some .int) ({ frames := 0, cells := 0, slots := 0, locals := 0 } : Room) [.ref mo, .int (nI j)] [MB mo ma (nI t1) i2 i3 i4 i5 i6 i7 i8 i42 i49 i51 i53 i54 i59 i61 i64 i66 (nI t67) i76 i78, (ma 46, .inl (y 0, 108, .inl g46))] (QI D [MB mo ma (nI t1) i2 i3 i4 i5 i6 i7 i8 i42 i49 i51 i53 i54 i59 i61 i64 i66 (nI t67) i76 i78, (ma 46, .inl (y 0, 108, .inl g46))] (fun (r : Int32) (u : Unit) => True) (fun _ => [MB mo ma (nI t1) i2 i3 i4 i5 i6 i7 i8 i42 i49 i51 i53 i54 i59 i61 i64 i66 (nI t67) i76 i78, (ma 46, .inl (y 0, 108, .inl g46))])) := by
  refine CT.of (by decide) (nb rfl) ?_
  intro p e s m args below meth c C hr
  refine j_lv (lv' := [(0, .ref mo), (1, .int (nI j))]) rfl ?_
  refine j_aload_n (pc := 0) C d_Model_joinedTo_0 rfl 0 rfl ?_
  refine j_get (pc := 1) C gf_Model_127 0 rfl rfl d_Model_joinedTo_1 ?_
  refine j_bipush (pc := 4) C (v := 54) d_Model_joinedTo_4 (by decide) ?_
  refine j_bipush (pc := 6) C (v := 6) d_Model_joinedTo_6 (by decide) ?_
  refine j_iload_n (pc := 8) C d_Model_joinedTo_8 rfl 1 rfl ?_
  refine j_imul (pc := 9) C (v := nI (6 * j)) d_Model_joinedTo_9 (pk_mul _ _) ?_
  refine j_iadd (pc := 10) C (v := nI (54 + (6 * j))) d_Model_joinedTo_10 (nI_add _ _) ?_
  refine j_iconst (pc := 11) C (v := 5) d_Model_joinedTo_11 (by decide) ?_
  refine j_iadd (pc := 12) C (v := nI ((54 + (6 * j)) + 5)) d_Model_joinedTo_12 (nI_add _ _) ?_
  refine j_iald (pc := 13) C 1 rfl (v := g46 ((54 + (6 * j)) + 5)) (vp_in_nI (by omega) (by decide)) (by rw [nI_clamp (by omega)]) d_Model_joinedTo_13 ?_
  exact j_iret (pc := 14) C hr rfl () trivial [0, 1] rfl (by decide) (by decide) (by decide) d_Model_joinedTo_14
