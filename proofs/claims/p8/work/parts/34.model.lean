/-- the reference's own object: where its rows lie, and its numbers -/
abbrev MB (mo : Nat) (ad : Nat → Nat) (x1 x2 x3 x4 x5 x6 x7 x8 x42 x49 x51 x53 x54 x59 x61 x64 x66 x67 : Int32) (x76 : Int64) (x78 : Int32) : Nat × va_E := (mo, .inr (10, [.ref (ad 0), .int x1, .int x2, .int x3, .int x4, .int x5, .int x6, .int x7, .int x8, .ref (ad 9), .ref (ad 10), .ref (ad 11), .ref (ad 12), .ref (ad 13), .ref (ad 14), .ref (ad 15), .ref (ad 16), .ref (ad 17), .ref (ad 18), .ref (ad 19), .ref (ad 20), .ref (ad 21), .ref (ad 22), .ref (ad 23), .ref (ad 24), .ref (ad 25), .ref (ad 26), .ref (ad 27), .ref (ad 28), .ref (ad 29), .ref (ad 30), .ref (ad 31), .ref (ad 32), .ref (ad 33), .ref (ad 34), .ref (ad 35), .ref (ad 36), .ref (ad 37), .ref (ad 38), .ref (ad 39), .ref (ad 40), .ref (ad 41), .int x42, .ref (ad 43), .ref (ad 44), .ref (ad 45), .ref (ad 46), .ref (ad 47), .ref (ad 48), .int x49, .ref (ad 50), .int x51, .ref (ad 52), .int x53, .int x54, .ref (ad 55), .ref (ad 56), .ref (ad 57), .ref (ad 58), .int x59, .ref (ad 60), .int x61, .ref (ad 62), .ref (ad 63), .int x64, .ref (ad 65), .int x66, .int x67, .ref (ad 68), .ref (ad 69), .ref (ad 70), .ref (ad 71), .ref (ad 72), .ref (ad 73), .ref (ad 74), .ref (ad 75), .long x76, .ref (ad 77), .int x78]))
theorem isin_x {v : Int32} {c : Nat} (hc : c ≤ 1000) (h1 : 0 ≤ v.toInt) (h2 : v.toInt ≤ (nI c - 1).toInt) : ∃ j : Nat, j < c ∧ v = nI j := by
  have e : (nI c - 1).toInt = (c : Int) - 1 := by
    rcases Nat.eq_zero_or_pos c with q | q
    · subst q
      decide
    · rw [show nI c - 1 = nI (c - 1) from nI_s1 q, nI_toInt (by omega)]
      omega
  rw [e] at h2
  exact ⟨v.toInt.toNat, by omega, Int32.toInt_inj.mp (by rw [nI_toInt (by omega)]; omega)⟩
theorem isin_k {v : Int32} {a b : Nat} (hb : b ≤ 100000) (h1 : (a : Int) ≤ v.toInt) (h2 : v.toInt ≤ (b : Int)) : ∃ j : Nat, (a ≤ j ∧ j ≤ b) ∧ v = nI j := ⟨v.toInt.toNat, by omega, Int32.toInt_inj.mp (by rw [nI_toInt (by omega)]; omega)⟩
/-- how many numbers lie on the pile behind a row of codes -/
def stepC (v : Int32) (n : Nat) : Option Nat := if 1000 ≤ v then some (n + 1) else if v = 17 then some (n + 1) else if v = 16 then (if 1 ≤ n then some n else none) else if 7 ≤ v ∧ v ≤ 9 then some (n + 1) else if 2 ≤ n then some (n - 1) else none
def dp (f : Nat → Int32) (s : Nat) : Nat → Option Nat
  | 0 => some 0
  | n + 1 => (dp f s n).bind (stepC (f (s + n)))
theorem dp_le {f : Nat → Int32} {s : Nat} : ∀ {n q : Nat}, dp f s n = some q → q ≤ n := by
  intro n
  induction n with
  | zero => intro q h; cases h; exact Nat.le_refl _
  | succ n ih =>
    intro q h
    unfold dp at h
    cases e : dp f s n with
    | none => rw [e] at h; cases h
    | some t =>
      rw [e] at h
      have ht := ih e
      simp only [Option.bind_some] at h
      unfold stepC at h
      repeat' split at h
      all_goals (first | (cases h; omega) | cases h)
theorem dp_pre {f : Nat → Int32} {s n q : Nat} (h : dp f s (n + 1) = some q) : ∃ t, dp f s n = some t ∧ stepC (f (s + n)) t = some q := by
  unfold dp at h
  cases e : dp f s n with
  | none => rw [e] at h; cases h
  | some t => rw [e] at h; exact ⟨t, rfl, h⟩
theorem dp_all {f : Nat → Int32} {s : Nat} : ∀ {n q : Nat}, dp f s n = some q → ∀ k, k ≤ n → ∃ t, dp f s k = some t := by
  intro n
  induction n with
  | zero => intro q h k hk; rw [Nat.le_zero.mp hk]; exact ⟨_, h⟩
  | succ n ih =>
    intro q h k hk
    obtain ⟨t, ht, _⟩ := dp_pre h
    rcases Nat.lt_or_ge n k with r | r
    · rw [show k = n + 1 by omega]; exact ⟨_, h⟩
    · exact ih ht k r
theorem d_Model_isIn_0 : decode prog_13_method_2_code 0 = .ok (.lload_n 0, 1) := by decide +kernel
theorem d_Model_isIn_1 : decode prog_13_method_2_code 1 = .ok (.lload_n 2, 1) := by decide +kernel
theorem d_Model_isIn_2 : decode prog_13_method_2_code 2 = .ok (.lcmp, 1) := by decide +kernel
theorem d_Model_isIn_3 : decode prog_13_method_2_code 3 = .ok (.ifCond .lt 14, 3) := by decide +kernel
theorem d_Model_isIn_17 : decode prog_13_method_2_code 17 = .ok (.iconst 0, 1) := by decide +kernel
theorem d_Model_isIn_18 : decode prog_13_method_2_code 18 = .ok (.ireturn, 1) := by decide +kernel
theorem d_Model_isIn_6 : decode prog_13_method_2_code 6 = .ok (.lload_n 0, 1) := by decide +kernel
theorem d_Model_isIn_7 : decode prog_13_method_2_code 7 = .ok (.lload 4, 2) := by decide +kernel
theorem d_Model_isIn_9 : decode prog_13_method_2_code 9 = .ok (.lcmp, 1) := by decide +kernel
theorem d_Model_isIn_10 : decode prog_13_method_2_code 10 = .ok (.ifCond .gt 7, 3) := by decide +kernel
theorem d_Model_isIn_13 : decode prog_13_method_2_code 13 = .ok (.iconst 1, 1) := by decide +kernel
theorem d_Model_isIn_14 : decode prog_13_method_2_code 14 = .ok (.goto 4, 3) := by decide +kernel
set_option maxHeartbeats 4000000 in
set_option maxRecDepth 100000 in
theorem c_isIn_ix (l : Launch) (D : va_G) (y : Nat → ClassId) (v : Int32) (c0 : Nat) (hc : c0 ≤ 1000) : CT l D y ⟨"NineBoardsModel", "isIn", "(JJJ)Z"⟩ prog_13_method_2_code 6 (some .boolean) ({ frames := 0, cells := 0, slots := 0, locals := 0 } : Room) [.long v.toInt64, .long 0, .long ((nI c0 - 1).toInt64)] [] (QI D [] (fun (r : Int32) (u : Unit) => r = 0 ∨ (r = 1 ∧ ∃ j : Nat, j < c0 ∧ v = nI j)) (fun _ => [])) := by
  refine CT.of (by decide) (nb rfl) ?_
  intro p e s m args below meth c C hr
  refine j_lv (lv' := [(0, .long v.toInt64), (2, .long 0), (4, .long ((nI c0 - 1).toInt64))]) rfl ?_
  refine j_lload_n (pc := 0) C d_Model_isIn_0 rfl 0 rfl ?_
  refine j_lload_n (pc := 1) C d_Model_isIn_1 rfl 1 rfl ?_
  refine j_lcmp (pc := 2) C (v := lg_cmp v.toInt64 0) d_Model_isIn_2 rfl ?_
  refine j_if_lt (pc := 3) C (tgt := 17) d_Model_isIn_3 (by decide) (fun c1 => ?_) (fun c1 => ?_)
  · refine j_iconst (pc := 17) C (v := 0) d_Model_isIn_17 (by decide) ?_
    exact j_iret (pc := 18) C hr (by decide) () (by exact Or.inl rfl) [] rfl (by decide) (by decide) (by decide) d_Model_isIn_18
  · refine j_lload_n (pc := 6) C d_Model_isIn_6 rfl 0 rfl ?_
    refine j_lload (pc := 7) C d_Model_isIn_7 2 rfl ?_
    refine j_lcmp (pc := 9) C (v := lg_cmp v.toInt64 ((nI c0 - 1).toInt64)) d_Model_isIn_9 rfl ?_
    refine j_if_gt (pc := 10) C (tgt := 17) d_Model_isIn_10 (by decide) (fun c2 => ?_) (fun c2 => ?_)
    · refine j_iconst (pc := 17) C (v := 0) d_Model_isIn_17 (by decide) ?_
      exact j_iret (pc := 18) C hr (by decide) () (by exact Or.inl rfl) [] rfl (by decide) (by decide) (by decide) d_Model_isIn_18
    · refine j_iconst (pc := 13) C (v := 1) d_Model_isIn_13 (by decide) ?_
      refine j_goto (pc := 14) C (tgt := 18) d_Model_isIn_14 (by decide) ?_
      exact j_iret (pc := 18) C hr (by decide) () (by simp only [lg_cmp_lt, lg_cmp_gt, Int64.lt_iff_toInt_lt, Int32.toInt_toInt64] at c1 c2; exact Or.inr ⟨rfl, isin_x hc (by have := (by decide : Int64.toInt 0 = 0); omega) (by omega)⟩) [] rfl (by decide) (by decide) (by decide) d_Model_isIn_18
set_option maxHeartbeats 4000000 in
set_option maxRecDepth 100000 in
theorem c_isIn_1_6 (l : Launch) (D : va_G) (y : Nat → ClassId) (v : Int32)  : CT l D y ⟨"NineBoardsModel", "isIn", "(JJJ)Z"⟩ prog_13_method_2_code 6 (some .boolean) ({ frames := 0, cells := 0, slots := 0, locals := 0 } : Room) [.long v.toInt64, .long 1, .long 6] [] (QI D [] (fun (r : Int32) (u : Unit) => r = 0 ∨ (r = 1 ∧ ∃ j : Nat, (1 ≤ j ∧ j ≤ 6) ∧ v = nI j)) (fun _ => [])) := by
  refine CT.of (by decide) (nb rfl) ?_
  intro p e s m args below meth c C hr
  refine j_lv (lv' := [(0, .long v.toInt64), (2, .long 1), (4, .long 6)]) rfl ?_
  refine j_lload_n (pc := 0) C d_Model_isIn_0 rfl 0 rfl ?_
  refine j_lload_n (pc := 1) C d_Model_isIn_1 rfl 1 rfl ?_
  refine j_lcmp (pc := 2) C (v := lg_cmp v.toInt64 1) d_Model_isIn_2 rfl ?_
  refine j_if_lt (pc := 3) C (tgt := 17) d_Model_isIn_3 (by decide) (fun c1 => ?_) (fun c1 => ?_)
  · refine j_iconst (pc := 17) C (v := 0) d_Model_isIn_17 (by decide) ?_
    exact j_iret (pc := 18) C hr (by decide) () (by exact Or.inl rfl) [] rfl (by decide) (by decide) (by decide) d_Model_isIn_18
  · refine j_lload_n (pc := 6) C d_Model_isIn_6 rfl 0 rfl ?_
    refine j_lload (pc := 7) C d_Model_isIn_7 2 rfl ?_
    refine j_lcmp (pc := 9) C (v := lg_cmp v.toInt64 6) d_Model_isIn_9 rfl ?_
    refine j_if_gt (pc := 10) C (tgt := 17) d_Model_isIn_10 (by decide) (fun c2 => ?_) (fun c2 => ?_)
    · refine j_iconst (pc := 17) C (v := 0) d_Model_isIn_17 (by decide) ?_
      exact j_iret (pc := 18) C hr (by decide) () (by exact Or.inl rfl) [] rfl (by decide) (by decide) (by decide) d_Model_isIn_18
    · refine j_iconst (pc := 13) C (v := 1) d_Model_isIn_13 (by decide) ?_
      refine j_goto (pc := 14) C (tgt := 18) d_Model_isIn_14 (by decide) ?_
      exact j_iret (pc := 18) C hr (by decide) () (by simp only [lg_cmp_lt, lg_cmp_gt, Int64.lt_iff_toInt_lt, Int32.toInt_toInt64, (by decide : Int64.toInt 1 = 1), (by decide : Int64.toInt 6 = 6)] at c1 c2; exact Or.inr ⟨rfl, isin_k (by decide) (by omega) (by omega)⟩) [] rfl (by decide) (by decide) (by decide) d_Model_isIn_18
set_option maxHeartbeats 4000000 in
set_option maxRecDepth 100000 in
theorem c_isIn_1_12 (l : Launch) (D : va_G) (y : Nat → ClassId) (v : Int32)  : CT l D y ⟨"NineBoardsModel", "isIn", "(JJJ)Z"⟩ prog_13_method_2_code 6 (some .boolean) ({ frames := 0, cells := 0, slots := 0, locals := 0 } : Room) [.long v.toInt64, .long 1, .long 12] [] (QI D [] (fun (r : Int32) (u : Unit) => r = 0 ∨ (r = 1 ∧ ∃ j : Nat, (1 ≤ j ∧ j ≤ 12) ∧ v = nI j)) (fun _ => [])) := by
  refine CT.of (by decide) (nb rfl) ?_
  intro p e s m args below meth c C hr
  refine j_lv (lv' := [(0, .long v.toInt64), (2, .long 1), (4, .long 12)]) rfl ?_
  refine j_lload_n (pc := 0) C d_Model_isIn_0 rfl 0 rfl ?_
  refine j_lload_n (pc := 1) C d_Model_isIn_1 rfl 1 rfl ?_
  refine j_lcmp (pc := 2) C (v := lg_cmp v.toInt64 1) d_Model_isIn_2 rfl ?_
  refine j_if_lt (pc := 3) C (tgt := 17) d_Model_isIn_3 (by decide) (fun c1 => ?_) (fun c1 => ?_)
  · refine j_iconst (pc := 17) C (v := 0) d_Model_isIn_17 (by decide) ?_
    exact j_iret (pc := 18) C hr (by decide) () (by exact Or.inl rfl) [] rfl (by decide) (by decide) (by decide) d_Model_isIn_18
  · refine j_lload_n (pc := 6) C d_Model_isIn_6 rfl 0 rfl ?_
    refine j_lload (pc := 7) C d_Model_isIn_7 2 rfl ?_
    refine j_lcmp (pc := 9) C (v := lg_cmp v.toInt64 12) d_Model_isIn_9 rfl ?_
    refine j_if_gt (pc := 10) C (tgt := 17) d_Model_isIn_10 (by decide) (fun c2 => ?_) (fun c2 => ?_)
    · refine j_iconst (pc := 17) C (v := 0) d_Model_isIn_17 (by decide) ?_
      exact j_iret (pc := 18) C hr (by decide) () (by exact Or.inl rfl) [] rfl (by decide) (by decide) (by decide) d_Model_isIn_18
    · refine j_iconst (pc := 13) C (v := 1) d_Model_isIn_13 (by decide) ?_
      refine j_goto (pc := 14) C (tgt := 18) d_Model_isIn_14 (by decide) ?_
      exact j_iret (pc := 18) C hr (by decide) () (by simp only [lg_cmp_lt, lg_cmp_gt, Int64.lt_iff_toInt_lt, Int32.toInt_toInt64, (by decide : Int64.toInt 1 = 1), (by decide : Int64.toInt 12 = 12)] at c1 c2; exact Or.inr ⟨rfl, isin_k (by decide) (by omega) (by omega)⟩) [] rfl (by decide) (by decide) (by decide) d_Model_isIn_18
set_option maxHeartbeats 4000000 in
set_option maxRecDepth 100000 in
theorem c_isIn_1_20 (l : Launch) (D : va_G) (y : Nat → ClassId) (v : Int32)  : CT l D y ⟨"NineBoardsModel", "isIn", "(JJJ)Z"⟩ prog_13_method_2_code 6 (some .boolean) ({ frames := 0, cells := 0, slots := 0, locals := 0 } : Room) [.long v.toInt64, .long 1, .long 20] [] (QI D [] (fun (r : Int32) (u : Unit) => r = 0 ∨ (r = 1 ∧ ∃ j : Nat, (1 ≤ j ∧ j ≤ 20) ∧ v = nI j)) (fun _ => [])) := by
  refine CT.of (by decide) (nb rfl) ?_
  intro p e s m args below meth c C hr
  refine j_lv (lv' := [(0, .long v.toInt64), (2, .long 1), (4, .long 20)]) rfl ?_
  refine j_lload_n (pc := 0) C d_Model_isIn_0 rfl 0 rfl ?_
  refine j_lload_n (pc := 1) C d_Model_isIn_1 rfl 1 rfl ?_
  refine j_lcmp (pc := 2) C (v := lg_cmp v.toInt64 1) d_Model_isIn_2 rfl ?_
  refine j_if_lt (pc := 3) C (tgt := 17) d_Model_isIn_3 (by decide) (fun c1 => ?_) (fun c1 => ?_)
  · refine j_iconst (pc := 17) C (v := 0) d_Model_isIn_17 (by decide) ?_
    exact j_iret (pc := 18) C hr (by decide) () (by exact Or.inl rfl) [] rfl (by decide) (by decide) (by decide) d_Model_isIn_18
  · refine j_lload_n (pc := 6) C d_Model_isIn_6 rfl 0 rfl ?_
    refine j_lload (pc := 7) C d_Model_isIn_7 2 rfl ?_
    refine j_lcmp (pc := 9) C (v := lg_cmp v.toInt64 20) d_Model_isIn_9 rfl ?_
    refine j_if_gt (pc := 10) C (tgt := 17) d_Model_isIn_10 (by decide) (fun c2 => ?_) (fun c2 => ?_)
    · refine j_iconst (pc := 17) C (v := 0) d_Model_isIn_17 (by decide) ?_
      exact j_iret (pc := 18) C hr (by decide) () (by exact Or.inl rfl) [] rfl (by decide) (by decide) (by decide) d_Model_isIn_18
    · refine j_iconst (pc := 13) C (v := 1) d_Model_isIn_13 (by decide) ?_
      refine j_goto (pc := 14) C (tgt := 18) d_Model_isIn_14 (by decide) ?_
      exact j_iret (pc := 18) C hr (by decide) () (by simp only [lg_cmp_lt, lg_cmp_gt, Int64.lt_iff_toInt_lt, Int32.toInt_toInt64, (by decide : Int64.toInt 1 = 1), (by decide : Int64.toInt 20 = 20)] at c1 c2; exact Or.inr ⟨rfl, isin_k (by decide) (by omega) (by omega)⟩) [] rfl (by decide) (by decide) (by decide) d_Model_isIn_18
set_option maxHeartbeats 4000000 in
set_option maxRecDepth 100000 in
theorem c_isIn_1_100 (l : Launch) (D : va_G) (y : Nat → ClassId) (v : Int32)  : CT l D y ⟨"NineBoardsModel", "isIn", "(JJJ)Z"⟩ prog_13_method_2_code 6 (some .boolean) ({ frames := 0, cells := 0, slots := 0, locals := 0 } : Room) [.long v.toInt64, .long 1, .long 100] [] (QI D [] (fun (r : Int32) (u : Unit) => r = 0 ∨ (r = 1 ∧ ∃ j : Nat, (1 ≤ j ∧ j ≤ 100) ∧ v = nI j)) (fun _ => [])) := by
  refine CT.of (by decide) (nb rfl) ?_
  intro p e s m args below meth c C hr
  refine j_lv (lv' := [(0, .long v.toInt64), (2, .long 1), (4, .long 100)]) rfl ?_
  refine j_lload_n (pc := 0) C d_Model_isIn_0 rfl 0 rfl ?_
  refine j_lload_n (pc := 1) C d_Model_isIn_1 rfl 1 rfl ?_
  refine j_lcmp (pc := 2) C (v := lg_cmp v.toInt64 1) d_Model_isIn_2 rfl ?_
  refine j_if_lt (pc := 3) C (tgt := 17) d_Model_isIn_3 (by decide) (fun c1 => ?_) (fun c1 => ?_)
  · refine j_iconst (pc := 17) C (v := 0) d_Model_isIn_17 (by decide) ?_
    exact j_iret (pc := 18) C hr (by decide) () (by exact Or.inl rfl) [] rfl (by decide) (by decide) (by decide) d_Model_isIn_18
  · refine j_lload_n (pc := 6) C d_Model_isIn_6 rfl 0 rfl ?_
    refine j_lload (pc := 7) C d_Model_isIn_7 2 rfl ?_
    refine j_lcmp (pc := 9) C (v := lg_cmp v.toInt64 100) d_Model_isIn_9 rfl ?_
    refine j_if_gt (pc := 10) C (tgt := 17) d_Model_isIn_10 (by decide) (fun c2 => ?_) (fun c2 => ?_)
    · refine j_iconst (pc := 17) C (v := 0) d_Model_isIn_17 (by decide) ?_
      exact j_iret (pc := 18) C hr (by decide) () (by exact Or.inl rfl) [] rfl (by decide) (by decide) (by decide) d_Model_isIn_18
    · refine j_iconst (pc := 13) C (v := 1) d_Model_isIn_13 (by decide) ?_
      refine j_goto (pc := 14) C (tgt := 18) d_Model_isIn_14 (by decide) ?_
      exact j_iret (pc := 18) C hr (by decide) () (by simp only [lg_cmp_lt, lg_cmp_gt, Int64.lt_iff_toInt_lt, Int32.toInt_toInt64, (by decide : Int64.toInt 1 = 1), (by decide : Int64.toInt 100 = 100)] at c1 c2; exact Or.inr ⟨rfl, isin_k (by decide) (by omega) (by omega)⟩) [] rfl (by decide) (by decide) (by decide) d_Model_isIn_18
set_option maxHeartbeats 4000000 in
set_option maxRecDepth 100000 in
theorem c_isIn_0_20 (l : Launch) (D : va_G) (y : Nat → ClassId) (v : Int32)  : CT l D y ⟨"NineBoardsModel", "isIn", "(JJJ)Z"⟩ prog_13_method_2_code 6 (some .boolean) ({ frames := 0, cells := 0, slots := 0, locals := 0 } : Room) [.long v.toInt64, .long 0, .long 20] [] (QI D [] (fun (r : Int32) (u : Unit) => r = 0 ∨ (r = 1 ∧ ∃ j : Nat, (0 ≤ j ∧ j ≤ 20) ∧ v = nI j)) (fun _ => [])) := by
  refine CT.of (by decide) (nb rfl) ?_
  intro p e s m args below meth c C hr
  refine j_lv (lv' := [(0, .long v.toInt64), (2, .long 0), (4, .long 20)]) rfl ?_
  refine j_lload_n (pc := 0) C d_Model_isIn_0 rfl 0 rfl ?_
  refine j_lload_n (pc := 1) C d_Model_isIn_1 rfl 1 rfl ?_
  refine j_lcmp (pc := 2) C (v := lg_cmp v.toInt64 0) d_Model_isIn_2 rfl ?_
  refine j_if_lt (pc := 3) C (tgt := 17) d_Model_isIn_3 (by decide) (fun c1 => ?_) (fun c1 => ?_)
  · refine j_iconst (pc := 17) C (v := 0) d_Model_isIn_17 (by decide) ?_
    exact j_iret (pc := 18) C hr (by decide) () (by exact Or.inl rfl) [] rfl (by decide) (by decide) (by decide) d_Model_isIn_18
  · refine j_lload_n (pc := 6) C d_Model_isIn_6 rfl 0 rfl ?_
    refine j_lload (pc := 7) C d_Model_isIn_7 2 rfl ?_
    refine j_lcmp (pc := 9) C (v := lg_cmp v.toInt64 20) d_Model_isIn_9 rfl ?_
    refine j_if_gt (pc := 10) C (tgt := 17) d_Model_isIn_10 (by decide) (fun c2 => ?_) (fun c2 => ?_)
    · refine j_iconst (pc := 17) C (v := 0) d_Model_isIn_17 (by decide) ?_
      exact j_iret (pc := 18) C hr (by decide) () (by exact Or.inl rfl) [] rfl (by decide) (by decide) (by decide) d_Model_isIn_18
    · refine j_iconst (pc := 13) C (v := 1) d_Model_isIn_13 (by decide) ?_
      refine j_goto (pc := 14) C (tgt := 18) d_Model_isIn_14 (by decide) ?_
      exact j_iret (pc := 18) C hr (by decide) () (by simp only [lg_cmp_lt, lg_cmp_gt, Int64.lt_iff_toInt_lt, Int32.toInt_toInt64, (by decide : Int64.toInt 0 = 0), (by decide : Int64.toInt 20 = 20)] at c1 c2; exact Or.inr ⟨rfl, isin_k (by decide) (by omega) (by omega)⟩) [] rfl (by decide) (by decide) (by decide) d_Model_isIn_18
set_option maxHeartbeats 4000000 in
set_option maxRecDepth 100000 in
theorem c_isIn_0_998 (l : Launch) (D : va_G) (y : Nat → ClassId) (v : Int32)  : CT l D y ⟨"NineBoardsModel", "isIn", "(JJJ)Z"⟩ prog_13_method_2_code 6 (some .boolean) ({ frames := 0, cells := 0, slots := 0, locals := 0 } : Room) [.long v.toInt64, .long 0, .long 998] [] (QI D [] (fun (r : Int32) (u : Unit) => r = 0 ∨ (r = 1 ∧ ∃ j : Nat, (0 ≤ j ∧ j ≤ 998) ∧ v = nI j)) (fun _ => [])) := by
  refine CT.of (by decide) (nb rfl) ?_
  intro p e s m args below meth c C hr
  refine j_lv (lv' := [(0, .long v.toInt64), (2, .long 0), (4, .long 998)]) rfl ?_
  refine j_lload_n (pc := 0) C d_Model_isIn_0 rfl 0 rfl ?_
  refine j_lload_n (pc := 1) C d_Model_isIn_1 rfl 1 rfl ?_
  refine j_lcmp (pc := 2) C (v := lg_cmp v.toInt64 0) d_Model_isIn_2 rfl ?_
  refine j_if_lt (pc := 3) C (tgt := 17) d_Model_isIn_3 (by decide) (fun c1 => ?_) (fun c1 => ?_)
  · refine j_iconst (pc := 17) C (v := 0) d_Model_isIn_17 (by decide) ?_
    exact j_iret (pc := 18) C hr (by decide) () (by exact Or.inl rfl) [] rfl (by decide) (by decide) (by decide) d_Model_isIn_18
  · refine j_lload_n (pc := 6) C d_Model_isIn_6 rfl 0 rfl ?_
    refine j_lload (pc := 7) C d_Model_isIn_7 2 rfl ?_
    refine j_lcmp (pc := 9) C (v := lg_cmp v.toInt64 998) d_Model_isIn_9 rfl ?_
    refine j_if_gt (pc := 10) C (tgt := 17) d_Model_isIn_10 (by decide) (fun c2 => ?_) (fun c2 => ?_)
    · refine j_iconst (pc := 17) C (v := 0) d_Model_isIn_17 (by decide) ?_
      exact j_iret (pc := 18) C hr (by decide) () (by exact Or.inl rfl) [] rfl (by decide) (by decide) (by decide) d_Model_isIn_18
    · refine j_iconst (pc := 13) C (v := 1) d_Model_isIn_13 (by decide) ?_
      refine j_goto (pc := 14) C (tgt := 18) d_Model_isIn_14 (by decide) ?_
      exact j_iret (pc := 18) C hr (by decide) () (by simp only [lg_cmp_lt, lg_cmp_gt, Int64.lt_iff_toInt_lt, Int32.toInt_toInt64, (by decide : Int64.toInt 0 = 0), (by decide : Int64.toInt 998 = 998)] at c1 c2; exact Or.inr ⟨rfl, isin_k (by decide) (by omega) (by omega)⟩) [] rfl (by decide) (by decide) (by decide) d_Model_isIn_18
set_option maxHeartbeats 4000000 in
set_option maxRecDepth 100000 in
theorem c_isIn_0_9999 (l : Launch) (D : va_G) (y : Nat → ClassId) (v : Int32)  : CT l D y ⟨"NineBoardsModel", "isIn", "(JJJ)Z"⟩ prog_13_method_2_code 6 (some .boolean) ({ frames := 0, cells := 0, slots := 0, locals := 0 } : Room) [.long v.toInt64, .long 0, .long 9999] [] (QI D [] (fun (r : Int32) (u : Unit) => r = 0 ∨ (r = 1 ∧ ∃ j : Nat, (0 ≤ j ∧ j ≤ 9999) ∧ v = nI j)) (fun _ => [])) := by
  refine CT.of (by decide) (nb rfl) ?_
  intro p e s m args below meth c C hr
  refine j_lv (lv' := [(0, .long v.toInt64), (2, .long 0), (4, .long 9999)]) rfl ?_
  refine j_lload_n (pc := 0) C d_Model_isIn_0 rfl 0 rfl ?_
  refine j_lload_n (pc := 1) C d_Model_isIn_1 rfl 1 rfl ?_
  refine j_lcmp (pc := 2) C (v := lg_cmp v.toInt64 0) d_Model_isIn_2 rfl ?_
  refine j_if_lt (pc := 3) C (tgt := 17) d_Model_isIn_3 (by decide) (fun c1 => ?_) (fun c1 => ?_)
  · refine j_iconst (pc := 17) C (v := 0) d_Model_isIn_17 (by decide) ?_
    exact j_iret (pc := 18) C hr (by decide) () (by exact Or.inl rfl) [] rfl (by decide) (by decide) (by decide) d_Model_isIn_18
  · refine j_lload_n (pc := 6) C d_Model_isIn_6 rfl 0 rfl ?_
    refine j_lload (pc := 7) C d_Model_isIn_7 2 rfl ?_
    refine j_lcmp (pc := 9) C (v := lg_cmp v.toInt64 9999) d_Model_isIn_9 rfl ?_
    refine j_if_gt (pc := 10) C (tgt := 17) d_Model_isIn_10 (by decide) (fun c2 => ?_) (fun c2 => ?_)
    · refine j_iconst (pc := 17) C (v := 0) d_Model_isIn_17 (by decide) ?_
      exact j_iret (pc := 18) C hr (by decide) () (by exact Or.inl rfl) [] rfl (by decide) (by decide) (by decide) d_Model_isIn_18
    · refine j_iconst (pc := 13) C (v := 1) d_Model_isIn_13 (by decide) ?_
      refine j_goto (pc := 14) C (tgt := 18) d_Model_isIn_14 (by decide) ?_
      exact j_iret (pc := 18) C hr (by decide) () (by simp only [lg_cmp_lt, lg_cmp_gt, Int64.lt_iff_toInt_lt, Int32.toInt_toInt64, (by decide : Int64.toInt 0 = 0), (by decide : Int64.toInt 9999 = 9999)] at c1 c2; exact Or.inr ⟨rfl, isin_k (by decide) (by omega) (by omega)⟩) [] rfl (by decide) (by decide) (by decide) d_Model_isIn_18
set_option maxHeartbeats 4000000 in
set_option maxRecDepth 100000 in
theorem c_isIn_0_100 (l : Launch) (D : va_G) (y : Nat → ClassId) (v : Int32)  : CT l D y ⟨"NineBoardsModel", "isIn", "(JJJ)Z"⟩ prog_13_method_2_code 6 (some .boolean) ({ frames := 0, cells := 0, slots := 0, locals := 0 } : Room) [.long v.toInt64, .long 0, .long 100] [] (QI D [] (fun (r : Int32) (u : Unit) => r = 0 ∨ (r = 1 ∧ ∃ j : Nat, (0 ≤ j ∧ j ≤ 100) ∧ v = nI j)) (fun _ => [])) := by
  refine CT.of (by decide) (nb rfl) ?_
  intro p e s m args below meth c C hr
  refine j_lv (lv' := [(0, .long v.toInt64), (2, .long 0), (4, .long 100)]) rfl ?_
  refine j_lload_n (pc := 0) C d_Model_isIn_0 rfl 0 rfl ?_
  refine j_lload_n (pc := 1) C d_Model_isIn_1 rfl 1 rfl ?_
  refine j_lcmp (pc := 2) C (v := lg_cmp v.toInt64 0) d_Model_isIn_2 rfl ?_
  refine j_if_lt (pc := 3) C (tgt := 17) d_Model_isIn_3 (by decide) (fun c1 => ?_) (fun c1 => ?_)
  · refine j_iconst (pc := 17) C (v := 0) d_Model_isIn_17 (by decide) ?_
    exact j_iret (pc := 18) C hr (by decide) () (by exact Or.inl rfl) [] rfl (by decide) (by decide) (by decide) d_Model_isIn_18
  · refine j_lload_n (pc := 6) C d_Model_isIn_6 rfl 0 rfl ?_
    refine j_lload (pc := 7) C d_Model_isIn_7 2 rfl ?_
    refine j_lcmp (pc := 9) C (v := lg_cmp v.toInt64 100) d_Model_isIn_9 rfl ?_
    refine j_if_gt (pc := 10) C (tgt := 17) d_Model_isIn_10 (by decide) (fun c2 => ?_) (fun c2 => ?_)
    · refine j_iconst (pc := 17) C (v := 0) d_Model_isIn_17 (by decide) ?_
      exact j_iret (pc := 18) C hr (by decide) () (by exact Or.inl rfl) [] rfl (by decide) (by decide) (by decide) d_Model_isIn_18
    · refine j_iconst (pc := 13) C (v := 1) d_Model_isIn_13 (by decide) ?_
      refine j_goto (pc := 14) C (tgt := 18) d_Model_isIn_14 (by decide) ?_
      exact j_iret (pc := 18) C hr (by decide) () (by simp only [lg_cmp_lt, lg_cmp_gt, Int64.lt_iff_toInt_lt, Int32.toInt_toInt64, (by decide : Int64.toInt 0 = 0), (by decide : Int64.toInt 100 = 100)] at c1 c2; exact Or.inr ⟨rfl, isin_k (by decide) (by omega) (by omega)⟩) [] rfl (by decide) (by decide) (by decide) d_Model_isIn_18
set_option maxHeartbeats 4000000 in
set_option maxRecDepth 100000 in
theorem c_isIn_0_4 (l : Launch) (D : va_G) (y : Nat → ClassId) (v : Int32)  : CT l D y ⟨"NineBoardsModel", "isIn", "(JJJ)Z"⟩ prog_13_method_2_code 6 (some .boolean) ({ frames := 0, cells := 0, slots := 0, locals := 0 } : Room) [.long v.toInt64, .long 0, .long 4] [] (QI D [] (fun (r : Int32) (u : Unit) => r = 0 ∨ (r = 1 ∧ ∃ j : Nat, (0 ≤ j ∧ j ≤ 4) ∧ v = nI j)) (fun _ => [])) := by
  refine CT.of (by decide) (nb rfl) ?_
  intro p e s m args below meth c C hr
  refine j_lv (lv' := [(0, .long v.toInt64), (2, .long 0), (4, .long 4)]) rfl ?_
  refine j_lload_n (pc := 0) C d_Model_isIn_0 rfl 0 rfl ?_
  refine j_lload_n (pc := 1) C d_Model_isIn_1 rfl 1 rfl ?_
  refine j_lcmp (pc := 2) C (v := lg_cmp v.toInt64 0) d_Model_isIn_2 rfl ?_
  refine j_if_lt (pc := 3) C (tgt := 17) d_Model_isIn_3 (by decide) (fun c1 => ?_) (fun c1 => ?_)
  · refine j_iconst (pc := 17) C (v := 0) d_Model_isIn_17 (by decide) ?_
    exact j_iret (pc := 18) C hr (by decide) () (by exact Or.inl rfl) [] rfl (by decide) (by decide) (by decide) d_Model_isIn_18
  · refine j_lload_n (pc := 6) C d_Model_isIn_6 rfl 0 rfl ?_
    refine j_lload (pc := 7) C d_Model_isIn_7 2 rfl ?_
    refine j_lcmp (pc := 9) C (v := lg_cmp v.toInt64 4) d_Model_isIn_9 rfl ?_
    refine j_if_gt (pc := 10) C (tgt := 17) d_Model_isIn_10 (by decide) (fun c2 => ?_) (fun c2 => ?_)
    · refine j_iconst (pc := 17) C (v := 0) d_Model_isIn_17 (by decide) ?_
      exact j_iret (pc := 18) C hr (by decide) () (by exact Or.inl rfl) [] rfl (by decide) (by decide) (by decide) d_Model_isIn_18
    · refine j_iconst (pc := 13) C (v := 1) d_Model_isIn_13 (by decide) ?_
      refine j_goto (pc := 14) C (tgt := 18) d_Model_isIn_14 (by decide) ?_
      exact j_iret (pc := 18) C hr (by decide) () (by simp only [lg_cmp_lt, lg_cmp_gt, Int64.lt_iff_toInt_lt, Int32.toInt_toInt64, (by decide : Int64.toInt 0 = 0), (by decide : Int64.toInt 4 = 4)] at c1 c2; exact Or.inr ⟨rfl, isin_k (by decide) (by omega) (by omega)⟩) [] rfl (by decide) (by decide) (by decide) d_Model_isIn_18
set_option maxHeartbeats 4000000 in
set_option maxRecDepth 100000 in
theorem c_isIn_any (l : Launch) (D : va_G) (y : Nat → ClassId) (va : Int64) (vb : Int64) (vc : Int64)  : CT l D y ⟨"NineBoardsModel", "isIn", "(JJJ)Z"⟩ prog_13_method_2_code 6 (some .boolean) ({ frames := 0, cells := 0, slots := 0, locals := 0 } : Room) [.long va, .long vb, .long vc] [] (QI D [] (fun (r : Int32) (u : Unit) => (r = 0 ∨ r = 1)) (fun _ => [])) := by
  refine CT.of (by decide) (nb rfl) ?_
  intro p e s m args below meth c C hr
  refine j_lv (lv' := [(0, .long va), (2, .long vb), (4, .long vc)]) rfl ?_
  refine j_lload_n (pc := 0) C d_Model_isIn_0 rfl 0 rfl ?_
  refine j_lload_n (pc := 1) C d_Model_isIn_1 rfl 1 rfl ?_
  refine j_lcmp (pc := 2) C (v := lg_cmp va vb) d_Model_isIn_2 rfl ?_
  refine j_if_lt (pc := 3) C (tgt := 17) d_Model_isIn_3 (by decide) (fun c1 => ?_) (fun c1 => ?_)
  · refine j_iconst (pc := 17) C (v := 0) d_Model_isIn_17 (by decide) ?_
    exact j_iret (pc := 18) C hr (by decide) () (by decide) [] rfl (by decide) (by decide) (by decide) d_Model_isIn_18
  · refine j_lload_n (pc := 6) C d_Model_isIn_6 rfl 0 rfl ?_
    refine j_lload (pc := 7) C d_Model_isIn_7 2 rfl ?_
    refine j_lcmp (pc := 9) C (v := lg_cmp va vc) d_Model_isIn_9 rfl ?_
    refine j_if_gt (pc := 10) C (tgt := 17) d_Model_isIn_10 (by decide) (fun c2 => ?_) (fun c2 => ?_)
    · refine j_iconst (pc := 17) C (v := 0) d_Model_isIn_17 (by decide) ?_
      exact j_iret (pc := 18) C hr (by decide) () (by decide) [] rfl (by decide) (by decide) (by decide) d_Model_isIn_18
    · refine j_iconst (pc := 13) C (v := 1) d_Model_isIn_13 (by decide) ?_
      refine j_goto (pc := 14) C (tgt := 18) d_Model_isIn_14 (by decide) ?_
      exact j_iret (pc := 18) C hr (by decide) () (by decide) [] rfl (by decide) (by decide) (by decide) d_Model_isIn_18
theorem d_Model_isLetter_0 : decode prog_13_method_6_code 0 = .ok (.iload_n 0, 1) := by decide +kernel
theorem d_Model_isLetter_1 : decode prog_13_method_6_code 1 = .ok (.bipush 97, 2) := by decide +kernel
theorem d_Model_isLetter_3 : decode prog_13_method_6_code 3 = .ok (.if_icmp .lt 13, 3) := by decide +kernel
theorem d_Model_isLetter_16 : decode prog_13_method_6_code 16 = .ok (.iconst 0, 1) := by decide +kernel
theorem d_Model_isLetter_17 : decode prog_13_method_6_code 17 = .ok (.ireturn, 1) := by decide +kernel
theorem d_Model_isLetter_6 : decode prog_13_method_6_code 6 = .ok (.iload_n 0, 1) := by decide +kernel
theorem d_Model_isLetter_7 : decode prog_13_method_6_code 7 = .ok (.bipush 122, 2) := by decide +kernel
theorem d_Model_isLetter_9 : decode prog_13_method_6_code 9 = .ok (.if_icmp .gt 7, 3) := by decide +kernel
theorem d_Model_isLetter_12 : decode prog_13_method_6_code 12 = .ok (.iconst 1, 1) := by decide +kernel
theorem d_Model_isLetter_13 : decode prog_13_method_6_code 13 = .ok (.goto 4, 3) := by decide +kernel
theorem d_Model_isDigit_0 : decode prog_13_method_7_code 0 = .ok (.iload_n 0, 1) := by decide +kernel
theorem d_Model_isDigit_1 : decode prog_13_method_7_code 1 = .ok (.bipush 48, 2) := by decide +kernel
theorem d_Model_isDigit_3 : decode prog_13_method_7_code 3 = .ok (.if_icmp .lt 13, 3) := by decide +kernel
theorem d_Model_isDigit_16 : decode prog_13_method_7_code 16 = .ok (.iconst 0, 1) := by decide +kernel
theorem d_Model_isDigit_17 : decode prog_13_method_7_code 17 = .ok (.ireturn, 1) := by decide +kernel
theorem d_Model_isDigit_6 : decode prog_13_method_7_code 6 = .ok (.iload_n 0, 1) := by decide +kernel
theorem d_Model_isDigit_7 : decode prog_13_method_7_code 7 = .ok (.bipush 57, 2) := by decide +kernel
theorem d_Model_isDigit_9 : decode prog_13_method_7_code 9 = .ok (.if_icmp .gt 7, 3) := by decide +kernel
theorem d_Model_isDigit_12 : decode prog_13_method_7_code 12 = .ok (.iconst 1, 1) := by decide +kernel
theorem d_Model_isDigit_13 : decode prog_13_method_7_code 13 = .ok (.goto 4, 3) := by decide +kernel
theorem d_Model_gateMany_0 : decode prog_13_method_54_code 0 = .ok (.aload_n 0, 1) := by decide +kernel
theorem d_Model_gateMany_1 : decode prog_13_method_54_code 1 = .ok (.getfield 117, 3) := by decide +kernel
theorem gf_Model_117 : GF "NineBoardsModel" 117 10 43 := ⟨_, _, _, rfl, ci_Model, by decide, (mt_5 (List.mem_of_getElem? (i := 131) rfl) rfl)⟩
theorem d_Model_gateMany_4 : decode prog_13_method_54_code 4 = .ok (.iconst 4, 1) := by decide +kernel
theorem d_Model_gateMany_5 : decode prog_13_method_54_code 5 = .ok (.iaload, 1) := by decide +kernel
theorem d_Model_gateMany_6 : decode prog_13_method_54_code 6 = .ok (.ireturn, 1) := by decide +kernel
set_option maxHeartbeats 4000000 in
set_option maxRecDepth 100000 in
theorem c_M_gateMany (l : Launch) (D : va_G) (y : Nat → ClassId) (mo : Nat) (ma : Nat → Nat) (t1 : Nat) (i2 : Int32) (i3 : Int32) (i4 : Int32) (i5 : Int32) (i6 : Int32) (i7 : Int32) (i8 : Int32) (i42 : Int32) (i49 : Int32) (i51 : Int32) (i53 : Int32) (i54 : Int32) (i59 : Int32) (i61 : Int32) (i64 : Int32) (i66 : Int32) (t67 : Nat) (i76 : Int64) (i78 : Int32) (g43 : Nat → Int32) (c0 : Nat) (hc0 : g43 4 = nI c0) (bc0 : c0 ≤ 9) : CT l D y ⟨"NineBoardsModel", "gateMany", "()I"⟩ prog_13_method_54_code 1 (some .int) ({ frames := 0, cells := 0, slots := 0, locals := 0 } : Room) [.ref mo] [MB mo ma (nI t1) i2 i3 i4 i5 i6 i7 i8 i42 i49 i51 i53 i54 i59 i61 i64 i66 (nI t67) i76 i78, (ma 43, .inl (y 0, 8, .inl g43))] (QI D [MB mo ma (nI t1) i2 i3 i4 i5 i6 i7 i8 i42 i49 i51 i53 i54 i59 i61 i64 i66 (nI t67) i76 i78, (ma 43, .inl (y 0, 8, .inl g43))] (fun (r : Int32) (u : Unit) => r = nI c0) (fun _ => [MB mo ma (nI t1) i2 i3 i4 i5 i6 i7 i8 i42 i49 i51 i53 i54 i59 i61 i64 i66 (nI t67) i76 i78, (ma 43, .inl (y 0, 8, .inl g43))])) := by
  refine CT.of (by decide) (nb rfl) ?_
  intro p e s m args below meth c C hr
  refine j_lv (lv' := [(0, .ref mo)]) rfl ?_
  refine j_aload_n (pc := 0) C d_Model_gateMany_0 rfl 0 rfl ?_
  refine j_get (pc := 1) C gf_Model_117 0 rfl rfl d_Model_gateMany_1 ?_
  refine j_iconst (pc := 4) C (v := 4) d_Model_gateMany_4 (by decide) ?_
  refine j_iald (pc := 5) C 1 rfl (v := nI c0) (vin (by decide)) (by exact hc0) d_Model_gateMany_5 ?_
  exact j_iret (pc := 6) C hr rfl () rfl [0, 1] rfl (by decide) (by decide) (by decide) d_Model_gateMany_6
theorem d_Model_villages_0 : decode prog_13_method_55_code 0 = .ok (.aload_n 0, 1) := by decide +kernel
theorem d_Model_villages_1 : decode prog_13_method_55_code 1 = .ok (.getfield 117, 3) := by decide +kernel
theorem d_Model_villages_4 : decode prog_13_method_55_code 4 = .ok (.iconst 5, 1) := by decide +kernel
theorem d_Model_villages_5 : decode prog_13_method_55_code 5 = .ok (.iaload, 1) := by decide +kernel
theorem d_Model_villages_6 : decode prog_13_method_55_code 6 = .ok (.ireturn, 1) := by decide +kernel
set_option maxHeartbeats 4000000 in
set_option maxRecDepth 100000 in
theorem c_M_villages (l : Launch) (D : va_G) (y : Nat → ClassId) (mo : Nat) (ma : Nat → Nat) (t1 : Nat) (i2 : Int32) (i3 : Int32) (i4 : Int32) (i5 : Int32) (i6 : Int32) (i7 : Int32) (i8 : Int32) (i42 : Int32) (i49 : Int32) (i51 : Int32) (i53 : Int32) (i54 : Int32) (i59 : Int32) (i61 : Int32) (i64 : Int32) (i66 : Int32) (t67 : Nat) (i76 : Int64) (i78 : Int32) (g43 : Nat → Int32) (c1 : Nat) (hc1 : g43 5 = nI c1) (bc1 : c1 ≤ 6) : CT l D y ⟨"NineBoardsModel", "villages", "()I"⟩ prog_13_method_55_code 1 (some .int) ({ frames := 0, cells := 0, slots := 0, locals := 0 } : Room) [.ref mo] [MB mo ma (nI t1) i2 i3 i4 i5 i6 i7 i8 i42 i49 i51 i53 i54 i59 i61 i64 i66 (nI t67) i76 i78, (ma 43, .inl (y 0, 8, .inl g43))] (QI D [MB mo ma (nI t1) i2 i3 i4 i5 i6 i7 i8 i42 i49 i51 i53 i54 i59 i61 i64 i66 (nI t67) i76 i78, (ma 43, .inl (y 0, 8, .inl g43))] (fun (r : Int32) (u : Unit) => r = nI c1) (fun _ => [MB mo ma (nI t1) i2 i3 i4 i5 i6 i7 i8 i42 i49 i51 i53 i54 i59 i61 i64 i66 (nI t67) i76 i78, (ma 43, .inl (y 0, 8, .inl g43))])) := by
  refine CT.of (by decide) (nb rfl) ?_
  intro p e s m args below meth c C hr
  refine j_lv (lv' := [(0, .ref mo)]) rfl ?_
  refine j_aload_n (pc := 0) C d_Model_villages_0 rfl 0 rfl ?_
  refine j_get (pc := 1) C gf_Model_117 0 rfl rfl d_Model_villages_1 ?_
  refine j_iconst (pc := 4) C (v := 5) d_Model_villages_4 (by decide) ?_
  refine j_iald (pc := 5) C 1 rfl (v := nI c1) (vin (by decide)) (by exact hc1) d_Model_villages_5 ?_
  exact j_iret (pc := 6) C hr rfl () rfl [0, 1] rfl (by decide) (by decide) (by decide) d_Model_villages_6
theorem d_Model_joinedTo_0 : decode prog_13_method_56_code 0 = .ok (.aload_n 0, 1) := by decide +kernel
theorem d_Model_joinedTo_1 : decode prog_13_method_56_code 1 = .ok (.getfield 127, 3) := by decide +kernel
theorem gf_Model_127 : GF "NineBoardsModel" 127 10 46 := ⟨_, _, _, rfl, ci_Model, by decide, (mt_5 (List.mem_of_getElem? (i := 134) rfl) rfl)⟩
theorem d_Model_joinedTo_4 : decode prog_13_method_56_code 4 = .ok (.bipush 54, 2) := by decide +kernel
theorem d_Model_joinedTo_6 : decode prog_13_method_56_code 6 = .ok (.bipush 6, 2) := by decide +kernel
theorem d_Model_joinedTo_8 : decode prog_13_method_56_code 8 = .ok (.iload_n 1, 1) := by decide +kernel
theorem d_Model_joinedTo_9 : decode prog_13_method_56_code 9 = .ok (.imul, 1) := by decide +kernel
theorem d_Model_joinedTo_10 : decode prog_13_method_56_code 10 = .ok (.iadd, 1) := by decide +kernel
theorem d_Model_joinedTo_11 : decode prog_13_method_56_code 11 = .ok (.iconst 5, 1) := by decide +kernel
theorem d_Model_joinedTo_12 : decode prog_13_method_56_code 12 = .ok (.iadd, 1) := by decide +kernel
theorem d_Model_joinedTo_13 : decode prog_13_method_56_code 13 = .ok (.iaload, 1) := by decide +kernel
theorem d_Model_joinedTo_14 : decode prog_13_method_56_code 14 = .ok (.ireturn, 1) := by decide +kernel
set_option maxHeartbeats 4000000 in
set_option maxRecDepth 100000 in
theorem c_M_joinedTo (l : Launch) (D : va_G) (y : Nat → ClassId) (mo : Nat) (ma : Nat → Nat) (t1 : Nat) (i2 : Int32) (i3 : Int32) (i4 : Int32) (i5 : Int32) (i6 : Int32) (i7 : Int32) (i8 : Int32) (i42 : Int32) (i49 : Int32) (i51 : Int32) (i53 : Int32) (i54 : Int32) (i59 : Int32) (i61 : Int32) (i64 : Int32) (i66 : Int32) (t67 : Nat) (i76 : Int64) (i78 : Int32) (g46 : Nat → Int32) (j : Nat) (hG : ∀ j, j < 9 → g46 (54 + 6 * j + 5) = -1 ∨ ∃ q, q < 9 ∧ g46 (54 + 6 * j + 5) = nI q) (hj : j < 9) : CT l D y ⟨"NineBoardsModel", "joinedTo", "(I)I"⟩ prog_13_method_56_code 2 (some .int) ({ frames := 0, cells := 0, slots := 0, locals := 0 } : Room) [.ref mo, .int (nI j)] [MB mo ma (nI t1) i2 i3 i4 i5 i6 i7 i8 i42 i49 i51 i53 i54 i59 i61 i64 i66 (nI t67) i76 i78, (ma 46, .inl (y 0, 108, .inl g46))] (QI D [MB mo ma (nI t1) i2 i3 i4 i5 i6 i7 i8 i42 i49 i51 i53 i54 i59 i61 i64 i66 (nI t67) i76 i78, (ma 46, .inl (y 0, 108, .inl g46))] (fun (r : Int32) (u : Unit) => (r = -1 ∨ ∃ q, q < 9 ∧ r = nI q)) (fun _ => [MB mo ma (nI t1) i2 i3 i4 i5 i6 i7 i8 i42 i49 i51 i53 i54 i59 i61 i64 i66 (nI t67) i76 i78, (ma 46, .inl (y 0, 108, .inl g46))])) := by
  refine CT.of (by decide) (nb rfl) ?_
  intro p e s m args below meth c C hr
  refine j_lv (lv' := [(0, .ref mo), (1, .int (nI j))]) rfl ?_
  refine j_aload_n (pc := 0) C d_Model_joinedTo_0 rfl 0 rfl ?_
  refine j_get (pc := 1) C gf_Model_127 0 rfl rfl d_Model_joinedTo_1 ?_
  refine j_bipush (pc := 4) C (v := 54) d_Model_joinedTo_4 (by decide) ?_
  refine j_bipush (pc := 6) C (v := 6) d_Model_joinedTo_6 (by decide) ?_
  refine j_iload_n (pc := 8) C d_Model_joinedTo_8 rfl 1 rfl ?_
  refine j_imul (pc := 9) C (v := nI (6 * j)) d_Model_joinedTo_9 (pk_mul _ _) ?_
  refine j_iadd (pc := 10) C (v := nI (54 + (6 * j))) d_Model_joinedTo_10 (nI_add _ _) ?_
  refine j_iconst (pc := 11) C (v := 5) d_Model_joinedTo_11 (by decide) ?_
  refine j_iadd (pc := 12) C (v := nI ((54 + (6 * j)) + 5)) d_Model_joinedTo_12 (nI_add _ _) ?_
  rcases hG j (by omega) with e3 | ⟨q1, xh2, e3⟩
  · refine j_iald (pc := 13) C 1 rfl (v := (-1)) (vp_in_nI (by omega) (by decide)) (by rw [nI_clamp (by omega)]; exact e3) d_Model_joinedTo_13 ?_
    exact j_iret (pc := 14) C hr rfl () (Or.inl rfl) [0, 1] rfl (by decide) (by decide) (by decide) d_Model_joinedTo_14
  · refine j_iald (pc := 13) C 1 rfl (v := nI q1) (vp_in_nI (by omega) (by decide)) (by rw [nI_clamp (by omega)]; exact e3) d_Model_joinedTo_13 ?_
    exact j_iret (pc := 14) C hr rfl () (Or.inr ⟨q1, by omega, rfl⟩) [0, 1] rfl (by decide) (by decide) (by decide) d_Model_joinedTo_14
theorem d_Model_level_0 : decode prog_13_method_57_code 0 = .ok (.aload_n 0, 1) := by decide +kernel
theorem d_Model_level_1 : decode prog_13_method_57_code 1 = .ok (.getfield 158, 3) := by decide +kernel
theorem gf_Model_158 : GF "NineBoardsModel" 158 10 62 := ⟨_, _, _, rfl, ci_Model, by decide, (mt_5 (List.mem_of_getElem? (i := 150) rfl) rfl)⟩
theorem d_Model_level_4 : decode prog_13_method_57_code 4 = .ok (.iconst 1, 1) := by decide +kernel
theorem d_Model_level_5 : decode prog_13_method_57_code 5 = .ok (.iaload, 1) := by decide +kernel
theorem d_Model_level_6 : decode prog_13_method_57_code 6 = .ok (.aload_n 0, 1) := by decide +kernel
theorem d_Model_level_7 : decode prog_13_method_57_code 7 = .ok (.getfield 124, 3) := by decide +kernel
theorem gf_Model_124 : GF "NineBoardsModel" 124 10 45 := ⟨_, _, _, rfl, ci_Model, by decide, (mt_5 (List.mem_of_getElem? (i := 133) rfl) rfl)⟩
theorem d_Model_level_10 : decode prog_13_method_57_code 10 = .ok (.bipush 7, 2) := by decide +kernel
theorem d_Model_level_12 : decode prog_13_method_57_code 12 = .ok (.iaload, 1) := by decide +kernel
theorem d_Model_level_13 : decode prog_13_method_57_code 13 = .ok (.idiv, 1) := by decide +kernel
theorem d_Model_level_14 : decode prog_13_method_57_code 14 = .ok (.ireturn, 1) := by decide +kernel
set_option maxHeartbeats 4000000 in
set_option maxRecDepth 100000 in
theorem c_M_level (l : Launch) (D : va_G) (y : Nat → ClassId) (mo : Nat) (ma : Nat → Nat) (t1 : Nat) (i2 : Int32) (i3 : Int32) (i4 : Int32) (i5 : Int32) (i6 : Int32) (i7 : Int32) (i8 : Int32) (i42 : Int32) (i49 : Int32) (i51 : Int32) (i53 : Int32) (i54 : Int32) (i59 : Int32) (i61 : Int32) (i64 : Int32) (i66 : Int32) (t67 : Nat) (i76 : Int64) (i78 : Int32) (g45 : Nat → Int32) (g62 : Nat → Int32) (hL : ¬ g45 7 = 0) : CT l D y ⟨"NineBoardsModel", "level", "()I"⟩ prog_13_method_57_code 1 (some .int) ({ frames := 0, cells := 0, slots := 0, locals := 0 } : Room) [.ref mo] [MB mo ma (nI t1) i2 i3 i4 i5 i6 i7 i8 i42 i49 i51 i53 i54 i59 i61 i64 i66 (nI t67) i76 i78, (ma 45, .inl (y 0, 14, .inl g45)), (ma 62, .inl (y 0, 63, .inl g62))] (QI D [MB mo ma (nI t1) i2 i3 i4 i5 i6 i7 i8 i42 i49 i51 i53 i54 i59 i61 i64 i66 (nI t67) i76 i78, (ma 45, .inl (y 0, 14, .inl g45)), (ma 62, .inl (y 0, 63, .inl g62))] (fun (r : Int32) (u : Unit) => True) (fun _ => [MB mo ma (nI t1) i2 i3 i4 i5 i6 i7 i8 i42 i49 i51 i53 i54 i59 i61 i64 i66 (nI t67) i76 i78, (ma 45, .inl (y 0, 14, .inl g45)), (ma 62, .inl (y 0, 63, .inl g62))])) := by
  refine CT.of (by decide) (nb rfl) ?_
  intro p e s m args below meth c C hr
  refine j_lv (lv' := [(0, .ref mo)]) rfl ?_
  refine j_aload_n (pc := 0) C d_Model_level_0 rfl 0 rfl ?_
  refine j_get (pc := 1) C gf_Model_158 0 rfl rfl d_Model_level_1 ?_
  refine j_iconst (pc := 4) C (v := 1) d_Model_level_4 (by decide) ?_
  refine j_iald (pc := 5) C 2 rfl (v := g62 1) (vin (by decide)) rfl d_Model_level_5 ?_
  refine j_aload_n (pc := 6) C d_Model_level_6 rfl 0 rfl ?_
  refine j_get (pc := 7) C gf_Model_124 0 rfl rfl d_Model_level_7 ?_
  refine j_bipush (pc := 10) C (v := 7) d_Model_level_10 (by decide) ?_
  refine j_iald (pc := 12) C 1 rfl (v := g45 7) (vin (by decide)) rfl d_Model_level_12 ?_
  refine j_idiv (pc := 13) C (v := (g62 1) / (g45 7)) d_Model_level_13 hL rfl ?_
  exact j_iret (pc := 14) C hr rfl () trivial [0, 1, 2] rfl (by decide) (by decide) (by decide) d_Model_level_14
theorem d_Model_boards_0 : decode prog_13_method_58_code 0 = .ok (.aload_n 0, 1) := by decide +kernel
theorem d_Model_boards_1 : decode prog_13_method_58_code 1 = .ok (.getfield 158, 3) := by decide +kernel
theorem d_Model_boards_4 : decode prog_13_method_58_code 4 = .ok (.iconst 3, 1) := by decide +kernel
theorem d_Model_boards_5 : decode prog_13_method_58_code 5 = .ok (.iload_n 1, 1) := by decide +kernel
theorem d_Model_boards_6 : decode prog_13_method_58_code 6 = .ok (.iadd, 1) := by decide +kernel
theorem d_Model_boards_7 : decode prog_13_method_58_code 7 = .ok (.iaload, 1) := by decide +kernel
theorem d_Model_boards_8 : decode prog_13_method_58_code 8 = .ok (.ireturn, 1) := by decide +kernel
set_option maxHeartbeats 4000000 in
set_option maxRecDepth 100000 in
theorem c_M_boards (l : Launch) (D : va_G) (y : Nat → ClassId) (mo : Nat) (ma : Nat → Nat) (t1 : Nat) (i2 : Int32) (i3 : Int32) (i4 : Int32) (i5 : Int32) (i6 : Int32) (i7 : Int32) (i8 : Int32) (i42 : Int32) (i49 : Int32) (i51 : Int32) (i53 : Int32) (i54 : Int32) (i59 : Int32) (i61 : Int32) (i64 : Int32) (i66 : Int32) (t67 : Nat) (i76 : Int64) (i78 : Int32) (g62 : Nat → Int32) (j : Nat) (hj : j < 9) : CT l D y ⟨"NineBoardsModel", "boards", "(I)I"⟩ prog_13_method_58_code 2 (some .int) ({ frames := 0, cells := 0, slots := 0, locals := 0 } : Room) [.ref mo, .int (nI j)] [MB mo ma (nI t1) i2 i3 i4 i5 i6 i7 i8 i42 i49 i51 i53 i54 i59 i61 i64 i66 (nI t67) i76 i78, (ma 62, .inl (y 0, 63, .inl g62))] (QI D [MB mo ma (nI t1) i2 i3 i4 i5 i6 i7 i8 i42 i49 i51 i53 i54 i59 i61 i64 i66 (nI t67) i76 i78, (ma 62, .inl (y 0, 63, .inl g62))] (fun (r : Int32) (u : Unit) => True) (fun _ => [MB mo ma (nI t1) i2 i3 i4 i5 i6 i7 i8 i42 i49 i51 i53 i54 i59 i61 i64 i66 (nI t67) i76 i78, (ma 62, .inl (y 0, 63, .inl g62))])) := by
  refine CT.of (by decide) (nb rfl) ?_
  intro p e s m args below meth c C hr
  refine j_lv (lv' := [(0, .ref mo), (1, .int (nI j))]) rfl ?_
  refine j_aload_n (pc := 0) C d_Model_boards_0 rfl 0 rfl ?_
  refine j_get (pc := 1) C gf_Model_158 0 rfl rfl d_Model_boards_1 ?_
  refine j_iconst (pc := 4) C (v := 3) d_Model_boards_4 (by decide) ?_
  refine j_iload_n (pc := 5) C d_Model_boards_5 rfl 1 rfl ?_
  refine j_iadd (pc := 6) C (v := nI (3 + j)) d_Model_boards_6 (nI_add _ _) ?_
  refine j_iald (pc := 7) C 1 rfl (v := g62 (3 + j)) (vp_in_nI (by omega) (by decide)) (by rw [nI_clamp (by omega)]) d_Model_boards_7 ?_
  exact j_iret (pc := 8) C hr rfl () trivial [0, 1] rfl (by decide) (by decide) (by decide) d_Model_boards_8
theorem d_Model_areBoards_0 : decode prog_13_method_59_code 0 = .ok (.aload_n 0, 1) := by decide +kernel
theorem d_Model_areBoards_1 : decode prog_13_method_59_code 1 = .ok (.iload_n 1, 1) := by decide +kernel
theorem d_Model_areBoards_2 : decode prog_13_method_59_code 2 = .ok (.invokevirtual 418, 3) := by decide +kernel
theorem kw_Model_418 : KW "NineBoardsModel" 418 ⟨"NineBoardsModel", "joinedTo", "(I)I"⟩ prog_13_method_56_code 2 (some .int) 1 := ⟨(mt_7 (List.mem_of_getElem? (i := 64) rfl) rfl), (mt_1 (List.mem_of_getElem? (i := 16) rfl) rfl), (mt_7 (List.mem_of_getElem? (i := 67) rfl) rfl), by decide +kernel⟩
theorem kv_Model_joinedTo : Cond.instanceMethod ⟨"NineBoardsModel", "joinedTo", "(I)I"⟩ ∈ TB ∧ Cond.selects "NineBoardsModel" ⟨"NineBoardsModel", "joinedTo", "(I)I"⟩ ⟨"NineBoardsModel", "joinedTo", "(I)I"⟩ ∈ TB := ⟨(mt_7 (List.mem_of_getElem? (i := 66) rfl) rfl), (ms_0 (List.mem_map.mpr ⟨(⟨"NineBoardsModel", "joinedTo", "(I)I"⟩, 79), List.mem_of_getElem? (i := 93) (by decide +kernel), rfl⟩) rfl)⟩
theorem d_Model_areBoards_5 : decode prog_13_method_59_code 5 = .ok (.istore 4, 2) := by decide +kernel
theorem d_Model_areBoards_7 : decode prog_13_method_59_code 7 = .ok (.aload_n 0, 1) := by decide +kernel
theorem d_Model_areBoards_8 : decode prog_13_method_59_code 8 = .ok (.iload_n 1, 1) := by decide +kernel
theorem d_Model_areBoards_9 : decode prog_13_method_59_code 9 = .ok (.invokevirtual 421, 3) := by decide +kernel
theorem kw_Model_421 : KW "NineBoardsModel" 421 ⟨"NineBoardsModel", "boards", "(I)I"⟩ prog_13_method_58_code 2 (some .int) 1 := ⟨(mt_7 (List.mem_of_getElem? (i := 60) rfl) rfl), (mt_1 (List.mem_of_getElem? (i := 16) rfl) rfl), (mt_7 (List.mem_of_getElem? (i := 63) rfl) rfl), by decide +kernel⟩
theorem kv_Model_boards : Cond.instanceMethod ⟨"NineBoardsModel", "boards", "(I)I"⟩ ∈ TB ∧ Cond.selects "NineBoardsModel" ⟨"NineBoardsModel", "boards", "(I)I"⟩ ⟨"NineBoardsModel", "boards", "(I)I"⟩ ∈ TB := ⟨(mt_7 (List.mem_of_getElem? (i := 62) rfl) rfl), (ms_0 (List.mem_map.mpr ⟨(⟨"NineBoardsModel", "boards", "(I)I"⟩, 79), List.mem_of_getElem? (i := 92) (by decide +kernel), rfl⟩) rfl)⟩
theorem d_Model_areBoards_12 : decode prog_13_method_59_code 12 = .ok (.i2l, 1) := by decide +kernel
theorem d_Model_areBoards_13 : decode prog_13_method_59_code 13 = .ok (.iload_n 2, 1) := by decide +kernel
theorem d_Model_areBoards_14 : decode prog_13_method_59_code 14 = .ok (.i2l, 1) := by decide +kernel
theorem d_Model_areBoards_15 : decode prog_13_method_59_code 15 = .ok (.iload_n 3, 1) := by decide +kernel
theorem d_Model_areBoards_16 : decode prog_13_method_59_code 16 = .ok (.i2l, 1) := by decide +kernel
theorem d_Model_areBoards_17 : decode prog_13_method_59_code 17 = .ok (.invokestatic 240, 3) := by decide +kernel
theorem kw_Model_240 : KW "NineBoardsModel" 240 ⟨"NineBoardsModel", "isIn", "(JJJ)Z"⟩ prog_13_method_2_code 6 (some .boolean) 3 := ⟨(mt_6 (List.mem_of_getElem? (i := 134) rfl) rfl), (mt_1 (List.mem_of_getElem? (i := 16) rfl) rfl), (mt_6 (List.mem_of_getElem? (i := 136) rfl) rfl), by decide +kernel⟩
theorem ks_Model_isIn : Cond.static ⟨"NineBoardsModel", "isIn", "(JJJ)Z"⟩ ∈ TB := (mt_6 (List.mem_of_getElem? (i := 135) rfl) rfl)
theorem d_Model_areBoards_20 : decode prog_13_method_59_code 20 = .ok (.ifCond .eq 30, 3) := by decide +kernel
theorem d_Model_areBoards_50 : decode prog_13_method_59_code 50 = .ok (.iconst 0, 1) := by decide +kernel
theorem d_Model_areBoards_51 : decode prog_13_method_59_code 51 = .ok (.ireturn, 1) := by decide +kernel
theorem d_Model_areBoards_23 : decode prog_13_method_59_code 23 = .ok (.iload 4, 2) := by decide +kernel
theorem d_Model_areBoards_25 : decode prog_13_method_59_code 25 = .ok (.iconst (-1), 1) := by decide +kernel
theorem d_Model_areBoards_26 : decode prog_13_method_59_code 26 = .ok (.if_icmp .eq 20, 3) := by decide +kernel
theorem d_Model_areBoards_46 : decode prog_13_method_59_code 46 = .ok (.iconst 1, 1) := by decide +kernel
theorem d_Model_areBoards_47 : decode prog_13_method_59_code 47 = .ok (.goto 4, 3) := by decide +kernel
theorem d_Model_areBoards_29 : decode prog_13_method_59_code 29 = .ok (.aload_n 0, 1) := by decide +kernel
theorem d_Model_areBoards_30 : decode prog_13_method_59_code 30 = .ok (.iload 4, 2) := by decide +kernel
theorem d_Model_areBoards_32 : decode prog_13_method_59_code 32 = .ok (.invokevirtual 421, 3) := by decide +kernel
theorem d_Model_areBoards_35 : decode prog_13_method_59_code 35 = .ok (.i2l, 1) := by decide +kernel
theorem d_Model_areBoards_36 : decode prog_13_method_59_code 36 = .ok (.iload_n 2, 1) := by decide +kernel
theorem d_Model_areBoards_37 : decode prog_13_method_59_code 37 = .ok (.i2l, 1) := by decide +kernel
theorem d_Model_areBoards_38 : decode prog_13_method_59_code 38 = .ok (.iload_n 3, 1) := by decide +kernel
theorem d_Model_areBoards_39 : decode prog_13_method_59_code 39 = .ok (.i2l, 1) := by decide +kernel
theorem d_Model_areBoards_40 : decode prog_13_method_59_code 40 = .ok (.invokestatic 240, 3) := by decide +kernel
theorem d_Model_areBoards_43 : decode prog_13_method_59_code 43 = .ok (.ifCond .eq 7, 3) := by decide +kernel
set_option maxHeartbeats 4000000 in
set_option maxRecDepth 100000 in
theorem c_M_areBoards (l : Launch) (D : va_G) (y : Nat → ClassId) (mo : Nat) (ma : Nat → Nat) (t1 : Nat) (i2 : Int32) (i3 : Int32) (i4 : Int32) (i5 : Int32) (i6 : Int32) (i7 : Int32) (i8 : Int32) (i42 : Int32) (i49 : Int32) (i51 : Int32) (i53 : Int32) (i54 : Int32) (i59 : Int32) (i61 : Int32) (i64 : Int32) (i66 : Int32) (t67 : Nat) (i76 : Int64) (i78 : Int32) (g46 : Nat → Int32) (g62 : Nat → Int32) (j : Nat) (v1 : Int32) (v2 : Int32) (hG : ∀ j, j < 9 → g46 (54 + 6 * j + 5) = -1 ∨ ∃ q, q < 9 ∧ g46 (54 + 6 * j + 5) = nI q) (hj : j < 9) : CT l D y ⟨"NineBoardsModel", "areBoards", "(III)Z"⟩ prog_13_method_59_code 5 (some .boolean) ({ frames := 1, cells := 0, slots := 0, locals := 25 } : Room) [.ref mo, .int (nI j), .int v1, .int v2] [MB mo ma (nI t1) i2 i3 i4 i5 i6 i7 i8 i42 i49 i51 i53 i54 i59 i61 i64 i66 (nI t67) i76 i78, (ma 46, .inl (y 0, 108, .inl g46)), (ma 62, .inl (y 0, 63, .inl g62))] (QI D [MB mo ma (nI t1) i2 i3 i4 i5 i6 i7 i8 i42 i49 i51 i53 i54 i59 i61 i64 i66 (nI t67) i76 i78, (ma 46, .inl (y 0, 108, .inl g46)), (ma 62, .inl (y 0, 63, .inl g62))] (fun (r : Int32) (u : Unit) => (r = 0 ∨ r = 1)) (fun _ => [MB mo ma (nI t1) i2 i3 i4 i5 i6 i7 i8 i42 i49 i51 i53 i54 i59 i61 i64 i66 (nI t67) i76 i78, (ma 46, .inl (y 0, 108, .inl g46)), (ma 62, .inl (y 0, 63, .inl g62))])) := by
  refine CT.of (by decide) (nb rfl) ?_
  intro p e s m args below meth c C hr
  refine j_lv (lv' := [(0, .ref mo), (1, .int (nI j)), (2, .int v1), (3, .int v2)]) rfl ?_
  refine j_aload_n (pc := 0) C d_Model_areBoards_0 rfl 0 rfl ?_
  refine j_iload_n (pc := 1) C d_Model_areBoards_1 rfl 1 rfl ?_
  refine j_callVi (pc := 2) C (c_M_joinedTo l D y mo ma t1 i2 i3 i4 i5 i6 i7 i8 i42 i49 i51 i53 i54 i59 i61 i64 i66 t67 i76 i78 g46 j hG hj) kw_Model_418 kv_Model_joinedTo 0 10 rfl rfl ⟨by decide, by decide⟩ ⟨by decide, by decide⟩ (wr := [(ma 62, .inl (y 0, 63, .inl g62))]) [0, 1] [2] rfl rfl (by decide) (by decide) (by decide) (As := [.int (nI j)]) (rest := []) rfl (nb rfl) rfl d_Model_areBoards_2 (fun r1 _ hr1 => ?_)
  refine j_ws (ws' := [(ma 62, .inl (y 0, 63, .inl g62)), MB mo ma (nI t1) i2 i3 i4 i5 i6 i7 i8 i42 i49 i51 i53 i54 i59 i61 i64 i66 (nI t67) i76 i78, (ma 46, .inl (y 0, 108, .inl g46))]) rfl ?_
  rcases hr1 with rfl | ⟨q3, xh4, rfl⟩
  · refine j_istore (pc := 5) C (lv' := [(4, .int (-1)), (0, .ref mo), (1, .int (nI j)), (2, .int v1), (3, .int v2)]) d_Model_areBoards_5 (by decide) rfl ?_
    refine j_aload_n (pc := 7) C d_Model_areBoards_7 rfl 1 rfl ?_
    refine j_iload_n (pc := 8) C d_Model_areBoards_8 rfl 2 rfl ?_
    refine j_callVi (pc := 9) C (c_M_boards l D y mo ma t1 i2 i3 i4 i5 i6 i7 i8 i42 i49 i51 i53 i54 i59 i61 i64 i66 t67 i76 i78 g62 j hj) kw_Model_421 kv_Model_boards 0 10 rfl rfl ⟨by decide, by decide⟩ ⟨by decide, by decide⟩ (wr := [(ma 46, .inl (y 0, 108, .inl g46))]) [1, 0] [2] rfl rfl (by decide) (by decide) (by decide) (As := [.int (nI j)]) (rest := []) rfl (nb rfl) rfl d_Model_areBoards_9 (fun r5 _ hr5 => ?_)
    refine j_ws (ws' := [(ma 46, .inl (y 0, 108, .inl g46)), MB mo ma (nI t1) i2 i3 i4 i5 i6 i7 i8 i42 i49 i51 i53 i54 i59 i61 i64 i66 (nI t67) i76 i78, (ma 62, .inl (y 0, 63, .inl g62))]) rfl ?_
    refine j_i2l (pc := 12) C (v := r5.toInt64) d_Model_areBoards_12 rfl ?_
    refine j_iload_n (pc := 13) C d_Model_areBoards_13 rfl 3 rfl ?_
    refine j_i2l (pc := 14) C (v := v1.toInt64) d_Model_areBoards_14 rfl ?_
    refine j_iload_n (pc := 15) C d_Model_areBoards_15 rfl 4 rfl ?_
    refine j_i2l (pc := 16) C (v := v2.toInt64) d_Model_areBoards_16 rfl ?_
    refine j_callSi (pc := 17) C (c_isIn_any l D y r5.toInt64 v1.toInt64 v2.toInt64) kw_Model_240 ks_Model_isIn ⟨by decide, by decide⟩ ⟨by decide, by decide⟩ (wr := [(ma 46, .inl (y 0, 108, .inl g46)), MB mo ma (nI t1) i2 i3 i4 i5 i6 i7 i8 i42 i49 i51 i53 i54 i59 i61 i64 i66 (nI t67) i76 i78, (ma 62, .inl (y 0, 63, .inl g62))]) [] [0, 1, 2] rfl rfl (by decide) (by decide) (by decide) (As := [.long r5.toInt64, .long v1.toInt64, .long v2.toInt64]) (rest := []) rfl (nb rfl) rfl d_Model_areBoards_17 (fun r6 _ hr6 => ?_)
    have xh7 := hr6
    refine j_ws (ws' := [(ma 46, .inl (y 0, 108, .inl g46)), MB mo ma (nI t1) i2 i3 i4 i5 i6 i7 i8 i42 i49 i51 i53 i54 i59 i61 i64 i66 (nI t67) i76 i78, (ma 62, .inl (y 0, 63, .inl g62))]) rfl ?_
    refine j_if_eq (pc := 20) C (tgt := 50) d_Model_areBoards_20 (by decide) (fun c8 => ?_) (fun c8 => ?_)
    · refine j_iconst (pc := 50) C (v := 0) d_Model_areBoards_50 (by decide) ?_
      exact j_iret (pc := 51) C hr (by decide) () (by decide) [1, 0, 2] rfl (by decide) (by decide) (by decide) d_Model_areBoards_51
    · refine j_iload (pc := 23) C d_Model_areBoards_23 0 rfl ?_
      refine j_iconst (pc := 25) C (v := (-1)) d_Model_areBoards_25 (by decide) ?_
      refine j_icmp_eqT (pc := 26) C (tgt := 46) d_Model_areBoards_26 (by decide) (by decide) ?_
      refine j_iconst (pc := 46) C (v := 1) d_Model_areBoards_46 (by decide) ?_
      refine j_goto (pc := 47) C (tgt := 51) d_Model_areBoards_47 (by decide) ?_
      exact j_iret (pc := 51) C hr (by decide) () (by decide) [1, 0, 2] rfl (by decide) (by decide) (by decide) d_Model_areBoards_51
  · refine j_istore (pc := 5) C (lv' := [(4, .int (nI q3)), (0, .ref mo), (1, .int (nI j)), (2, .int v1), (3, .int v2)]) d_Model_areBoards_5 (by decide) rfl ?_
    refine j_aload_n (pc := 7) C d_Model_areBoards_7 rfl 1 rfl ?_
    refine j_iload_n (pc := 8) C d_Model_areBoards_8 rfl 2 rfl ?_
    refine j_callVi (pc := 9) C (c_M_boards l D y mo ma t1 i2 i3 i4 i5 i6 i7 i8 i42 i49 i51 i53 i54 i59 i61 i64 i66 t67 i76 i78 g62 j hj) kw_Model_421 kv_Model_boards 0 10 rfl rfl ⟨by decide, by decide⟩ ⟨by decide, by decide⟩ (wr := [(ma 46, .inl (y 0, 108, .inl g46))]) [1, 0] [2] rfl rfl (by decide) (by decide) (by decide) (As := [.int (nI j)]) (rest := []) rfl (nb rfl) rfl d_Model_areBoards_9 (fun r9 _ hr9 => ?_)
    refine j_ws (ws' := [(ma 46, .inl (y 0, 108, .inl g46)), MB mo ma (nI t1) i2 i3 i4 i5 i6 i7 i8 i42 i49 i51 i53 i54 i59 i61 i64 i66 (nI t67) i76 i78, (ma 62, .inl (y 0, 63, .inl g62))]) rfl ?_
    refine j_i2l (pc := 12) C (v := r9.toInt64) d_Model_areBoards_12 rfl ?_
    refine j_iload_n (pc := 13) C d_Model_areBoards_13 rfl 3 rfl ?_
    refine j_i2l (pc := 14) C (v := v1.toInt64) d_Model_areBoards_14 rfl ?_
    refine j_iload_n (pc := 15) C d_Model_areBoards_15 rfl 4 rfl ?_
    refine j_i2l (pc := 16) C (v := v2.toInt64) d_Model_areBoards_16 rfl ?_
    refine j_callSi (pc := 17) C (c_isIn_any l D y r9.toInt64 v1.toInt64 v2.toInt64) kw_Model_240 ks_Model_isIn ⟨by decide, by decide⟩ ⟨by decide, by decide⟩ (wr := [(ma 46, .inl (y 0, 108, .inl g46)), MB mo ma (nI t1) i2 i3 i4 i5 i6 i7 i8 i42 i49 i51 i53 i54 i59 i61 i64 i66 (nI t67) i76 i78, (ma 62, .inl (y 0, 63, .inl g62))]) [] [0, 1, 2] rfl rfl (by decide) (by decide) (by decide) (As := [.long r9.toInt64, .long v1.toInt64, .long v2.toInt64]) (rest := []) rfl (nb rfl) rfl d_Model_areBoards_17 (fun r10 _ hr10 => ?_)
    have xh11 := hr10
    refine j_ws (ws' := [(ma 46, .inl (y 0, 108, .inl g46)), MB mo ma (nI t1) i2 i3 i4 i5 i6 i7 i8 i42 i49 i51 i53 i54 i59 i61 i64 i66 (nI t67) i76 i78, (ma 62, .inl (y 0, 63, .inl g62))]) rfl ?_
    refine j_if_eq (pc := 20) C (tgt := 50) d_Model_areBoards_20 (by decide) (fun c12 => ?_) (fun c12 => ?_)
    · refine j_iconst (pc := 50) C (v := 0) d_Model_areBoards_50 (by decide) ?_
      exact j_iret (pc := 51) C hr (by decide) () (by decide) [1, 0, 2] rfl (by decide) (by decide) (by decide) d_Model_areBoards_51
    · refine j_iload (pc := 23) C d_Model_areBoards_23 0 rfl ?_
      refine j_iconst (pc := 25) C (v := (-1)) d_Model_areBoards_25 (by decide) ?_
      refine j_icmp_eqF (pc := 26) C (tgt := 46) d_Model_areBoards_26 (by decide) (nI_nm1 (by omega)) ?_
      refine j_aload_n (pc := 29) C d_Model_areBoards_29 rfl 1 rfl ?_
      refine j_iload (pc := 30) C d_Model_areBoards_30 0 rfl ?_
      refine j_callVi (pc := 32) C (c_M_boards l D y mo ma t1 i2 i3 i4 i5 i6 i7 i8 i42 i49 i51 i53 i54 i59 i61 i64 i66 t67 i76 i78 g62 q3 (by omega)) kw_Model_421 kv_Model_boards 0 10 rfl rfl ⟨by decide, by decide⟩ ⟨by decide, by decide⟩ (wr := [(ma 46, .inl (y 0, 108, .inl g46))]) [1, 2] [0] rfl rfl (by decide) (by decide) (by decide) (As := [.int (nI q3)]) (rest := []) rfl (nb rfl) rfl d_Model_areBoards_32 (fun r13 _ hr13 => ?_)
      refine j_ws (ws' := [(ma 46, .inl (y 0, 108, .inl g46)), MB mo ma (nI t1) i2 i3 i4 i5 i6 i7 i8 i42 i49 i51 i53 i54 i59 i61 i64 i66 (nI t67) i76 i78, (ma 62, .inl (y 0, 63, .inl g62))]) rfl ?_
      refine j_i2l (pc := 35) C (v := r13.toInt64) d_Model_areBoards_35 rfl ?_
      refine j_iload_n (pc := 36) C d_Model_areBoards_36 rfl 3 rfl ?_
      refine j_i2l (pc := 37) C (v := v1.toInt64) d_Model_areBoards_37 rfl ?_
      refine j_iload_n (pc := 38) C d_Model_areBoards_38 rfl 4 rfl ?_
      refine j_i2l (pc := 39) C (v := v2.toInt64) d_Model_areBoards_39 rfl ?_
      refine j_callSi (pc := 40) C (c_isIn_any l D y r13.toInt64 v1.toInt64 v2.toInt64) kw_Model_240 ks_Model_isIn ⟨by decide, by decide⟩ ⟨by decide, by decide⟩ (wr := [(ma 46, .inl (y 0, 108, .inl g46)), MB mo ma (nI t1) i2 i3 i4 i5 i6 i7 i8 i42 i49 i51 i53 i54 i59 i61 i64 i66 (nI t67) i76 i78, (ma 62, .inl (y 0, 63, .inl g62))]) [] [0, 1, 2] rfl rfl (by decide) (by decide) (by decide) (As := [.long r13.toInt64, .long v1.toInt64, .long v2.toInt64]) (rest := []) rfl (nb rfl) rfl d_Model_areBoards_40 (fun r14 _ hr14 => ?_)
      have xh15 := hr14
      refine j_ws (ws' := [(ma 46, .inl (y 0, 108, .inl g46)), MB mo ma (nI t1) i2 i3 i4 i5 i6 i7 i8 i42 i49 i51 i53 i54 i59 i61 i64 i66 (nI t67) i76 i78, (ma 62, .inl (y 0, 63, .inl g62))]) rfl ?_
      refine j_if_eq (pc := 43) C (tgt := 50) d_Model_areBoards_43 (by decide) (fun c16 => ?_) (fun c16 => ?_)
      · refine j_iconst (pc := 50) C (v := 0) d_Model_areBoards_50 (by decide) ?_
        exact j_iret (pc := 51) C hr (by decide) () (by decide) [1, 0, 2] rfl (by decide) (by decide) (by decide) d_Model_areBoards_51
      · refine j_iconst (pc := 46) C (v := 1) d_Model_areBoards_46 (by decide) ?_
        refine j_goto (pc := 47) C (tgt := 51) d_Model_areBoards_47 (by decide) ?_
        exact j_iret (pc := 51) C hr (by decide) () (by decide) [1, 0, 2] rfl (by decide) (by decide) (by decide) d_Model_areBoards_51
theorem d_Model_alters_0 : decode prog_13_method_60_code 0 = .ok (.aload_n 0, 1) := by decide +kernel
theorem d_Model_alters_1 : decode prog_13_method_60_code 1 = .ok (.getfield 158, 3) := by decide +kernel
theorem d_Model_alters_4 : decode prog_13_method_60_code 4 = .ok (.iconst 3, 1) := by decide +kernel
theorem d_Model_alters_5 : decode prog_13_method_60_code 5 = .ok (.iload_n 1, 1) := by decide +kernel
theorem d_Model_alters_6 : decode prog_13_method_60_code 6 = .ok (.iadd, 1) := by decide +kernel
theorem d_Model_alters_7 : decode prog_13_method_60_code 7 = .ok (.dup2, 1) := by decide +kernel
theorem d_Model_alters_8 : decode prog_13_method_60_code 8 = .ok (.iaload, 1) := by decide +kernel
theorem d_Model_alters_9 : decode prog_13_method_60_code 9 = .ok (.iload_n 2, 1) := by decide +kernel
theorem d_Model_alters_10 : decode prog_13_method_60_code 10 = .ok (.iadd, 1) := by decide +kernel
theorem d_Model_alters_11 : decode prog_13_method_60_code 11 = .ok (.iastore, 1) := by decide +kernel
theorem d_Model_alters_12 : decode prog_13_method_60_code 12 = .ok (.aload_n 0, 1) := by decide +kernel
theorem d_Model_alters_13 : decode prog_13_method_60_code 13 = .ok (.iload_n 1, 1) := by decide +kernel
theorem d_Model_alters_14 : decode prog_13_method_60_code 14 = .ok (.invokevirtual 418, 3) := by decide +kernel
theorem d_Model_alters_17 : decode prog_13_method_60_code 17 = .ok (.iconst (-1), 1) := by decide +kernel
theorem d_Model_alters_18 : decode prog_13_method_60_code 18 = .ok (.if_icmp .eq 19, 3) := by decide +kernel
theorem d_Model_alters_37 : decode prog_13_method_60_code 37 = .ok (.return_, 1) := by decide +kernel
theorem d_Model_alters_21 : decode prog_13_method_60_code 21 = .ok (.aload_n 0, 1) := by decide +kernel
theorem d_Model_alters_22 : decode prog_13_method_60_code 22 = .ok (.getfield 158, 3) := by decide +kernel
theorem d_Model_alters_25 : decode prog_13_method_60_code 25 = .ok (.iconst 3, 1) := by decide +kernel
theorem d_Model_alters_26 : decode prog_13_method_60_code 26 = .ok (.aload_n 0, 1) := by decide +kernel
theorem d_Model_alters_27 : decode prog_13_method_60_code 27 = .ok (.iload_n 1, 1) := by decide +kernel
theorem d_Model_alters_28 : decode prog_13_method_60_code 28 = .ok (.invokevirtual 418, 3) := by decide +kernel
theorem d_Model_alters_31 : decode prog_13_method_60_code 31 = .ok (.iadd, 1) := by decide +kernel
theorem d_Model_alters_32 : decode prog_13_method_60_code 32 = .ok (.dup2, 1) := by decide +kernel
theorem d_Model_alters_33 : decode prog_13_method_60_code 33 = .ok (.iaload, 1) := by decide +kernel
theorem d_Model_alters_34 : decode prog_13_method_60_code 34 = .ok (.iload_n 2, 1) := by decide +kernel
theorem d_Model_alters_35 : decode prog_13_method_60_code 35 = .ok (.iadd, 1) := by decide +kernel
theorem d_Model_alters_36 : decode prog_13_method_60_code 36 = .ok (.iastore, 1) := by decide +kernel
set_option maxHeartbeats 4000000 in
set_option maxRecDepth 100000 in
theorem c_M_alters (l : Launch) (D : va_G) (y : Nat → ClassId) (mo : Nat) (ma : Nat → Nat) (t1 : Nat) (i2 : Int32) (i3 : Int32) (i4 : Int32) (i5 : Int32) (i6 : Int32) (i7 : Int32) (i8 : Int32) (i42 : Int32) (i49 : Int32) (i51 : Int32) (i53 : Int32) (i54 : Int32) (i59 : Int32) (i61 : Int32) (i64 : Int32) (i66 : Int32) (t67 : Nat) (i76 : Int64) (i78 : Int32) (g46 : Nat → Int32) (g62 : Nat → Int32) (j : Nat) (v : Int32) (dy : Nat) (hG : ∀ j, j < 9 → g46 (54 + 6 * j + 5) = -1 ∨ ∃ q, q < 9 ∧ g46 (54 + 6 * j + 5) = nI q) (hj : j < 9) (hD : g62 0 = nI dy) : CT l D y ⟨"NineBoardsModel", "alters", "(II)V"⟩ prog_13_method_60_code 3 none ({ frames := 1, cells := 0, slots := 0, locals := 21 } : Room) [.ref mo, .int (nI j), .int v] [MB mo ma (nI t1) i2 i3 i4 i5 i6 i7 i8 i42 i49 i51 i53 i54 i59 i61 i64 i66 (nI t67) i76 i78, (ma 46, .inl (y 0, 108, .inl g46)), (ma 62, .inl (y 0, 63, .inl g62))] (QV D [MB mo ma (nI t1) i2 i3 i4 i5 i6 i7 i8 i42 i49 i51 i53 i54 i59 i61 i64 i66 (nI t67) i76 i78, (ma 46, .inl (y 0, 108, .inl g46)), (ma 62, .inl (y 0, 63, .inl g62))] (fun (u : (Nat → Int32)) => u 0 = nI dy) (fun u => [MB mo ma (nI t1) i2 i3 i4 i5 i6 i7 i8 i42 i49 i51 i53 i54 i59 i61 i64 i66 (nI t67) i76 i78, (ma 46, .inl (y 0, 108, .inl g46)), (ma 62, .inl (y 0, 63, .inl u))])) := by
  refine CT.of (by decide) (nb rfl) ?_
  intro p e s m args below meth c C hr
  refine j_lv (lv' := [(0, .ref mo), (1, .int (nI j)), (2, .int v)]) rfl ?_
  refine j_aload_n (pc := 0) C d_Model_alters_0 rfl 0 rfl ?_
  refine j_get (pc := 1) C gf_Model_158 0 rfl rfl d_Model_alters_1 ?_
  refine j_iconst (pc := 4) C (v := 3) d_Model_alters_4 (by decide) ?_
  refine j_iload_n (pc := 5) C d_Model_alters_5 rfl 1 rfl ?_
  refine j_iadd (pc := 6) C (v := nI (3 + j)) d_Model_alters_6 (nI_add _ _) ?_
  refine j_dup2 (pc := 7) C d_Model_alters_7 rfl rfl ?_
  refine j_iald (pc := 8) C 2 rfl (v := g62 (3 + j)) (vp_in_nI (by omega) (by decide)) (by rw [nI_clamp (by omega)]) d_Model_alters_8 ?_
  refine j_iload_n (pc := 9) C d_Model_alters_9 rfl 2 rfl ?_
  refine j_iadd (pc := 10) C (v := (g62 (3 + j)) + v) d_Model_alters_10 rfl ?_
  refine j_iast (pc := 11) C 2 rfl (ws' := [MB mo ma (nI t1) i2 i3 i4 i5 i6 i7 i8 i42 i49 i51 i53 i54 i59 i61 i64 i66 (nI t67) i76 i78, (ma 46, .inl (y 0, 108, .inl g46)), (ma 62, .inl (y 0, 63, .inl (upd g62 (3 + j) ((g62 (3 + j)) + v))))]) (vp_in_nI (by omega) (by decide)) (by rw [nI_clamp (by omega)]; rfl) d_Model_alters_11 ?_
  refine j_genW (fun f1 => [MB mo ma (nI t1) i2 i3 i4 i5 i6 i7 i8 i42 i49 i51 i53 i54 i59 i61 i64 i66 (nI t67) i76 i78, (ma 46, .inl (y 0, 108, .inl g46)), (ma 62, .inl (y 0, 63, .inl f1))]) (upd g62 (3 + j) ((g62 (3 + j)) + v)) rfl (fun f1 => (f1 0 = nI dy)) (show upd g62 (3 + j) ((g62 (3 + j)) + v) 0 = nI dy by rw [pk_un (by omega)]; exact hD) ?_
  rintro f1 xh2
  refine j_ws (ws' := [MB mo ma (nI t1) i2 i3 i4 i5 i6 i7 i8 i42 i49 i51 i53 i54 i59 i61 i64 i66 (nI t67) i76 i78, (ma 46, .inl (y 0, 108, .inl g46)), (ma 62, .inl (y 0, 63, .inl f1))]) rfl ?_
  have xh2 : f1 0 = nI dy := xh2
  refine j_aload_n (pc := 12) C d_Model_alters_12 rfl 0 rfl ?_
  refine j_iload_n (pc := 13) C d_Model_alters_13 rfl 1 rfl ?_
  refine j_callVi (pc := 14) C (c_M_joinedTo l D y mo ma t1 i2 i3 i4 i5 i6 i7 i8 i42 i49 i51 i53 i54 i59 i61 i64 i66 t67 i76 i78 g46 j hG hj) kw_Model_418 kv_Model_joinedTo 0 10 rfl rfl ⟨by decide, by decide⟩ ⟨by decide, by decide⟩ (wr := [(ma 62, .inl (y 0, 63, .inl f1))]) [0, 1] [2] rfl rfl (by decide) (by decide) (by decide) (As := [.int (nI j)]) (rest := []) rfl (nb rfl) rfl d_Model_alters_14 (fun r3 _ hr3 => ?_)
  refine j_ws (ws' := [(ma 62, .inl (y 0, 63, .inl f1)), MB mo ma (nI t1) i2 i3 i4 i5 i6 i7 i8 i42 i49 i51 i53 i54 i59 i61 i64 i66 (nI t67) i76 i78, (ma 46, .inl (y 0, 108, .inl g46))]) rfl ?_
  rcases hr3 with rfl | ⟨q5, xh6, rfl⟩
  · refine j_iconst (pc := 17) C (v := (-1)) d_Model_alters_17 (by decide) ?_
    refine j_icmp_eqT (pc := 18) C (tgt := 37) d_Model_alters_18 (by decide) (by decide) ?_
    exact j_vret (pc := 37) C hr f1 xh2 [1, 2, 0] rfl (by decide) (by decide) (by decide) d_Model_alters_37
  · refine j_iconst (pc := 17) C (v := (-1)) d_Model_alters_17 (by decide) ?_
    refine j_icmp_eqF (pc := 18) C (tgt := 37) d_Model_alters_18 (by decide) (nI_nm1 (by omega)) ?_
    refine j_aload_n (pc := 21) C d_Model_alters_21 rfl 0 rfl ?_
    refine j_get (pc := 22) C gf_Model_158 1 rfl rfl d_Model_alters_22 ?_
    refine j_iconst (pc := 25) C (v := 3) d_Model_alters_25 (by decide) ?_
    refine j_aload_n (pc := 26) C d_Model_alters_26 rfl 0 rfl ?_
    refine j_iload_n (pc := 27) C d_Model_alters_27 rfl 1 rfl ?_
    refine j_callVi (pc := 28) C (c_M_joinedTo l D y mo ma t1 i2 i3 i4 i5 i6 i7 i8 i42 i49 i51 i53 i54 i59 i61 i64 i66 t67 i76 i78 g46 j hG hj) kw_Model_418 kv_Model_joinedTo 0 10 rfl rfl ⟨by decide, by decide⟩ ⟨by decide, by decide⟩ (wr := [(ma 62, .inl (y 0, 63, .inl f1))]) [1, 2] [0] rfl rfl (by decide) (by decide) (by decide) (As := [.int (nI j)]) (rest := [.int 3, .ref (ma 62)]) rfl (nb rfl) rfl d_Model_alters_28 (fun r7 _ hr7 => ?_)
    refine j_ws (ws' := [(ma 62, .inl (y 0, 63, .inl f1)), MB mo ma (nI t1) i2 i3 i4 i5 i6 i7 i8 i42 i49 i51 i53 i54 i59 i61 i64 i66 (nI t67) i76 i78, (ma 46, .inl (y 0, 108, .inl g46))]) rfl ?_
    rcases hr7 with rfl | ⟨q9, xh10, rfl⟩
    · refine j_iadd (pc := 31) C (v := 2) d_Model_alters_31 (by decide) ?_
      refine j_dup2 (pc := 32) C d_Model_alters_32 rfl rfl ?_
      refine j_iald (pc := 33) C 0 rfl (v := f1 2) (vin (by decide)) rfl d_Model_alters_33 ?_
      refine j_iload_n (pc := 34) C d_Model_alters_34 rfl 2 rfl ?_
      refine j_iadd (pc := 35) C (v := (f1 2) + v) d_Model_alters_35 rfl ?_
      refine j_iast (pc := 36) C 0 rfl (ws' := [(ma 62, .inl (y 0, 63, .inl (upd f1 2 ((f1 2) + v)))), MB mo ma (nI t1) i2 i3 i4 i5 i6 i7 i8 i42 i49 i51 i53 i54 i59 i61 i64 i66 (nI t67) i76 i78, (ma 46, .inl (y 0, 108, .inl g46))]) (vin (by decide)) rfl d_Model_alters_36 ?_
      refine j_genW (fun f11 => [(ma 62, .inl (y 0, 63, .inl f11)), MB mo ma (nI t1) i2 i3 i4 i5 i6 i7 i8 i42 i49 i51 i53 i54 i59 i61 i64 i66 (nI t67) i76 i78, (ma 46, .inl (y 0, 108, .inl g46))]) (upd f1 2 ((f1 2) + v)) rfl (fun f11 => (f11 0 = nI dy)) (show upd f1 2 ((f1 2) + v) 0 = nI dy by rw [pk_un (by omega)]; exact xh2) ?_
      rintro f11 xh12
      refine j_ws (ws' := [(ma 62, .inl (y 0, 63, .inl f11)), MB mo ma (nI t1) i2 i3 i4 i5 i6 i7 i8 i42 i49 i51 i53 i54 i59 i61 i64 i66 (nI t67) i76 i78, (ma 46, .inl (y 0, 108, .inl g46))]) rfl ?_
      have xh12 : f11 0 = nI dy := xh12
      exact j_vret (pc := 37) C hr f11 xh12 [1, 2, 0] rfl (by decide) (by decide) (by decide) d_Model_alters_37
    · refine j_iadd (pc := 31) C (v := nI (3 + q9)) d_Model_alters_31 (nI_add _ _) ?_
      refine j_dup2 (pc := 32) C d_Model_alters_32 rfl rfl ?_
      refine j_iald (pc := 33) C 0 rfl (v := f1 (3 + q9)) (vp_in_nI (by omega) (by decide)) (by rw [nI_clamp (by omega)]) d_Model_alters_33 ?_
      refine j_iload_n (pc := 34) C d_Model_alters_34 rfl 2 rfl ?_
      refine j_iadd (pc := 35) C (v := (f1 (3 + q9)) + v) d_Model_alters_35 rfl ?_
      refine j_iast (pc := 36) C 0 rfl (ws' := [(ma 62, .inl (y 0, 63, .inl (upd f1 (3 + q9) ((f1 (3 + q9)) + v)))), MB mo ma (nI t1) i2 i3 i4 i5 i6 i7 i8 i42 i49 i51 i53 i54 i59 i61 i64 i66 (nI t67) i76 i78, (ma 46, .inl (y 0, 108, .inl g46))]) (vp_in_nI (by omega) (by decide)) (by rw [nI_clamp (by omega)]; rfl) d_Model_alters_36 ?_
      refine j_genW (fun f13 => [(ma 62, .inl (y 0, 63, .inl f13)), MB mo ma (nI t1) i2 i3 i4 i5 i6 i7 i8 i42 i49 i51 i53 i54 i59 i61 i64 i66 (nI t67) i76 i78, (ma 46, .inl (y 0, 108, .inl g46))]) (upd f1 (3 + q9) ((f1 (3 + q9)) + v)) rfl (fun f13 => (f13 0 = nI dy)) (show upd f1 (3 + q9) ((f1 (3 + q9)) + v) 0 = nI dy by rw [pk_un (by omega)]; exact xh2) ?_
      rintro f13 xh14
      refine j_ws (ws' := [(ma 62, .inl (y 0, 63, .inl f13)), MB mo ma (nI t1) i2 i3 i4 i5 i6 i7 i8 i42 i49 i51 i53 i54 i59 i61 i64 i66 (nI t67) i76 i78, (ma 46, .inl (y 0, 108, .inl g46))]) rfl ?_
      have xh14 : f13 0 = nI dy := xh14
      exact j_vret (pc := 37) C hr f13 xh14 [1, 2, 0] rfl (by decide) (by decide) (by decide) d_Model_alters_37
theorem d_Model_isAllowed_0 : decode prog_13_method_61_code 0 = .ok (.iload_n 2, 1) := by decide +kernel
theorem d_Model_isAllowed_1 : decode prog_13_method_61_code 1 = .ok (.ifCond .ne 5, 3) := by decide +kernel
theorem d_Model_isAllowed_6 : decode prog_13_method_61_code 6 = .ok (.iload_n 1, 1) := by decide +kernel
theorem d_Model_isAllowed_7 : decode prog_13_method_61_code 7 = .ok (.iconst 3, 1) := by decide +kernel
theorem d_Model_isAllowed_8 : decode prog_13_method_61_code 8 = .ok (.if_icmp .eq 17, 3) := by decide +kernel
theorem d_Model_isAllowed_25 : decode prog_13_method_61_code 25 = .ok (.iconst 0, 1) := by decide +kernel
theorem d_Model_isAllowed_26 : decode prog_13_method_61_code 26 = .ok (.ireturn, 1) := by decide +kernel
theorem d_Model_isAllowed_11 : decode prog_13_method_61_code 11 = .ok (.iload_n 1, 1) := by decide +kernel
theorem d_Model_isAllowed_12 : decode prog_13_method_61_code 12 = .ok (.ifCond .ne 15, 3) := by decide +kernel
theorem d_Model_isAllowed_27 : decode prog_13_method_61_code 27 = .ok (.iload_n 2, 1) := by decide +kernel
theorem d_Model_isAllowed_28 : decode prog_13_method_61_code 28 = .ok (.iconst 1, 1) := by decide +kernel
theorem d_Model_isAllowed_29 : decode prog_13_method_61_code 29 = .ok (.if_icmp .ne 21, 3) := by decide +kernel
theorem d_Model_isAllowed_50 : decode prog_13_method_61_code 50 = .ok (.aload_n 0, 1) := by decide +kernel
theorem d_Model_isAllowed_51 : decode prog_13_method_61_code 51 = .ok (.iload_n 3, 1) := by decide +kernel
theorem d_Model_isAllowed_52 : decode prog_13_method_61_code 52 = .ok (.iconst 0, 1) := by decide +kernel
theorem d_Model_isAllowed_53 : decode prog_13_method_61_code 53 = .ok (.iload_n 1, 1) := by decide +kernel
theorem d_Model_isAllowed_54 : decode prog_13_method_61_code 54 = .ok (.iconst 2, 1) := by decide +kernel
theorem d_Model_isAllowed_55 : decode prog_13_method_61_code 55 = .ok (.if_icmp .ne 8, 3) := by decide +kernel
theorem d_Model_isAllowed_63 : decode prog_13_method_61_code 63 = .ok (.bipush 19, 2) := by decide +kernel
theorem d_Model_isAllowed_65 : decode prog_13_method_61_code 65 = .ok (.invokevirtual 424, 3) := by decide +kernel
theorem kw_Model_424 : KW "NineBoardsModel" 424 ⟨"NineBoardsModel", "areBoards", "(III)Z"⟩ prog_13_method_59_code 5 (some .boolean) 3 := ⟨(mt_7 (List.mem_of_getElem? (i := 103) rfl) rfl), (mt_1 (List.mem_of_getElem? (i := 16) rfl) rfl), (mt_7 (List.mem_of_getElem? (i := 106) rfl) rfl), by decide +kernel⟩
theorem kv_Model_areBoards : Cond.instanceMethod ⟨"NineBoardsModel", "areBoards", "(III)Z"⟩ ∈ TB ∧ Cond.selects "NineBoardsModel" ⟨"NineBoardsModel", "areBoards", "(III)Z"⟩ ⟨"NineBoardsModel", "areBoards", "(III)Z"⟩ ∈ TB := ⟨(mt_7 (List.mem_of_getElem? (i := 105) rfl) rfl), (ms_0 (List.mem_map.mpr ⟨(⟨"NineBoardsModel", "areBoards", "(III)Z"⟩, 79), List.mem_of_getElem? (i := 99) (by decide +kernel), rfl⟩) rfl)⟩
theorem d_Model_isAllowed_68 : decode prog_13_method_61_code 68 = .ok (.ireturn, 1) := by decide +kernel
theorem d_Model_isAllowed_58 : decode prog_13_method_61_code 58 = .ok (.bipush 8, 2) := by decide +kernel
theorem d_Model_isAllowed_60 : decode prog_13_method_61_code 60 = .ok (.goto 5, 3) := by decide +kernel
theorem d_Model_isAllowed_32 : decode prog_13_method_61_code 32 = .ok (.aload_n 0, 1) := by decide +kernel
theorem d_Model_isAllowed_33 : decode prog_13_method_61_code 33 = .ok (.iload_n 3, 1) := by decide +kernel
theorem d_Model_isAllowed_34 : decode prog_13_method_61_code 34 = .ok (.iload_n 1, 1) := by decide +kernel
theorem d_Model_isAllowed_35 : decode prog_13_method_61_code 35 = .ok (.iconst 2, 1) := by decide +kernel
theorem d_Model_isAllowed_36 : decode prog_13_method_61_code 36 = .ok (.if_icmp .ne 7, 3) := by decide +kernel
theorem d_Model_isAllowed_43 : decode prog_13_method_61_code 43 = .ok (.iconst 1, 1) := by decide +kernel
theorem d_Model_isAllowed_44 : decode prog_13_method_61_code 44 = .ok (.bipush 20, 2) := by decide +kernel
theorem d_Model_isAllowed_46 : decode prog_13_method_61_code 46 = .ok (.invokevirtual 424, 3) := by decide +kernel
theorem d_Model_isAllowed_49 : decode prog_13_method_61_code 49 = .ok (.ireturn, 1) := by decide +kernel
theorem d_Model_isAllowed_39 : decode prog_13_method_61_code 39 = .ok (.iconst 2, 1) := by decide +kernel
theorem d_Model_isAllowed_40 : decode prog_13_method_61_code 40 = .ok (.goto 4, 3) := by decide +kernel
theorem d_Model_isAllowed_15 : decode prog_13_method_61_code 15 = .ok (.aload_n 0, 1) := by decide +kernel
theorem d_Model_isAllowed_16 : decode prog_13_method_61_code 16 = .ok (.getfield 158, 3) := by decide +kernel
theorem d_Model_isAllowed_19 : decode prog_13_method_61_code 19 = .ok (.iconst 2, 1) := by decide +kernel
theorem d_Model_isAllowed_20 : decode prog_13_method_61_code 20 = .ok (.iaload, 1) := by decide +kernel
theorem d_Model_isAllowed_21 : decode prog_13_method_61_code 21 = .ok (.iload_n 2, 1) := by decide +kernel
theorem d_Model_isAllowed_22 : decode prog_13_method_61_code 22 = .ok (.if_icmp .ne 5, 3) := by decide +kernel
theorem d_Model_isAllowed_4 : decode prog_13_method_61_code 4 = .ok (.iconst 1, 1) := by decide +kernel
theorem d_Model_isAllowed_5 : decode prog_13_method_61_code 5 = .ok (.ireturn, 1) := by decide +kernel
set_option maxHeartbeats 4000000 in
set_option maxRecDepth 100000 in
theorem c_M_isAllowed (l : Launch) (D : va_G) (y : Nat → ClassId) (mo : Nat) (ma : Nat → Nat) (t1 : Nat) (i2 : Int32) (i3 : Int32) (i4 : Int32) (i5 : Int32) (i6 : Int32) (i7 : Int32) (i8 : Int32) (i42 : Int32) (i49 : Int32) (i51 : Int32) (i53 : Int32) (i54 : Int32) (i59 : Int32) (i61 : Int32) (i64 : Int32) (i66 : Int32) (t67 : Nat) (i76 : Int64) (i78 : Int32) (g46 : Nat → Int32) (g62 : Nat → Int32) (v1 : Int32) (v2 : Int32) (j : Nat) (hG : ∀ j, j < 9 → g46 (54 + 6 * j + 5) = -1 ∨ ∃ q, q < 9 ∧ g46 (54 + 6 * j + 5) = nI q) (hj : j < 9) : CT l D y ⟨"NineBoardsModel", "isAllowed", "(III)Z"⟩ prog_13_method_61_code 4 (some .boolean) ({ frames := 2, cells := 0, slots := 0, locals := 49 } : Room) [.ref mo, .int v1, .int v2, .int (nI j)] [MB mo ma (nI t1) i2 i3 i4 i5 i6 i7 i8 i42 i49 i51 i53 i54 i59 i61 i64 i66 (nI t67) i76 i78, (ma 46, .inl (y 0, 108, .inl g46)), (ma 62, .inl (y 0, 63, .inl g62))] (QI D [MB mo ma (nI t1) i2 i3 i4 i5 i6 i7 i8 i42 i49 i51 i53 i54 i59 i61 i64 i66 (nI t67) i76 i78, (ma 46, .inl (y 0, 108, .inl g46)), (ma 62, .inl (y 0, 63, .inl g62))] (fun (r : Int32) (u : Unit) => (r = 0 ∨ r = 1)) (fun _ => [MB mo ma (nI t1) i2 i3 i4 i5 i6 i7 i8 i42 i49 i51 i53 i54 i59 i61 i64 i66 (nI t67) i76 i78, (ma 46, .inl (y 0, 108, .inl g46)), (ma 62, .inl (y 0, 63, .inl g62))])) := by
  refine CT.of (by decide) (nb rfl) ?_
  intro p e s m args below meth c C hr
  refine j_lv (lv' := [(0, .ref mo), (1, .int v1), (2, .int v2), (3, .int (nI j))]) rfl ?_
  refine j_iload_n (pc := 0) C d_Model_isAllowed_0 rfl 2 rfl ?_
  refine j_if_ne (pc := 1) C (tgt := 6) d_Model_isAllowed_1 (by decide) (fun c1 => ?_) (fun c1 => ?_)
  · refine j_iload_n (pc := 6) C d_Model_isAllowed_6 rfl 1 rfl ?_
    refine j_iconst (pc := 7) C (v := 3) d_Model_isAllowed_7 (by decide) ?_
    refine j_icmp_eq (pc := 8) C (tgt := 25) d_Model_isAllowed_8 (by decide) (fun c2 => ?_) (fun c2 => ?_)
    · refine j_iconst (pc := 25) C (v := 0) d_Model_isAllowed_25 (by decide) ?_
      exact j_iret (pc := 26) C hr (by decide) () (by decide) [0, 1, 2] rfl (by decide) (by decide) (by decide) d_Model_isAllowed_26
    · refine j_iload_n (pc := 11) C d_Model_isAllowed_11 rfl 1 rfl ?_
      refine j_if_ne (pc := 12) C (tgt := 27) d_Model_isAllowed_12 (by decide) (fun c3 => ?_) (fun c3 => ?_)
      · refine j_iload_n (pc := 27) C d_Model_isAllowed_27 rfl 2 rfl ?_
        refine j_iconst (pc := 28) C (v := 1) d_Model_isAllowed_28 (by decide) ?_
        refine j_icmp_ne (pc := 29) C (tgt := 50) d_Model_isAllowed_29 (by decide) (fun c4 => ?_) (fun c4 => ?_)
        · refine j_aload_n (pc := 50) C d_Model_isAllowed_50 rfl 0 rfl ?_
          refine j_iload_n (pc := 51) C d_Model_isAllowed_51 rfl 3 rfl ?_
          refine j_iconst (pc := 52) C (v := 0) d_Model_isAllowed_52 (by decide) ?_
          refine j_iload_n (pc := 53) C d_Model_isAllowed_53 rfl 1 rfl ?_
          refine j_iconst (pc := 54) C (v := 2) d_Model_isAllowed_54 (by decide) ?_
          refine j_icmp_ne (pc := 55) C (tgt := 63) d_Model_isAllowed_55 (by decide) (fun c5 => ?_) (fun c5 => ?_)
          · refine j_bipush (pc := 63) C (v := 19) d_Model_isAllowed_63 (by decide) ?_
            refine j_callVi (pc := 65) C (c_M_areBoards l D y mo ma t1 i2 i3 i4 i5 i6 i7 i8 i42 i49 i51 i53 i54 i59 i61 i64 i66 t67 i76 i78 g46 g62 j 0 19 hG hj) kw_Model_424 kv_Model_areBoards 0 10 rfl rfl ⟨by decide, by decide⟩ ⟨by decide, by decide⟩ (wr := []) [0, 1, 2] [] rfl rfl (by decide) (by decide) (by decide) (As := [.int (nI j), .int 0, .int 19]) (rest := []) rfl (nb rfl) rfl d_Model_isAllowed_65 (fun r6 _ hr6 => ?_)
            have xh7 := hr6
            refine j_ws (ws' := [MB mo ma (nI t1) i2 i3 i4 i5 i6 i7 i8 i42 i49 i51 i53 i54 i59 i61 i64 i66 (nI t67) i76 i78, (ma 46, .inl (y 0, 108, .inl g46)), (ma 62, .inl (y 0, 63, .inl g62))]) rfl ?_
            exact j_iret (pc := 68) C hr (b01 xh7) () xh7 [0, 1, 2] rfl (by decide) (by decide) (by decide) d_Model_isAllowed_68
          · refine j_bipush (pc := 58) C (v := 8) d_Model_isAllowed_58 (by decide) ?_
            refine j_goto (pc := 60) C (tgt := 65) d_Model_isAllowed_60 (by decide) ?_
            refine j_callVi (pc := 65) C (c_M_areBoards l D y mo ma t1 i2 i3 i4 i5 i6 i7 i8 i42 i49 i51 i53 i54 i59 i61 i64 i66 t67 i76 i78 g46 g62 j 0 8 hG hj) kw_Model_424 kv_Model_areBoards 0 10 rfl rfl ⟨by decide, by decide⟩ ⟨by decide, by decide⟩ (wr := []) [0, 1, 2] [] rfl rfl (by decide) (by decide) (by decide) (As := [.int (nI j), .int 0, .int 8]) (rest := []) rfl (nb rfl) rfl d_Model_isAllowed_65 (fun r8 _ hr8 => ?_)
            have xh9 := hr8
            refine j_ws (ws' := [MB mo ma (nI t1) i2 i3 i4 i5 i6 i7 i8 i42 i49 i51 i53 i54 i59 i61 i64 i66 (nI t67) i76 i78, (ma 46, .inl (y 0, 108, .inl g46)), (ma 62, .inl (y 0, 63, .inl g62))]) rfl ?_
            exact j_iret (pc := 68) C hr (b01 xh9) () xh9 [0, 1, 2] rfl (by decide) (by decide) (by decide) d_Model_isAllowed_68
        · refine j_aload_n (pc := 32) C d_Model_isAllowed_32 rfl 0 rfl ?_
          refine j_iload_n (pc := 33) C d_Model_isAllowed_33 rfl 3 rfl ?_
          refine j_iload_n (pc := 34) C d_Model_isAllowed_34 rfl 1 rfl ?_
          refine j_iconst (pc := 35) C (v := 2) d_Model_isAllowed_35 (by decide) ?_
          refine j_icmp_ne (pc := 36) C (tgt := 43) d_Model_isAllowed_36 (by decide) (fun c10 => ?_) (fun c10 => ?_)
          · refine j_iconst (pc := 43) C (v := 1) d_Model_isAllowed_43 (by decide) ?_
            refine j_bipush (pc := 44) C (v := 20) d_Model_isAllowed_44 (by decide) ?_
            refine j_callVi (pc := 46) C (c_M_areBoards l D y mo ma t1 i2 i3 i4 i5 i6 i7 i8 i42 i49 i51 i53 i54 i59 i61 i64 i66 t67 i76 i78 g46 g62 j 1 20 hG hj) kw_Model_424 kv_Model_areBoards 0 10 rfl rfl ⟨by decide, by decide⟩ ⟨by decide, by decide⟩ (wr := []) [0, 1, 2] [] rfl rfl (by decide) (by decide) (by decide) (As := [.int (nI j), .int 1, .int 20]) (rest := []) rfl (nb rfl) rfl d_Model_isAllowed_46 (fun r11 _ hr11 => ?_)
            have xh12 := hr11
            refine j_ws (ws' := [MB mo ma (nI t1) i2 i3 i4 i5 i6 i7 i8 i42 i49 i51 i53 i54 i59 i61 i64 i66 (nI t67) i76 i78, (ma 46, .inl (y 0, 108, .inl g46)), (ma 62, .inl (y 0, 63, .inl g62))]) rfl ?_
            exact j_iret (pc := 49) C hr (b01 xh12) () xh12 [0, 1, 2] rfl (by decide) (by decide) (by decide) d_Model_isAllowed_49
          · refine j_iconst (pc := 39) C (v := 2) d_Model_isAllowed_39 (by decide) ?_
            refine j_goto (pc := 40) C (tgt := 44) d_Model_isAllowed_40 (by decide) ?_
            refine j_bipush (pc := 44) C (v := 20) d_Model_isAllowed_44 (by decide) ?_
            refine j_callVi (pc := 46) C (c_M_areBoards l D y mo ma t1 i2 i3 i4 i5 i6 i7 i8 i42 i49 i51 i53 i54 i59 i61 i64 i66 t67 i76 i78 g46 g62 j 2 20 hG hj) kw_Model_424 kv_Model_areBoards 0 10 rfl rfl ⟨by decide, by decide⟩ ⟨by decide, by decide⟩ (wr := []) [0, 1, 2] [] rfl rfl (by decide) (by decide) (by decide) (As := [.int (nI j), .int 2, .int 20]) (rest := []) rfl (nb rfl) rfl d_Model_isAllowed_46 (fun r13 _ hr13 => ?_)
            have xh14 := hr13
            refine j_ws (ws' := [MB mo ma (nI t1) i2 i3 i4 i5 i6 i7 i8 i42 i49 i51 i53 i54 i59 i61 i64 i66 (nI t67) i76 i78, (ma 46, .inl (y 0, 108, .inl g46)), (ma 62, .inl (y 0, 63, .inl g62))]) rfl ?_
            exact j_iret (pc := 49) C hr (b01 xh14) () xh14 [0, 1, 2] rfl (by decide) (by decide) (by decide) d_Model_isAllowed_49
      · refine j_aload_n (pc := 15) C d_Model_isAllowed_15 rfl 0 rfl ?_
        refine j_get (pc := 16) C gf_Model_158 0 rfl rfl d_Model_isAllowed_16 ?_
        refine j_iconst (pc := 19) C (v := 2) d_Model_isAllowed_19 (by decide) ?_
        refine j_iald (pc := 20) C 2 rfl (v := g62 2) (vin (by decide)) rfl d_Model_isAllowed_20 ?_
        refine j_iload_n (pc := 21) C d_Model_isAllowed_21 rfl 2 rfl ?_
        refine j_icmp_ne (pc := 22) C (tgt := 27) d_Model_isAllowed_22 (by decide) (fun c15 => ?_) (fun c15 => ?_)
        · refine j_iload_n (pc := 27) C d_Model_isAllowed_27 rfl 2 rfl ?_
          refine j_iconst (pc := 28) C (v := 1) d_Model_isAllowed_28 (by decide) ?_
          refine j_icmp_ne (pc := 29) C (tgt := 50) d_Model_isAllowed_29 (by decide) (fun c16 => ?_) (fun c16 => ?_)
          · refine j_aload_n (pc := 50) C d_Model_isAllowed_50 rfl 0 rfl ?_
            refine j_iload_n (pc := 51) C d_Model_isAllowed_51 rfl 3 rfl ?_
            refine j_iconst (pc := 52) C (v := 0) d_Model_isAllowed_52 (by decide) ?_
            refine j_iload_n (pc := 53) C d_Model_isAllowed_53 rfl 1 rfl ?_
            refine j_iconst (pc := 54) C (v := 2) d_Model_isAllowed_54 (by decide) ?_
            refine j_icmp_ne (pc := 55) C (tgt := 63) d_Model_isAllowed_55 (by decide) (fun c17 => ?_) (fun c17 => ?_)
            · refine j_bipush (pc := 63) C (v := 19) d_Model_isAllowed_63 (by decide) ?_
              refine j_callVi (pc := 65) C (c_M_areBoards l D y mo ma t1 i2 i3 i4 i5 i6 i7 i8 i42 i49 i51 i53 i54 i59 i61 i64 i66 t67 i76 i78 g46 g62 j 0 19 hG hj) kw_Model_424 kv_Model_areBoards 0 10 rfl rfl ⟨by decide, by decide⟩ ⟨by decide, by decide⟩ (wr := []) [0, 1, 2] [] rfl rfl (by decide) (by decide) (by decide) (As := [.int (nI j), .int 0, .int 19]) (rest := []) rfl (nb rfl) rfl d_Model_isAllowed_65 (fun r18 _ hr18 => ?_)
              have xh19 := hr18
              refine j_ws (ws' := [MB mo ma (nI t1) i2 i3 i4 i5 i6 i7 i8 i42 i49 i51 i53 i54 i59 i61 i64 i66 (nI t67) i76 i78, (ma 46, .inl (y 0, 108, .inl g46)), (ma 62, .inl (y 0, 63, .inl g62))]) rfl ?_
              exact j_iret (pc := 68) C hr (b01 xh19) () xh19 [0, 1, 2] rfl (by decide) (by decide) (by decide) d_Model_isAllowed_68
            · refine j_bipush (pc := 58) C (v := 8) d_Model_isAllowed_58 (by decide) ?_
              refine j_goto (pc := 60) C (tgt := 65) d_Model_isAllowed_60 (by decide) ?_
              refine j_callVi (pc := 65) C (c_M_areBoards l D y mo ma t1 i2 i3 i4 i5 i6 i7 i8 i42 i49 i51 i53 i54 i59 i61 i64 i66 t67 i76 i78 g46 g62 j 0 8 hG hj) kw_Model_424 kv_Model_areBoards 0 10 rfl rfl ⟨by decide, by decide⟩ ⟨by decide, by decide⟩ (wr := []) [0, 1, 2] [] rfl rfl (by decide) (by decide) (by decide) (As := [.int (nI j), .int 0, .int 8]) (rest := []) rfl (nb rfl) rfl d_Model_isAllowed_65 (fun r20 _ hr20 => ?_)
              have xh21 := hr20
              refine j_ws (ws' := [MB mo ma (nI t1) i2 i3 i4 i5 i6 i7 i8 i42 i49 i51 i53 i54 i59 i61 i64 i66 (nI t67) i76 i78, (ma 46, .inl (y 0, 108, .inl g46)), (ma 62, .inl (y 0, 63, .inl g62))]) rfl ?_
              exact j_iret (pc := 68) C hr (b01 xh21) () xh21 [0, 1, 2] rfl (by decide) (by decide) (by decide) d_Model_isAllowed_68
          · refine j_aload_n (pc := 32) C d_Model_isAllowed_32 rfl 0 rfl ?_
            refine j_iload_n (pc := 33) C d_Model_isAllowed_33 rfl 3 rfl ?_
            refine j_iload_n (pc := 34) C d_Model_isAllowed_34 rfl 1 rfl ?_
            refine j_iconst (pc := 35) C (v := 2) d_Model_isAllowed_35 (by decide) ?_
            refine j_icmp_ne (pc := 36) C (tgt := 43) d_Model_isAllowed_36 (by decide) (fun c22 => ?_) (fun c22 => ?_)
            · refine j_iconst (pc := 43) C (v := 1) d_Model_isAllowed_43 (by decide) ?_
              refine j_bipush (pc := 44) C (v := 20) d_Model_isAllowed_44 (by decide) ?_
              refine j_callVi (pc := 46) C (c_M_areBoards l D y mo ma t1 i2 i3 i4 i5 i6 i7 i8 i42 i49 i51 i53 i54 i59 i61 i64 i66 t67 i76 i78 g46 g62 j 1 20 hG hj) kw_Model_424 kv_Model_areBoards 0 10 rfl rfl ⟨by decide, by decide⟩ ⟨by decide, by decide⟩ (wr := []) [0, 1, 2] [] rfl rfl (by decide) (by decide) (by decide) (As := [.int (nI j), .int 1, .int 20]) (rest := []) rfl (nb rfl) rfl d_Model_isAllowed_46 (fun r23 _ hr23 => ?_)
              have xh24 := hr23
              refine j_ws (ws' := [MB mo ma (nI t1) i2 i3 i4 i5 i6 i7 i8 i42 i49 i51 i53 i54 i59 i61 i64 i66 (nI t67) i76 i78, (ma 46, .inl (y 0, 108, .inl g46)), (ma 62, .inl (y 0, 63, .inl g62))]) rfl ?_
              exact j_iret (pc := 49) C hr (b01 xh24) () xh24 [0, 1, 2] rfl (by decide) (by decide) (by decide) d_Model_isAllowed_49
            · refine j_iconst (pc := 39) C (v := 2) d_Model_isAllowed_39 (by decide) ?_
              refine j_goto (pc := 40) C (tgt := 44) d_Model_isAllowed_40 (by decide) ?_
              refine j_bipush (pc := 44) C (v := 20) d_Model_isAllowed_44 (by decide) ?_
              refine j_callVi (pc := 46) C (c_M_areBoards l D y mo ma t1 i2 i3 i4 i5 i6 i7 i8 i42 i49 i51 i53 i54 i59 i61 i64 i66 t67 i76 i78 g46 g62 j 2 20 hG hj) kw_Model_424 kv_Model_areBoards 0 10 rfl rfl ⟨by decide, by decide⟩ ⟨by decide, by decide⟩ (wr := []) [0, 1, 2] [] rfl rfl (by decide) (by decide) (by decide) (As := [.int (nI j), .int 2, .int 20]) (rest := []) rfl (nb rfl) rfl d_Model_isAllowed_46 (fun r25 _ hr25 => ?_)
              have xh26 := hr25
              refine j_ws (ws' := [MB mo ma (nI t1) i2 i3 i4 i5 i6 i7 i8 i42 i49 i51 i53 i54 i59 i61 i64 i66 (nI t67) i76 i78, (ma 46, .inl (y 0, 108, .inl g46)), (ma 62, .inl (y 0, 63, .inl g62))]) rfl ?_
              exact j_iret (pc := 49) C hr (b01 xh26) () xh26 [0, 1, 2] rfl (by decide) (by decide) (by decide) d_Model_isAllowed_49
        · refine j_iconst (pc := 25) C (v := 0) d_Model_isAllowed_25 (by decide) ?_
          exact j_iret (pc := 26) C hr (by decide) () (by decide) [0, 1, 2] rfl (by decide) (by decide) (by decide) d_Model_isAllowed_26
  · refine j_iconst (pc := 4) C (v := 1) d_Model_isAllowed_4 (by decide) ?_
    exact j_iret (pc := 5) C hr (by decide) () (by decide) [0, 1, 2] rfl (by decide) (by decide) (by decide) d_Model_isAllowed_5
theorem d_Model_flowOf_0 : decode prog_13_method_62_code 0 = .ok (.bipush 54, 2) := by decide +kernel
theorem d_Model_flowOf_2 : decode prog_13_method_62_code 2 = .ok (.bipush 6, 2) := by decide +kernel
theorem d_Model_flowOf_4 : decode prog_13_method_62_code 4 = .ok (.iload_n 1, 1) := by decide +kernel
theorem d_Model_flowOf_5 : decode prog_13_method_62_code 5 = .ok (.imul, 1) := by decide +kernel
theorem d_Model_flowOf_6 : decode prog_13_method_62_code 6 = .ok (.iadd, 1) := by decide +kernel
theorem d_Model_flowOf_7 : decode prog_13_method_62_code 7 = .ok (.istore 4, 2) := by decide +kernel
theorem d_Model_flowOf_9 : decode prog_13_method_62_code 9 = .ok (.iload_n 2, 1) := by decide +kernel
theorem d_Model_flowOf_10 : decode prog_13_method_62_code 10 = .ok (.aload_n 0, 1) := by decide +kernel
theorem d_Model_flowOf_11 : decode prog_13_method_62_code 11 = .ok (.iload_n 1, 1) := by decide +kernel
theorem d_Model_flowOf_12 : decode prog_13_method_62_code 12 = .ok (.invokevirtual 421, 3) := by decide +kernel
theorem d_Model_flowOf_15 : decode prog_13_method_62_code 15 = .ok (.if_icmp .le 13, 3) := by decide +kernel
theorem d_Model_flowOf_28 : decode prog_13_method_62_code 28 = .ok (.iconst 0, 1) := by decide +kernel
theorem d_Model_flowOf_29 : decode prog_13_method_62_code 29 = .ok (.istore 5, 2) := by decide +kernel
theorem d_Model_flowOf_31 : decode prog_13_method_62_code 31 = .ok (.iload 5, 2) := by decide +kernel
theorem d_Model_flowOf_33 : decode prog_13_method_62_code 33 = .ok (.aload_n 0, 1) := by decide +kernel
theorem d_Model_flowOf_34 : decode prog_13_method_62_code 34 = .ok (.getfield 127, 3) := by decide +kernel
theorem d_Model_flowOf_37 : decode prog_13_method_62_code 37 = .ok (.iload 4, 2) := by decide +kernel
theorem d_Model_flowOf_39 : decode prog_13_method_62_code 39 = .ok (.iconst 4, 1) := by decide +kernel
theorem d_Model_flowOf_40 : decode prog_13_method_62_code 40 = .ok (.iadd, 1) := by decide +kernel
theorem d_Model_flowOf_41 : decode prog_13_method_62_code 41 = .ok (.iaload, 1) := by decide +kernel
theorem d_Model_flowOf_42 : decode prog_13_method_62_code 42 = .ok (.imul, 1) := by decide +kernel
theorem d_Model_flowOf_43 : decode prog_13_method_62_code 43 = .ok (.istore 6, 2) := by decide +kernel
theorem d_Model_flowOf_45 : decode prog_13_method_62_code 45 = .ok (.aload_n 0, 1) := by decide +kernel
theorem d_Model_flowOf_46 : decode prog_13_method_62_code 46 = .ok (.getfield 127, 3) := by decide +kernel
theorem d_Model_flowOf_49 : decode prog_13_method_62_code 49 = .ok (.iload 4, 2) := by decide +kernel
theorem d_Model_flowOf_51 : decode prog_13_method_62_code 51 = .ok (.iaload, 1) := by decide +kernel
theorem d_Model_flowOf_52 : decode prog_13_method_62_code 52 = .ok (.iconst 1, 1) := by decide +kernel
theorem d_Model_flowOf_53 : decode prog_13_method_62_code 53 = .ok (.if_icmp .ne 29, 3) := by decide +kernel
theorem d_Model_flowOf_82 : decode prog_13_method_62_code 82 = .ok (.aload_n 0, 1) := by decide +kernel
theorem d_Model_flowOf_83 : decode prog_13_method_62_code 83 = .ok (.getfield 127, 3) := by decide +kernel
theorem d_Model_flowOf_86 : decode prog_13_method_62_code 86 = .ok (.iload 4, 2) := by decide +kernel
theorem d_Model_flowOf_88 : decode prog_13_method_62_code 88 = .ok (.iaload, 1) := by decide +kernel
theorem d_Model_flowOf_89 : decode prog_13_method_62_code 89 = .ok (.iconst 2, 1) := by decide +kernel
theorem d_Model_flowOf_90 : decode prog_13_method_62_code 90 = .ok (.if_icmp .ne 37, 3) := by decide +kernel
theorem d_Model_flowOf_127 : decode prog_13_method_62_code 127 = .ok (.aload_n 0, 1) := by decide +kernel
theorem d_Model_flowOf_128 : decode prog_13_method_62_code 128 = .ok (.getfield 127, 3) := by decide +kernel
theorem d_Model_flowOf_131 : decode prog_13_method_62_code 131 = .ok (.iload 4, 2) := by decide +kernel
theorem d_Model_flowOf_133 : decode prog_13_method_62_code 133 = .ok (.iaload, 1) := by decide +kernel
theorem d_Model_flowOf_134 : decode prog_13_method_62_code 134 = .ok (.iconst 3, 1) := by decide +kernel
theorem d_Model_flowOf_135 : decode prog_13_method_62_code 135 = .ok (.if_icmp .ne 39, 3) := by decide +kernel
theorem d_Model_flowOf_174 : decode prog_13_method_62_code 174 = .ok (.iload 6, 2) := by decide +kernel
theorem d_Model_flowOf_176 : decode prog_13_method_62_code 176 = .ok (.iload_n 3, 1) := by decide +kernel
theorem d_Model_flowOf_177 : decode prog_13_method_62_code 177 = .ok (.if_icmp .ge 8, 3) := by decide +kernel
theorem d_Model_flowOf_185 : decode prog_13_method_62_code 185 = .ok (.iload_n 3, 1) := by decide +kernel
theorem d_Model_flowOf_186 : decode prog_13_method_62_code 186 = .ok (.ireturn, 1) := by decide +kernel
theorem d_Model_flowOf_180 : decode prog_13_method_62_code 180 = .ok (.iload 6, 2) := by decide +kernel
theorem d_Model_flowOf_182 : decode prog_13_method_62_code 182 = .ok (.goto 4, 3) := by decide +kernel
theorem d_Model_flowOf_138 : decode prog_13_method_62_code 138 = .ok (.aload_n 0, 1) := by decide +kernel
theorem d_Model_flowOf_139 : decode prog_13_method_62_code 139 = .ok (.getfield 158, 3) := by decide +kernel
theorem d_Model_flowOf_142 : decode prog_13_method_62_code 142 = .ok (.iconst 0, 1) := by decide +kernel
theorem d_Model_flowOf_143 : decode prog_13_method_62_code 143 = .ok (.iaload, 1) := by decide +kernel
theorem d_Model_flowOf_144 : decode prog_13_method_62_code 144 = .ok (.i2l, 1) := by decide +kernel
theorem d_Model_flowOf_145 : decode prog_13_method_62_code 145 = .ok (.aload_n 0, 1) := by decide +kernel
theorem d_Model_flowOf_146 : decode prog_13_method_62_code 146 = .ok (.getfield 127, 3) := by decide +kernel
theorem d_Model_flowOf_149 : decode prog_13_method_62_code 149 = .ok (.iload 4, 2) := by decide +kernel
theorem d_Model_flowOf_151 : decode prog_13_method_62_code 151 = .ok (.iconst 1, 1) := by decide +kernel
theorem d_Model_flowOf_152 : decode prog_13_method_62_code 152 = .ok (.iadd, 1) := by decide +kernel
theorem d_Model_flowOf_153 : decode prog_13_method_62_code 153 = .ok (.iaload, 1) := by decide +kernel
theorem d_Model_flowOf_154 : decode prog_13_method_62_code 154 = .ok (.i2l, 1) := by decide +kernel
theorem d_Model_flowOf_155 : decode prog_13_method_62_code 155 = .ok (.aload_n 0, 1) := by decide +kernel
theorem d_Model_flowOf_156 : decode prog_13_method_62_code 156 = .ok (.getfield 127, 3) := by decide +kernel
theorem d_Model_flowOf_159 : decode prog_13_method_62_code 159 = .ok (.iload 4, 2) := by decide +kernel
theorem d_Model_flowOf_161 : decode prog_13_method_62_code 161 = .ok (.iconst 2, 1) := by decide +kernel
theorem d_Model_flowOf_162 : decode prog_13_method_62_code 162 = .ok (.iadd, 1) := by decide +kernel
theorem d_Model_flowOf_163 : decode prog_13_method_62_code 163 = .ok (.iaload, 1) := by decide +kernel
theorem d_Model_flowOf_164 : decode prog_13_method_62_code 164 = .ok (.i2l, 1) := by decide +kernel
theorem d_Model_flowOf_165 : decode prog_13_method_62_code 165 = .ok (.invokestatic 240, 3) := by decide +kernel
theorem d_Model_flowOf_168 : decode prog_13_method_62_code 168 = .ok (.ifCond .eq 6, 3) := by decide +kernel
theorem d_Model_flowOf_171 : decode prog_13_method_62_code 171 = .ok (.iconst 0, 1) := by decide +kernel
theorem d_Model_flowOf_172 : decode prog_13_method_62_code 172 = .ok (.istore 6, 2) := by decide +kernel
theorem d_Model_flowOf_93 : decode prog_13_method_62_code 93 = .ok (.iload 5, 2) := by decide +kernel
theorem d_Model_flowOf_95 : decode prog_13_method_62_code 95 = .ok (.aload_n 0, 1) := by decide +kernel
theorem d_Model_flowOf_96 : decode prog_13_method_62_code 96 = .ok (.getfield 127, 3) := by decide +kernel
theorem d_Model_flowOf_99 : decode prog_13_method_62_code 99 = .ok (.iload 4, 2) := by decide +kernel
theorem d_Model_flowOf_101 : decode prog_13_method_62_code 101 = .ok (.iconst 1, 1) := by decide +kernel
theorem d_Model_flowOf_102 : decode prog_13_method_62_code 102 = .ok (.iadd, 1) := by decide +kernel
theorem d_Model_flowOf_103 : decode prog_13_method_62_code 103 = .ok (.iaload, 1) := by decide +kernel
theorem d_Model_flowOf_104 : decode prog_13_method_62_code 104 = .ok (.idiv, 1) := by decide +kernel
theorem d_Model_flowOf_105 : decode prog_13_method_62_code 105 = .ok (.aload_n 0, 1) := by decide +kernel
theorem d_Model_flowOf_106 : decode prog_13_method_62_code 106 = .ok (.getfield 127, 3) := by decide +kernel
theorem d_Model_flowOf_109 : decode prog_13_method_62_code 109 = .ok (.iload 4, 2) := by decide +kernel
theorem d_Model_flowOf_111 : decode prog_13_method_62_code 111 = .ok (.iconst 1, 1) := by decide +kernel
theorem d_Model_flowOf_112 : decode prog_13_method_62_code 112 = .ok (.iadd, 1) := by decide +kernel
theorem d_Model_flowOf_113 : decode prog_13_method_62_code 113 = .ok (.iaload, 1) := by decide +kernel
theorem d_Model_flowOf_114 : decode prog_13_method_62_code 114 = .ok (.imul, 1) := by decide +kernel
theorem d_Model_flowOf_115 : decode prog_13_method_62_code 115 = .ok (.aload_n 0, 1) := by decide +kernel
theorem d_Model_flowOf_116 : decode prog_13_method_62_code 116 = .ok (.getfield 127, 3) := by decide +kernel
theorem d_Model_flowOf_119 : decode prog_13_method_62_code 119 = .ok (.iload 4, 2) := by decide +kernel
theorem d_Model_flowOf_121 : decode prog_13_method_62_code 121 = .ok (.iconst 4, 1) := by decide +kernel
theorem d_Model_flowOf_122 : decode prog_13_method_62_code 122 = .ok (.iadd, 1) := by decide +kernel
theorem d_Model_flowOf_123 : decode prog_13_method_62_code 123 = .ok (.iaload, 1) := by decide +kernel
theorem d_Model_flowOf_124 : decode prog_13_method_62_code 124 = .ok (.imul, 1) := by decide +kernel
theorem d_Model_flowOf_125 : decode prog_13_method_62_code 125 = .ok (.istore 6, 2) := by decide +kernel
theorem d_Model_flowOf_56 : decode prog_13_method_62_code 56 = .ok (.aload_n 0, 1) := by decide +kernel
theorem d_Model_flowOf_57 : decode prog_13_method_62_code 57 = .ok (.iload_n 1, 1) := by decide +kernel
theorem d_Model_flowOf_58 : decode prog_13_method_62_code 58 = .ok (.invokevirtual 421, 3) := by decide +kernel
theorem d_Model_flowOf_61 : decode prog_13_method_62_code 61 = .ok (.ifCond .le 21, 3) := by decide +kernel
theorem d_Model_flowOf_64 : decode prog_13_method_62_code 64 = .ok (.iload_n 2, 1) := by decide +kernel
theorem d_Model_flowOf_65 : decode prog_13_method_62_code 65 = .ok (.ifCond .le 17, 3) := by decide +kernel
theorem d_Model_flowOf_68 : decode prog_13_method_62_code 68 = .ok (.iload 6, 2) := by decide +kernel
theorem d_Model_flowOf_70 : decode prog_13_method_62_code 70 = .ok (.aload_n 0, 1) := by decide +kernel
theorem d_Model_flowOf_71 : decode prog_13_method_62_code 71 = .ok (.getfield 127, 3) := by decide +kernel
theorem d_Model_flowOf_74 : decode prog_13_method_62_code 74 = .ok (.iload 4, 2) := by decide +kernel
theorem d_Model_flowOf_76 : decode prog_13_method_62_code 76 = .ok (.iconst 1, 1) := by decide +kernel
theorem d_Model_flowOf_77 : decode prog_13_method_62_code 77 = .ok (.iadd, 1) := by decide +kernel
theorem d_Model_flowOf_78 : decode prog_13_method_62_code 78 = .ok (.iaload, 1) := by decide +kernel
theorem d_Model_flowOf_79 : decode prog_13_method_62_code 79 = .ok (.iadd, 1) := by decide +kernel
theorem d_Model_flowOf_80 : decode prog_13_method_62_code 80 = .ok (.istore 6, 2) := by decide +kernel
theorem d_Model_flowOf_18 : decode prog_13_method_62_code 18 = .ok (.iload_n 2, 1) := by decide +kernel
theorem d_Model_flowOf_19 : decode prog_13_method_62_code 19 = .ok (.aload_n 0, 1) := by decide +kernel
theorem d_Model_flowOf_20 : decode prog_13_method_62_code 20 = .ok (.iload_n 1, 1) := by decide +kernel
theorem d_Model_flowOf_21 : decode prog_13_method_62_code 21 = .ok (.invokevirtual 421, 3) := by decide +kernel
theorem d_Model_flowOf_24 : decode prog_13_method_62_code 24 = .ok (.isub, 1) := by decide +kernel
theorem d_Model_flowOf_25 : decode prog_13_method_62_code 25 = .ok (.goto 4, 3) := by decide +kernel
set_option maxHeartbeats 4000000 in
set_option maxRecDepth 100000 in
theorem c_M_flowOf (l : Launch) (D : va_G) (y : Nat → ClassId) (mo : Nat) (ma : Nat → Nat) (t1 : Nat) (i2 : Int32) (i3 : Int32) (i4 : Int32) (i5 : Int32) (i6 : Int32) (i7 : Int32) (i8 : Int32) (i42 : Int32) (i49 : Int32) (i51 : Int32) (i53 : Int32) (i54 : Int32) (i59 : Int32) (i61 : Int32) (i64 : Int32) (i66 : Int32) (t67 : Nat) (i76 : Int64) (i78 : Int32) (g46 : Nat → Int32) (g62 : Nat → Int32) (j : Nat) (v1 : Int32) (v2 : Int32) (hS : ∀ j, j < 9 → g46 (54 + 6 * j) = 2 → ¬ g46 (54 + 6 * j + 1) = 0) (hj : j < 9) : CT l D y ⟨"NineBoardsModel", "flowOf", "(III)I"⟩ prog_13_method_62_code 7 (some .int) ({ frames := 1, cells := 0, slots := 0, locals := 25 } : Room) [.ref mo, .int (nI j), .int v1, .int v2] [MB mo ma (nI t1) i2 i3 i4 i5 i6 i7 i8 i42 i49 i51 i53 i54 i59 i61 i64 i66 (nI t67) i76 i78, (ma 46, .inl (y 0, 108, .inl g46)), (ma 62, .inl (y 0, 63, .inl g62))] (QI D [MB mo ma (nI t1) i2 i3 i4 i5 i6 i7 i8 i42 i49 i51 i53 i54 i59 i61 i64 i66 (nI t67) i76 i78, (ma 46, .inl (y 0, 108, .inl g46)), (ma 62, .inl (y 0, 63, .inl g62))] (fun (r : Int32) (u : Unit) => True) (fun _ => [MB mo ma (nI t1) i2 i3 i4 i5 i6 i7 i8 i42 i49 i51 i53 i54 i59 i61 i64 i66 (nI t67) i76 i78, (ma 46, .inl (y 0, 108, .inl g46)), (ma 62, .inl (y 0, 63, .inl g62))])) := by
  refine CT.of (by decide) (nb rfl) ?_
  intro p e s m args below meth c C hr
  refine j_lv (lv' := [(0, .ref mo), (1, .int (nI j)), (2, .int v1), (3, .int v2)]) rfl ?_
  refine j_bipush (pc := 0) C (v := 54) d_Model_flowOf_0 (by decide) ?_
  refine j_bipush (pc := 2) C (v := 6) d_Model_flowOf_2 (by decide) ?_
  refine j_iload_n (pc := 4) C d_Model_flowOf_4 rfl 1 rfl ?_
  refine j_imul (pc := 5) C (v := nI (6 * j)) d_Model_flowOf_5 (pk_mul _ _) ?_
  refine j_iadd (pc := 6) C (v := nI (54 + (6 * j))) d_Model_flowOf_6 (nI_add _ _) ?_
  refine j_istore (pc := 7) C (lv' := [(4, .int (nI (54 + (6 * j)))), (0, .ref mo), (1, .int (nI j)), (2, .int v1), (3, .int v2)]) d_Model_flowOf_7 (by decide) rfl ?_
  refine j_iload_n (pc := 9) C d_Model_flowOf_9 rfl 3 rfl ?_
  refine j_aload_n (pc := 10) C d_Model_flowOf_10 rfl 1 rfl ?_
  refine j_iload_n (pc := 11) C d_Model_flowOf_11 rfl 2 rfl ?_
  refine j_callVi (pc := 12) C (c_M_boards l D y mo ma t1 i2 i3 i4 i5 i6 i7 i8 i42 i49 i51 i53 i54 i59 i61 i64 i66 t67 i76 i78 g62 j hj) kw_Model_421 kv_Model_boards 0 10 rfl rfl ⟨by decide, by decide⟩ ⟨by decide, by decide⟩ (wr := [(ma 46, .inl (y 0, 108, .inl g46))]) [0, 2] [1] rfl rfl (by decide) (by decide) (by decide) (As := [.int (nI j)]) (rest := [.int v1]) rfl (nb rfl) rfl d_Model_flowOf_12 (fun r1 _ hr1 => ?_)
  refine j_ws (ws' := [(ma 46, .inl (y 0, 108, .inl g46)), MB mo ma (nI t1) i2 i3 i4 i5 i6 i7 i8 i42 i49 i51 i53 i54 i59 i61 i64 i66 (nI t67) i76 i78, (ma 62, .inl (y 0, 63, .inl g62))]) rfl ?_
  refine j_icmp_le (pc := 15) C (tgt := 28) d_Model_flowOf_15 (by decide) (fun c2 => ?_) (fun c2 => ?_)
  · refine j_iconst (pc := 28) C (v := 0) d_Model_flowOf_28 (by decide) ?_
    refine j_istore (pc := 29) C (lv' := [(5, .int 0), (4, .int (nI (54 + (6 * j)))), (0, .ref mo), (1, .int (nI j)), (2, .int v1), (3, .int v2)]) d_Model_flowOf_29 (by decide) rfl ?_
    refine j_iload (pc := 31) C d_Model_flowOf_31 0 rfl ?_
    refine j_aload_n (pc := 33) C d_Model_flowOf_33 rfl 2 rfl ?_
    refine j_get (pc := 34) C gf_Model_127 1 rfl rfl d_Model_flowOf_34 ?_
    refine j_iload (pc := 37) C d_Model_flowOf_37 1 rfl ?_
    refine j_iconst (pc := 39) C (v := 4) d_Model_flowOf_39 (by decide) ?_
    refine j_iadd (pc := 40) C (v := nI ((54 + (6 * j)) + 4)) d_Model_flowOf_40 (nI_add _ _) ?_
    refine j_iald (pc := 41) C 0 rfl (v := g46 ((54 + (6 * j)) + 4)) (vp_in_nI (by omega) (by decide)) (by rw [nI_clamp (by omega)]) d_Model_flowOf_41 ?_
    refine j_imul (pc := 42) C (v := 0 * (g46 ((54 + (6 * j)) + 4))) d_Model_flowOf_42 rfl ?_
    refine j_anyI (fun v3 => ?_)
    refine j_istore (pc := 43) C (lv' := [(6, .int v3), (5, .int 0), (4, .int (nI (54 + (6 * j)))), (0, .ref mo), (1, .int (nI j)), (2, .int v1), (3, .int v2)]) d_Model_flowOf_43 (by decide) rfl ?_
    refine j_aload_n (pc := 45) C d_Model_flowOf_45 rfl 3 rfl ?_
    refine j_get (pc := 46) C gf_Model_127 1 rfl rfl d_Model_flowOf_46 ?_
    refine j_iload (pc := 49) C d_Model_flowOf_49 2 rfl ?_
    refine j_iald (pc := 51) C 0 rfl (v := g46 (54 + (6 * j))) (vp_in_nI (by omega) (by decide)) (by rw [nI_clamp (by omega)]) d_Model_flowOf_51 ?_
    refine j_iconst (pc := 52) C (v := 1) d_Model_flowOf_52 (by decide) ?_
    refine j_icmp_ne (pc := 53) C (tgt := 82) d_Model_flowOf_53 (by decide) (fun c4 => ?_) (fun c4 => ?_)
    · refine j_aload_n (pc := 82) C d_Model_flowOf_82 rfl 3 rfl ?_
      refine j_get (pc := 83) C gf_Model_127 1 rfl rfl d_Model_flowOf_83 ?_
      refine j_iload (pc := 86) C d_Model_flowOf_86 2 rfl ?_
      refine j_iald (pc := 88) C 0 rfl (v := g46 (54 + (6 * j))) (vp_in_nI (by omega) (by decide)) (by rw [nI_clamp (by omega)]) d_Model_flowOf_88 ?_
      refine j_iconst (pc := 89) C (v := 2) d_Model_flowOf_89 (by decide) ?_
      refine j_icmp_ne (pc := 90) C (tgt := 127) d_Model_flowOf_90 (by decide) (fun c5 => ?_) (fun c5 => ?_)
      · refine j_aload_n (pc := 127) C d_Model_flowOf_127 rfl 3 rfl ?_
        refine j_get (pc := 128) C gf_Model_127 1 rfl rfl d_Model_flowOf_128 ?_
        refine j_iload (pc := 131) C d_Model_flowOf_131 2 rfl ?_
        refine j_iald (pc := 133) C 0 rfl (v := g46 (54 + (6 * j))) (vp_in_nI (by omega) (by decide)) (by rw [nI_clamp (by omega)]) d_Model_flowOf_133 ?_
        refine j_iconst (pc := 134) C (v := 3) d_Model_flowOf_134 (by decide) ?_
        refine j_icmp_ne (pc := 135) C (tgt := 174) d_Model_flowOf_135 (by decide) (fun c6 => ?_) (fun c6 => ?_)
        · refine j_iload (pc := 174) C d_Model_flowOf_174 0 rfl ?_
          refine j_iload_n (pc := 176) C d_Model_flowOf_176 rfl 6 rfl ?_
          refine j_icmp_ge (pc := 177) C (tgt := 185) d_Model_flowOf_177 (by decide) (fun c7 => ?_) (fun c7 => ?_)
          · refine j_iload_n (pc := 185) C d_Model_flowOf_185 rfl 6 rfl ?_
            exact j_iret (pc := 186) C hr rfl () trivial [1, 0, 2] rfl (by decide) (by decide) (by decide) d_Model_flowOf_186
          · refine j_iload (pc := 180) C d_Model_flowOf_180 0 rfl ?_
            refine j_goto (pc := 182) C (tgt := 186) d_Model_flowOf_182 (by decide) ?_
            exact j_iret (pc := 186) C hr rfl () trivial [1, 0, 2] rfl (by decide) (by decide) (by decide) d_Model_flowOf_186
        · refine j_aload_n (pc := 138) C d_Model_flowOf_138 rfl 3 rfl ?_
          refine j_get (pc := 139) C gf_Model_158 1 rfl rfl d_Model_flowOf_139 ?_
          refine j_iconst (pc := 142) C (v := 0) d_Model_flowOf_142 (by decide) ?_
          refine j_iald (pc := 143) C 2 rfl (v := g62 0) (vin (by decide)) rfl d_Model_flowOf_143 ?_
          refine j_i2l (pc := 144) C (v := (g62 0).toInt64) d_Model_flowOf_144 rfl ?_
          refine j_aload_n (pc := 145) C d_Model_flowOf_145 rfl 3 rfl ?_
          refine j_get (pc := 146) C gf_Model_127 1 rfl rfl d_Model_flowOf_146 ?_
          refine j_iload (pc := 149) C d_Model_flowOf_149 2 rfl ?_
          refine j_iconst (pc := 151) C (v := 1) d_Model_flowOf_151 (by decide) ?_
          refine j_iadd (pc := 152) C (v := nI ((54 + (6 * j)) + 1)) d_Model_flowOf_152 (nI_add _ _) ?_
          refine j_iald (pc := 153) C 0 rfl (v := g46 ((54 + (6 * j)) + 1)) (vp_in_nI (by omega) (by decide)) (by rw [nI_clamp (by omega)]) d_Model_flowOf_153 ?_
          refine j_i2l (pc := 154) C (v := (g46 ((54 + (6 * j)) + 1)).toInt64) d_Model_flowOf_154 rfl ?_
          refine j_aload_n (pc := 155) C d_Model_flowOf_155 rfl 3 rfl ?_
          refine j_get (pc := 156) C gf_Model_127 1 rfl rfl d_Model_flowOf_156 ?_
          refine j_iload (pc := 159) C d_Model_flowOf_159 2 rfl ?_
          refine j_iconst (pc := 161) C (v := 2) d_Model_flowOf_161 (by decide) ?_
          refine j_iadd (pc := 162) C (v := nI ((54 + (6 * j)) + 2)) d_Model_flowOf_162 (nI_add _ _) ?_
          refine j_iald (pc := 163) C 0 rfl (v := g46 ((54 + (6 * j)) + 2)) (vp_in_nI (by omega) (by decide)) (by rw [nI_clamp (by omega)]) d_Model_flowOf_163 ?_
          refine j_i2l (pc := 164) C (v := (g46 ((54 + (6 * j)) + 2)).toInt64) d_Model_flowOf_164 rfl ?_
          refine j_callSi (pc := 165) C (c_isIn_any l D y ((g62 0).toInt64) ((g46 ((54 + (6 * j)) + 1)).toInt64) ((g46 ((54 + (6 * j)) + 2)).toInt64)) kw_Model_240 ks_Model_isIn ⟨by decide, by decide⟩ ⟨by decide, by decide⟩ (wr := [(ma 46, .inl (y 0, 108, .inl g46)), MB mo ma (nI t1) i2 i3 i4 i5 i6 i7 i8 i42 i49 i51 i53 i54 i59 i61 i64 i66 (nI t67) i76 i78, (ma 62, .inl (y 0, 63, .inl g62))]) [] [0, 1, 2] rfl rfl (by decide) (by decide) (by decide) (As := [.long ((g62 0).toInt64), .long ((g46 ((54 + (6 * j)) + 1)).toInt64), .long ((g46 ((54 + (6 * j)) + 2)).toInt64)]) (rest := []) rfl (nb rfl) rfl d_Model_flowOf_165 (fun r8 _ hr8 => ?_)
          have xh9 := hr8
          refine j_ws (ws' := [(ma 46, .inl (y 0, 108, .inl g46)), MB mo ma (nI t1) i2 i3 i4 i5 i6 i7 i8 i42 i49 i51 i53 i54 i59 i61 i64 i66 (nI t67) i76 i78, (ma 62, .inl (y 0, 63, .inl g62))]) rfl ?_
          refine j_if_eq (pc := 168) C (tgt := 174) d_Model_flowOf_168 (by decide) (fun c10 => ?_) (fun c10 => ?_)
          · refine j_iload (pc := 174) C d_Model_flowOf_174 0 rfl ?_
            refine j_iload_n (pc := 176) C d_Model_flowOf_176 rfl 6 rfl ?_
            refine j_icmp_ge (pc := 177) C (tgt := 185) d_Model_flowOf_177 (by decide) (fun c11 => ?_) (fun c11 => ?_)
            · refine j_iload_n (pc := 185) C d_Model_flowOf_185 rfl 6 rfl ?_
              exact j_iret (pc := 186) C hr rfl () trivial [1, 0, 2] rfl (by decide) (by decide) (by decide) d_Model_flowOf_186
            · refine j_iload (pc := 180) C d_Model_flowOf_180 0 rfl ?_
              refine j_goto (pc := 182) C (tgt := 186) d_Model_flowOf_182 (by decide) ?_
              exact j_iret (pc := 186) C hr rfl () trivial [1, 0, 2] rfl (by decide) (by decide) (by decide) d_Model_flowOf_186
          · refine j_iconst (pc := 171) C (v := 0) d_Model_flowOf_171 (by decide) ?_
            refine j_istore (pc := 172) C (lv' := [(6, .int 0), (5, .int 0), (4, .int (nI (54 + (6 * j)))), (0, .ref mo), (1, .int (nI j)), (2, .int v1), (3, .int v2)]) d_Model_flowOf_172 (by decide) rfl ?_
            refine j_iload (pc := 174) C d_Model_flowOf_174 0 rfl ?_
            refine j_iload_n (pc := 176) C d_Model_flowOf_176 rfl 6 rfl ?_
            refine j_icmp_ge (pc := 177) C (tgt := 185) d_Model_flowOf_177 (by decide) (fun c12 => ?_) (fun c12 => ?_)
            · refine j_iload_n (pc := 185) C d_Model_flowOf_185 rfl 6 rfl ?_
              exact j_iret (pc := 186) C hr rfl () trivial [1, 0, 2] rfl (by decide) (by decide) (by decide) d_Model_flowOf_186
            · refine j_iload (pc := 180) C d_Model_flowOf_180 0 rfl ?_
              refine j_goto (pc := 182) C (tgt := 186) d_Model_flowOf_182 (by decide) ?_
              exact j_iret (pc := 186) C hr rfl () trivial [1, 0, 2] rfl (by decide) (by decide) (by decide) d_Model_flowOf_186
      · refine j_iload (pc := 93) C d_Model_flowOf_93 1 rfl ?_
        refine j_aload_n (pc := 95) C d_Model_flowOf_95 rfl 3 rfl ?_
        refine j_get (pc := 96) C gf_Model_127 1 rfl rfl d_Model_flowOf_96 ?_
        refine j_iload (pc := 99) C d_Model_flowOf_99 2 rfl ?_
        refine j_iconst (pc := 101) C (v := 1) d_Model_flowOf_101 (by decide) ?_
        refine j_iadd (pc := 102) C (v := nI ((54 + (6 * j)) + 1)) d_Model_flowOf_102 (nI_add _ _) ?_
        refine j_iald (pc := 103) C 0 rfl (v := g46 ((54 + (6 * j)) + 1)) (vp_in_nI (by omega) (by decide)) (by rw [nI_clamp (by omega)]) d_Model_flowOf_103 ?_
        refine j_idiv (pc := 104) C (v := 0 / (g46 ((54 + (6 * j)) + 1))) d_Model_flowOf_104 (hS j (by omega) c5) rfl ?_
        refine j_aload_n (pc := 105) C d_Model_flowOf_105 rfl 3 rfl ?_
        refine j_get (pc := 106) C gf_Model_127 1 rfl rfl d_Model_flowOf_106 ?_
        refine j_iload (pc := 109) C d_Model_flowOf_109 2 rfl ?_
        refine j_iconst (pc := 111) C (v := 1) d_Model_flowOf_111 (by decide) ?_
        refine j_iadd (pc := 112) C (v := nI ((54 + (6 * j)) + 1)) d_Model_flowOf_112 (nI_add _ _) ?_
        refine j_iald (pc := 113) C 0 rfl (v := g46 ((54 + (6 * j)) + 1)) (vp_in_nI (by omega) (by decide)) (by rw [nI_clamp (by omega)]) d_Model_flowOf_113 ?_
        refine j_imul (pc := 114) C (v := (0 / (g46 ((54 + (6 * j)) + 1))) * (g46 ((54 + (6 * j)) + 1))) d_Model_flowOf_114 rfl ?_
        refine j_anyI (fun v13 => ?_)
        refine j_aload_n (pc := 115) C d_Model_flowOf_115 rfl 3 rfl ?_
        refine j_get (pc := 116) C gf_Model_127 1 rfl rfl d_Model_flowOf_116 ?_
        refine j_iload (pc := 119) C d_Model_flowOf_119 2 rfl ?_
        refine j_iconst (pc := 121) C (v := 4) d_Model_flowOf_121 (by decide) ?_
        refine j_iadd (pc := 122) C (v := nI ((54 + (6 * j)) + 4)) d_Model_flowOf_122 (nI_add _ _) ?_
        refine j_iald (pc := 123) C 0 rfl (v := g46 ((54 + (6 * j)) + 4)) (vp_in_nI (by omega) (by decide)) (by rw [nI_clamp (by omega)]) d_Model_flowOf_123 ?_
        refine j_imul (pc := 124) C (v := v13 * (g46 ((54 + (6 * j)) + 4))) d_Model_flowOf_124 rfl ?_
        refine j_anyI (fun v14 => ?_)
        refine j_istore (pc := 125) C (lv' := [(6, .int v14), (5, .int 0), (4, .int (nI (54 + (6 * j)))), (0, .ref mo), (1, .int (nI j)), (2, .int v1), (3, .int v2)]) d_Model_flowOf_125 (by decide) rfl ?_
        refine j_aload_n (pc := 127) C d_Model_flowOf_127 rfl 3 rfl ?_
        refine j_get (pc := 128) C gf_Model_127 1 rfl rfl d_Model_flowOf_128 ?_
        refine j_iload (pc := 131) C d_Model_flowOf_131 2 rfl ?_
        refine j_iald (pc := 133) C 0 rfl (v := g46 (54 + (6 * j))) (vp_in_nI (by omega) (by decide)) (by rw [nI_clamp (by omega)]) d_Model_flowOf_133 ?_
        refine j_iconst (pc := 134) C (v := 3) d_Model_flowOf_134 (by decide) ?_
        refine j_icmp_ne (pc := 135) C (tgt := 174) d_Model_flowOf_135 (by decide) (fun c15 => ?_) (fun c15 => ?_)
        · refine j_iload (pc := 174) C d_Model_flowOf_174 0 rfl ?_
          refine j_iload_n (pc := 176) C d_Model_flowOf_176 rfl 6 rfl ?_
          refine j_icmp_ge (pc := 177) C (tgt := 185) d_Model_flowOf_177 (by decide) (fun c16 => ?_) (fun c16 => ?_)
          · refine j_iload_n (pc := 185) C d_Model_flowOf_185 rfl 6 rfl ?_
            exact j_iret (pc := 186) C hr rfl () trivial [1, 0, 2] rfl (by decide) (by decide) (by decide) d_Model_flowOf_186
          · refine j_iload (pc := 180) C d_Model_flowOf_180 0 rfl ?_
            refine j_goto (pc := 182) C (tgt := 186) d_Model_flowOf_182 (by decide) ?_
            exact j_iret (pc := 186) C hr rfl () trivial [1, 0, 2] rfl (by decide) (by decide) (by decide) d_Model_flowOf_186
        · refine j_aload_n (pc := 138) C d_Model_flowOf_138 rfl 3 rfl ?_
          refine j_get (pc := 139) C gf_Model_158 1 rfl rfl d_Model_flowOf_139 ?_
          refine j_iconst (pc := 142) C (v := 0) d_Model_flowOf_142 (by decide) ?_
          refine j_iald (pc := 143) C 2 rfl (v := g62 0) (vin (by decide)) rfl d_Model_flowOf_143 ?_
          refine j_i2l (pc := 144) C (v := (g62 0).toInt64) d_Model_flowOf_144 rfl ?_
          refine j_aload_n (pc := 145) C d_Model_flowOf_145 rfl 3 rfl ?_
          refine j_get (pc := 146) C gf_Model_127 1 rfl rfl d_Model_flowOf_146 ?_
          refine j_iload (pc := 149) C d_Model_flowOf_149 2 rfl ?_
          refine j_iconst (pc := 151) C (v := 1) d_Model_flowOf_151 (by decide) ?_
          refine j_iadd (pc := 152) C (v := nI ((54 + (6 * j)) + 1)) d_Model_flowOf_152 (nI_add _ _) ?_
          refine j_iald (pc := 153) C 0 rfl (v := g46 ((54 + (6 * j)) + 1)) (vp_in_nI (by omega) (by decide)) (by rw [nI_clamp (by omega)]) d_Model_flowOf_153 ?_
          refine j_i2l (pc := 154) C (v := (g46 ((54 + (6 * j)) + 1)).toInt64) d_Model_flowOf_154 rfl ?_
          refine j_aload_n (pc := 155) C d_Model_flowOf_155 rfl 3 rfl ?_
          refine j_get (pc := 156) C gf_Model_127 1 rfl rfl d_Model_flowOf_156 ?_
          refine j_iload (pc := 159) C d_Model_flowOf_159 2 rfl ?_
          refine j_iconst (pc := 161) C (v := 2) d_Model_flowOf_161 (by decide) ?_
          refine j_iadd (pc := 162) C (v := nI ((54 + (6 * j)) + 2)) d_Model_flowOf_162 (nI_add _ _) ?_
          refine j_iald (pc := 163) C 0 rfl (v := g46 ((54 + (6 * j)) + 2)) (vp_in_nI (by omega) (by decide)) (by rw [nI_clamp (by omega)]) d_Model_flowOf_163 ?_
          refine j_i2l (pc := 164) C (v := (g46 ((54 + (6 * j)) + 2)).toInt64) d_Model_flowOf_164 rfl ?_
          refine j_callSi (pc := 165) C (c_isIn_any l D y ((g62 0).toInt64) ((g46 ((54 + (6 * j)) + 1)).toInt64) ((g46 ((54 + (6 * j)) + 2)).toInt64)) kw_Model_240 ks_Model_isIn ⟨by decide, by decide⟩ ⟨by decide, by decide⟩ (wr := [(ma 46, .inl (y 0, 108, .inl g46)), MB mo ma (nI t1) i2 i3 i4 i5 i6 i7 i8 i42 i49 i51 i53 i54 i59 i61 i64 i66 (nI t67) i76 i78, (ma 62, .inl (y 0, 63, .inl g62))]) [] [0, 1, 2] rfl rfl (by decide) (by decide) (by decide) (As := [.long ((g62 0).toInt64), .long ((g46 ((54 + (6 * j)) + 1)).toInt64), .long ((g46 ((54 + (6 * j)) + 2)).toInt64)]) (rest := []) rfl (nb rfl) rfl d_Model_flowOf_165 (fun r17 _ hr17 => ?_)
          have xh18 := hr17
          refine j_ws (ws' := [(ma 46, .inl (y 0, 108, .inl g46)), MB mo ma (nI t1) i2 i3 i4 i5 i6 i7 i8 i42 i49 i51 i53 i54 i59 i61 i64 i66 (nI t67) i76 i78, (ma 62, .inl (y 0, 63, .inl g62))]) rfl ?_
          refine j_if_eq (pc := 168) C (tgt := 174) d_Model_flowOf_168 (by decide) (fun c19 => ?_) (fun c19 => ?_)
          · refine j_iload (pc := 174) C d_Model_flowOf_174 0 rfl ?_
            refine j_iload_n (pc := 176) C d_Model_flowOf_176 rfl 6 rfl ?_
            refine j_icmp_ge (pc := 177) C (tgt := 185) d_Model_flowOf_177 (by decide) (fun c20 => ?_) (fun c20 => ?_)
            · refine j_iload_n (pc := 185) C d_Model_flowOf_185 rfl 6 rfl ?_
              exact j_iret (pc := 186) C hr rfl () trivial [1, 0, 2] rfl (by decide) (by decide) (by decide) d_Model_flowOf_186
            · refine j_iload (pc := 180) C d_Model_flowOf_180 0 rfl ?_
              refine j_goto (pc := 182) C (tgt := 186) d_Model_flowOf_182 (by decide) ?_
              exact j_iret (pc := 186) C hr rfl () trivial [1, 0, 2] rfl (by decide) (by decide) (by decide) d_Model_flowOf_186
          · refine j_iconst (pc := 171) C (v := 0) d_Model_flowOf_171 (by decide) ?_
            refine j_istore (pc := 172) C (lv' := [(6, .int 0), (5, .int 0), (4, .int (nI (54 + (6 * j)))), (0, .ref mo), (1, .int (nI j)), (2, .int v1), (3, .int v2)]) d_Model_flowOf_172 (by decide) rfl ?_
            refine j_iload (pc := 174) C d_Model_flowOf_174 0 rfl ?_
            refine j_iload_n (pc := 176) C d_Model_flowOf_176 rfl 6 rfl ?_
            refine j_icmp_ge (pc := 177) C (tgt := 185) d_Model_flowOf_177 (by decide) (fun c21 => ?_) (fun c21 => ?_)
            · refine j_iload_n (pc := 185) C d_Model_flowOf_185 rfl 6 rfl ?_
              exact j_iret (pc := 186) C hr rfl () trivial [1, 0, 2] rfl (by decide) (by decide) (by decide) d_Model_flowOf_186
            · refine j_iload (pc := 180) C d_Model_flowOf_180 0 rfl ?_
              refine j_goto (pc := 182) C (tgt := 186) d_Model_flowOf_182 (by decide) ?_
              exact j_iret (pc := 186) C hr rfl () trivial [1, 0, 2] rfl (by decide) (by decide) (by decide) d_Model_flowOf_186
    · refine j_aload_n (pc := 56) C d_Model_flowOf_56 rfl 3 rfl ?_
      refine j_iload_n (pc := 57) C d_Model_flowOf_57 rfl 4 rfl ?_
      refine j_callVi (pc := 58) C (c_M_boards l D y mo ma t1 i2 i3 i4 i5 i6 i7 i8 i42 i49 i51 i53 i54 i59 i61 i64 i66 t67 i76 i78 g62 j hj) kw_Model_421 kv_Model_boards 0 10 rfl rfl ⟨by decide, by decide⟩ ⟨by decide, by decide⟩ (wr := [(ma 46, .inl (y 0, 108, .inl g46))]) [1, 2] [0] rfl rfl (by decide) (by decide) (by decide) (As := [.int (nI j)]) (rest := []) rfl (nb rfl) rfl d_Model_flowOf_58 (fun r22 _ hr22 => ?_)
      refine j_ws (ws' := [(ma 46, .inl (y 0, 108, .inl g46)), MB mo ma (nI t1) i2 i3 i4 i5 i6 i7 i8 i42 i49 i51 i53 i54 i59 i61 i64 i66 (nI t67) i76 i78, (ma 62, .inl (y 0, 63, .inl g62))]) rfl ?_
      refine j_if_le (pc := 61) C (tgt := 82) d_Model_flowOf_61 (by decide) (fun c23 => ?_) (fun c23 => ?_)
      · refine j_aload_n (pc := 82) C d_Model_flowOf_82 rfl 3 rfl ?_
        refine j_get (pc := 83) C gf_Model_127 1 rfl rfl d_Model_flowOf_83 ?_
        refine j_iload (pc := 86) C d_Model_flowOf_86 2 rfl ?_
        refine j_iald (pc := 88) C 0 rfl (v := g46 (54 + (6 * j))) (vp_in_nI (by omega) (by decide)) (by rw [nI_clamp (by omega)]) d_Model_flowOf_88 ?_
        refine j_iconst (pc := 89) C (v := 2) d_Model_flowOf_89 (by decide) ?_
        refine j_icmp_ne (pc := 90) C (tgt := 127) d_Model_flowOf_90 (by decide) (fun c24 => ?_) (fun c24 => ?_)
        · refine j_aload_n (pc := 127) C d_Model_flowOf_127 rfl 3 rfl ?_
          refine j_get (pc := 128) C gf_Model_127 1 rfl rfl d_Model_flowOf_128 ?_
          refine j_iload (pc := 131) C d_Model_flowOf_131 2 rfl ?_
          refine j_iald (pc := 133) C 0 rfl (v := g46 (54 + (6 * j))) (vp_in_nI (by omega) (by decide)) (by rw [nI_clamp (by omega)]) d_Model_flowOf_133 ?_
          refine j_iconst (pc := 134) C (v := 3) d_Model_flowOf_134 (by decide) ?_
          refine j_icmp_ne (pc := 135) C (tgt := 174) d_Model_flowOf_135 (by decide) (fun c25 => ?_) (fun c25 => ?_)
          · refine j_iload (pc := 174) C d_Model_flowOf_174 0 rfl ?_
            refine j_iload_n (pc := 176) C d_Model_flowOf_176 rfl 6 rfl ?_
            refine j_icmp_ge (pc := 177) C (tgt := 185) d_Model_flowOf_177 (by decide) (fun c26 => ?_) (fun c26 => ?_)
            · refine j_iload_n (pc := 185) C d_Model_flowOf_185 rfl 6 rfl ?_
              exact j_iret (pc := 186) C hr rfl () trivial [1, 0, 2] rfl (by decide) (by decide) (by decide) d_Model_flowOf_186
            · refine j_iload (pc := 180) C d_Model_flowOf_180 0 rfl ?_
              refine j_goto (pc := 182) C (tgt := 186) d_Model_flowOf_182 (by decide) ?_
              exact j_iret (pc := 186) C hr rfl () trivial [1, 0, 2] rfl (by decide) (by decide) (by decide) d_Model_flowOf_186
          · refine j_aload_n (pc := 138) C d_Model_flowOf_138 rfl 3 rfl ?_
            refine j_get (pc := 139) C gf_Model_158 1 rfl rfl d_Model_flowOf_139 ?_
            refine j_iconst (pc := 142) C (v := 0) d_Model_flowOf_142 (by decide) ?_
            refine j_iald (pc := 143) C 2 rfl (v := g62 0) (vin (by decide)) rfl d_Model_flowOf_143 ?_
            refine j_i2l (pc := 144) C (v := (g62 0).toInt64) d_Model_flowOf_144 rfl ?_
            refine j_aload_n (pc := 145) C d_Model_flowOf_145 rfl 3 rfl ?_
            refine j_get (pc := 146) C gf_Model_127 1 rfl rfl d_Model_flowOf_146 ?_
            refine j_iload (pc := 149) C d_Model_flowOf_149 2 rfl ?_
            refine j_iconst (pc := 151) C (v := 1) d_Model_flowOf_151 (by decide) ?_
            refine j_iadd (pc := 152) C (v := nI ((54 + (6 * j)) + 1)) d_Model_flowOf_152 (nI_add _ _) ?_
            refine j_iald (pc := 153) C 0 rfl (v := g46 ((54 + (6 * j)) + 1)) (vp_in_nI (by omega) (by decide)) (by rw [nI_clamp (by omega)]) d_Model_flowOf_153 ?_
            refine j_i2l (pc := 154) C (v := (g46 ((54 + (6 * j)) + 1)).toInt64) d_Model_flowOf_154 rfl ?_
            refine j_aload_n (pc := 155) C d_Model_flowOf_155 rfl 3 rfl ?_
            refine j_get (pc := 156) C gf_Model_127 1 rfl rfl d_Model_flowOf_156 ?_
            refine j_iload (pc := 159) C d_Model_flowOf_159 2 rfl ?_
            refine j_iconst (pc := 161) C (v := 2) d_Model_flowOf_161 (by decide) ?_
            refine j_iadd (pc := 162) C (v := nI ((54 + (6 * j)) + 2)) d_Model_flowOf_162 (nI_add _ _) ?_
            refine j_iald (pc := 163) C 0 rfl (v := g46 ((54 + (6 * j)) + 2)) (vp_in_nI (by omega) (by decide)) (by rw [nI_clamp (by omega)]) d_Model_flowOf_163 ?_
            refine j_i2l (pc := 164) C (v := (g46 ((54 + (6 * j)) + 2)).toInt64) d_Model_flowOf_164 rfl ?_
            refine j_callSi (pc := 165) C (c_isIn_any l D y ((g62 0).toInt64) ((g46 ((54 + (6 * j)) + 1)).toInt64) ((g46 ((54 + (6 * j)) + 2)).toInt64)) kw_Model_240 ks_Model_isIn ⟨by decide, by decide⟩ ⟨by decide, by decide⟩ (wr := [(ma 46, .inl (y 0, 108, .inl g46)), MB mo ma (nI t1) i2 i3 i4 i5 i6 i7 i8 i42 i49 i51 i53 i54 i59 i61 i64 i66 (nI t67) i76 i78, (ma 62, .inl (y 0, 63, .inl g62))]) [] [0, 1, 2] rfl rfl (by decide) (by decide) (by decide) (As := [.long ((g62 0).toInt64), .long ((g46 ((54 + (6 * j)) + 1)).toInt64), .long ((g46 ((54 + (6 * j)) + 2)).toInt64)]) (rest := []) rfl (nb rfl) rfl d_Model_flowOf_165 (fun r27 _ hr27 => ?_)
            have xh28 := hr27
            refine j_ws (ws' := [(ma 46, .inl (y 0, 108, .inl g46)), MB mo ma (nI t1) i2 i3 i4 i5 i6 i7 i8 i42 i49 i51 i53 i54 i59 i61 i64 i66 (nI t67) i76 i78, (ma 62, .inl (y 0, 63, .inl g62))]) rfl ?_
            refine j_if_eq (pc := 168) C (tgt := 174) d_Model_flowOf_168 (by decide) (fun c29 => ?_) (fun c29 => ?_)
            · refine j_iload (pc := 174) C d_Model_flowOf_174 0 rfl ?_
              refine j_iload_n (pc := 176) C d_Model_flowOf_176 rfl 6 rfl ?_
              refine j_icmp_ge (pc := 177) C (tgt := 185) d_Model_flowOf_177 (by decide) (fun c30 => ?_) (fun c30 => ?_)
              · refine j_iload_n (pc := 185) C d_Model_flowOf_185 rfl 6 rfl ?_
                exact j_iret (pc := 186) C hr rfl () trivial [1, 0, 2] rfl (by decide) (by decide) (by decide) d_Model_flowOf_186
              · refine j_iload (pc := 180) C d_Model_flowOf_180 0 rfl ?_
                refine j_goto (pc := 182) C (tgt := 186) d_Model_flowOf_182 (by decide) ?_
                exact j_iret (pc := 186) C hr rfl () trivial [1, 0, 2] rfl (by decide) (by decide) (by decide) d_Model_flowOf_186
            · refine j_iconst (pc := 171) C (v := 0) d_Model_flowOf_171 (by decide) ?_
              refine j_istore (pc := 172) C (lv' := [(6, .int 0), (5, .int 0), (4, .int (nI (54 + (6 * j)))), (0, .ref mo), (1, .int (nI j)), (2, .int v1), (3, .int v2)]) d_Model_flowOf_172 (by decide) rfl ?_
              refine j_iload (pc := 174) C d_Model_flowOf_174 0 rfl ?_
              refine j_iload_n (pc := 176) C d_Model_flowOf_176 rfl 6 rfl ?_
              refine j_icmp_ge (pc := 177) C (tgt := 185) d_Model_flowOf_177 (by decide) (fun c31 => ?_) (fun c31 => ?_)
              · refine j_iload_n (pc := 185) C d_Model_flowOf_185 rfl 6 rfl ?_
                exact j_iret (pc := 186) C hr rfl () trivial [1, 0, 2] rfl (by decide) (by decide) (by decide) d_Model_flowOf_186
              · refine j_iload (pc := 180) C d_Model_flowOf_180 0 rfl ?_
                refine j_goto (pc := 182) C (tgt := 186) d_Model_flowOf_182 (by decide) ?_
                exact j_iret (pc := 186) C hr rfl () trivial [1, 0, 2] rfl (by decide) (by decide) (by decide) d_Model_flowOf_186
        · refine j_iload (pc := 93) C d_Model_flowOf_93 1 rfl ?_
          refine j_aload_n (pc := 95) C d_Model_flowOf_95 rfl 3 rfl ?_
          refine j_get (pc := 96) C gf_Model_127 1 rfl rfl d_Model_flowOf_96 ?_
          refine j_iload (pc := 99) C d_Model_flowOf_99 2 rfl ?_
          refine j_iconst (pc := 101) C (v := 1) d_Model_flowOf_101 (by decide) ?_
          refine j_iadd (pc := 102) C (v := nI ((54 + (6 * j)) + 1)) d_Model_flowOf_102 (nI_add _ _) ?_
          refine j_iald (pc := 103) C 0 rfl (v := g46 ((54 + (6 * j)) + 1)) (vp_in_nI (by omega) (by decide)) (by rw [nI_clamp (by omega)]) d_Model_flowOf_103 ?_
          refine j_idiv (pc := 104) C (v := 0 / (g46 ((54 + (6 * j)) + 1))) d_Model_flowOf_104 (hS j (by omega) c24) rfl ?_
          refine j_aload_n (pc := 105) C d_Model_flowOf_105 rfl 3 rfl ?_
          refine j_get (pc := 106) C gf_Model_127 1 rfl rfl d_Model_flowOf_106 ?_
          refine j_iload (pc := 109) C d_Model_flowOf_109 2 rfl ?_
          refine j_iconst (pc := 111) C (v := 1) d_Model_flowOf_111 (by decide) ?_
          refine j_iadd (pc := 112) C (v := nI ((54 + (6 * j)) + 1)) d_Model_flowOf_112 (nI_add _ _) ?_
          refine j_iald (pc := 113) C 0 rfl (v := g46 ((54 + (6 * j)) + 1)) (vp_in_nI (by omega) (by decide)) (by rw [nI_clamp (by omega)]) d_Model_flowOf_113 ?_
          refine j_imul (pc := 114) C (v := (0 / (g46 ((54 + (6 * j)) + 1))) * (g46 ((54 + (6 * j)) + 1))) d_Model_flowOf_114 rfl ?_
          refine j_anyI (fun v32 => ?_)
          refine j_aload_n (pc := 115) C d_Model_flowOf_115 rfl 3 rfl ?_
          refine j_get (pc := 116) C gf_Model_127 1 rfl rfl d_Model_flowOf_116 ?_
          refine j_iload (pc := 119) C d_Model_flowOf_119 2 rfl ?_
          refine j_iconst (pc := 121) C (v := 4) d_Model_flowOf_121 (by decide) ?_
          refine j_iadd (pc := 122) C (v := nI ((54 + (6 * j)) + 4)) d_Model_flowOf_122 (nI_add _ _) ?_
          refine j_iald (pc := 123) C 0 rfl (v := g46 ((54 + (6 * j)) + 4)) (vp_in_nI (by omega) (by decide)) (by rw [nI_clamp (by omega)]) d_Model_flowOf_123 ?_
          refine j_imul (pc := 124) C (v := v32 * (g46 ((54 + (6 * j)) + 4))) d_Model_flowOf_124 rfl ?_
          refine j_anyI (fun v33 => ?_)
          refine j_istore (pc := 125) C (lv' := [(6, .int v33), (5, .int 0), (4, .int (nI (54 + (6 * j)))), (0, .ref mo), (1, .int (nI j)), (2, .int v1), (3, .int v2)]) d_Model_flowOf_125 (by decide) rfl ?_
          refine j_aload_n (pc := 127) C d_Model_flowOf_127 rfl 3 rfl ?_
          refine j_get (pc := 128) C gf_Model_127 1 rfl rfl d_Model_flowOf_128 ?_
          refine j_iload (pc := 131) C d_Model_flowOf_131 2 rfl ?_
          refine j_iald (pc := 133) C 0 rfl (v := g46 (54 + (6 * j))) (vp_in_nI (by omega) (by decide)) (by rw [nI_clamp (by omega)]) d_Model_flowOf_133 ?_
          refine j_iconst (pc := 134) C (v := 3) d_Model_flowOf_134 (by decide) ?_
          refine j_icmp_ne (pc := 135) C (tgt := 174) d_Model_flowOf_135 (by decide) (fun c34 => ?_) (fun c34 => ?_)
          · refine j_iload (pc := 174) C d_Model_flowOf_174 0 rfl ?_
            refine j_iload_n (pc := 176) C d_Model_flowOf_176 rfl 6 rfl ?_
            refine j_icmp_ge (pc := 177) C (tgt := 185) d_Model_flowOf_177 (by decide) (fun c35 => ?_) (fun c35 => ?_)
            · refine j_iload_n (pc := 185) C d_Model_flowOf_185 rfl 6 rfl ?_
              exact j_iret (pc := 186) C hr rfl () trivial [1, 0, 2] rfl (by decide) (by decide) (by decide) d_Model_flowOf_186
            · refine j_iload (pc := 180) C d_Model_flowOf_180 0 rfl ?_
              refine j_goto (pc := 182) C (tgt := 186) d_Model_flowOf_182 (by decide) ?_
              exact j_iret (pc := 186) C hr rfl () trivial [1, 0, 2] rfl (by decide) (by decide) (by decide) d_Model_flowOf_186
          · refine j_aload_n (pc := 138) C d_Model_flowOf_138 rfl 3 rfl ?_
            refine j_get (pc := 139) C gf_Model_158 1 rfl rfl d_Model_flowOf_139 ?_
            refine j_iconst (pc := 142) C (v := 0) d_Model_flowOf_142 (by decide) ?_
            refine j_iald (pc := 143) C 2 rfl (v := g62 0) (vin (by decide)) rfl d_Model_flowOf_143 ?_
            refine j_i2l (pc := 144) C (v := (g62 0).toInt64) d_Model_flowOf_144 rfl ?_
            refine j_aload_n (pc := 145) C d_Model_flowOf_145 rfl 3 rfl ?_
            refine j_get (pc := 146) C gf_Model_127 1 rfl rfl d_Model_flowOf_146 ?_
            refine j_iload (pc := 149) C d_Model_flowOf_149 2 rfl ?_
            refine j_iconst (pc := 151) C (v := 1) d_Model_flowOf_151 (by decide) ?_
            refine j_iadd (pc := 152) C (v := nI ((54 + (6 * j)) + 1)) d_Model_flowOf_152 (nI_add _ _) ?_
            refine j_iald (pc := 153) C 0 rfl (v := g46 ((54 + (6 * j)) + 1)) (vp_in_nI (by omega) (by decide)) (by rw [nI_clamp (by omega)]) d_Model_flowOf_153 ?_
            refine j_i2l (pc := 154) C (v := (g46 ((54 + (6 * j)) + 1)).toInt64) d_Model_flowOf_154 rfl ?_
            refine j_aload_n (pc := 155) C d_Model_flowOf_155 rfl 3 rfl ?_
            refine j_get (pc := 156) C gf_Model_127 1 rfl rfl d_Model_flowOf_156 ?_
            refine j_iload (pc := 159) C d_Model_flowOf_159 2 rfl ?_
            refine j_iconst (pc := 161) C (v := 2) d_Model_flowOf_161 (by decide) ?_
            refine j_iadd (pc := 162) C (v := nI ((54 + (6 * j)) + 2)) d_Model_flowOf_162 (nI_add _ _) ?_
            refine j_iald (pc := 163) C 0 rfl (v := g46 ((54 + (6 * j)) + 2)) (vp_in_nI (by omega) (by decide)) (by rw [nI_clamp (by omega)]) d_Model_flowOf_163 ?_
            refine j_i2l (pc := 164) C (v := (g46 ((54 + (6 * j)) + 2)).toInt64) d_Model_flowOf_164 rfl ?_
            refine j_callSi (pc := 165) C (c_isIn_any l D y ((g62 0).toInt64) ((g46 ((54 + (6 * j)) + 1)).toInt64) ((g46 ((54 + (6 * j)) + 2)).toInt64)) kw_Model_240 ks_Model_isIn ⟨by decide, by decide⟩ ⟨by decide, by decide⟩ (wr := [(ma 46, .inl (y 0, 108, .inl g46)), MB mo ma (nI t1) i2 i3 i4 i5 i6 i7 i8 i42 i49 i51 i53 i54 i59 i61 i64 i66 (nI t67) i76 i78, (ma 62, .inl (y 0, 63, .inl g62))]) [] [0, 1, 2] rfl rfl (by decide) (by decide) (by decide) (As := [.long ((g62 0).toInt64), .long ((g46 ((54 + (6 * j)) + 1)).toInt64), .long ((g46 ((54 + (6 * j)) + 2)).toInt64)]) (rest := []) rfl (nb rfl) rfl d_Model_flowOf_165 (fun r36 _ hr36 => ?_)
            have xh37 := hr36
            refine j_ws (ws' := [(ma 46, .inl (y 0, 108, .inl g46)), MB mo ma (nI t1) i2 i3 i4 i5 i6 i7 i8 i42 i49 i51 i53 i54 i59 i61 i64 i66 (nI t67) i76 i78, (ma 62, .inl (y 0, 63, .inl g62))]) rfl ?_
            refine j_if_eq (pc := 168) C (tgt := 174) d_Model_flowOf_168 (by decide) (fun c38 => ?_) (fun c38 => ?_)
            · refine j_iload (pc := 174) C d_Model_flowOf_174 0 rfl ?_
              refine j_iload_n (pc := 176) C d_Model_flowOf_176 rfl 6 rfl ?_
              refine j_icmp_ge (pc := 177) C (tgt := 185) d_Model_flowOf_177 (by decide) (fun c39 => ?_) (fun c39 => ?_)
              · refine j_iload_n (pc := 185) C d_Model_flowOf_185 rfl 6 rfl ?_
                exact j_iret (pc := 186) C hr rfl () trivial [1, 0, 2] rfl (by decide) (by decide) (by decide) d_Model_flowOf_186
              · refine j_iload (pc := 180) C d_Model_flowOf_180 0 rfl ?_
                refine j_goto (pc := 182) C (tgt := 186) d_Model_flowOf_182 (by decide) ?_
                exact j_iret (pc := 186) C hr rfl () trivial [1, 0, 2] rfl (by decide) (by decide) (by decide) d_Model_flowOf_186
            · refine j_iconst (pc := 171) C (v := 0) d_Model_flowOf_171 (by decide) ?_
              refine j_istore (pc := 172) C (lv' := [(6, .int 0), (5, .int 0), (4, .int (nI (54 + (6 * j)))), (0, .ref mo), (1, .int (nI j)), (2, .int v1), (3, .int v2)]) d_Model_flowOf_172 (by decide) rfl ?_
              refine j_iload (pc := 174) C d_Model_flowOf_174 0 rfl ?_
              refine j_iload_n (pc := 176) C d_Model_flowOf_176 rfl 6 rfl ?_
              refine j_icmp_ge (pc := 177) C (tgt := 185) d_Model_flowOf_177 (by decide) (fun c40 => ?_) (fun c40 => ?_)
              · refine j_iload_n (pc := 185) C d_Model_flowOf_185 rfl 6 rfl ?_
                exact j_iret (pc := 186) C hr rfl () trivial [1, 0, 2] rfl (by decide) (by decide) (by decide) d_Model_flowOf_186
              · refine j_iload (pc := 180) C d_Model_flowOf_180 0 rfl ?_
                refine j_goto (pc := 182) C (tgt := 186) d_Model_flowOf_182 (by decide) ?_
                exact j_iret (pc := 186) C hr rfl () trivial [1, 0, 2] rfl (by decide) (by decide) (by decide) d_Model_flowOf_186
      · refine j_iload_n (pc := 64) C d_Model_flowOf_64 rfl 5 rfl ?_
        refine j_if_le (pc := 65) C (tgt := 82) d_Model_flowOf_65 (by decide) (fun c41 => ?_) (fun c41 => ?_)
        · refine j_aload_n (pc := 82) C d_Model_flowOf_82 rfl 3 rfl ?_
          refine j_get (pc := 83) C gf_Model_127 1 rfl rfl d_Model_flowOf_83 ?_
          refine j_iload (pc := 86) C d_Model_flowOf_86 2 rfl ?_
          refine j_iald (pc := 88) C 0 rfl (v := g46 (54 + (6 * j))) (vp_in_nI (by omega) (by decide)) (by rw [nI_clamp (by omega)]) d_Model_flowOf_88 ?_
          refine j_iconst (pc := 89) C (v := 2) d_Model_flowOf_89 (by decide) ?_
          refine j_icmp_ne (pc := 90) C (tgt := 127) d_Model_flowOf_90 (by decide) (fun c42 => ?_) (fun c42 => ?_)
          · refine j_aload_n (pc := 127) C d_Model_flowOf_127 rfl 3 rfl ?_
            refine j_get (pc := 128) C gf_Model_127 1 rfl rfl d_Model_flowOf_128 ?_
            refine j_iload (pc := 131) C d_Model_flowOf_131 2 rfl ?_
            refine j_iald (pc := 133) C 0 rfl (v := g46 (54 + (6 * j))) (vp_in_nI (by omega) (by decide)) (by rw [nI_clamp (by omega)]) d_Model_flowOf_133 ?_
            refine j_iconst (pc := 134) C (v := 3) d_Model_flowOf_134 (by decide) ?_
            refine j_icmp_ne (pc := 135) C (tgt := 174) d_Model_flowOf_135 (by decide) (fun c43 => ?_) (fun c43 => ?_)
            · refine j_iload (pc := 174) C d_Model_flowOf_174 0 rfl ?_
              refine j_iload_n (pc := 176) C d_Model_flowOf_176 rfl 6 rfl ?_
              refine j_icmp_ge (pc := 177) C (tgt := 185) d_Model_flowOf_177 (by decide) (fun c44 => ?_) (fun c44 => ?_)
              · refine j_iload_n (pc := 185) C d_Model_flowOf_185 rfl 6 rfl ?_
                exact j_iret (pc := 186) C hr rfl () trivial [1, 0, 2] rfl (by decide) (by decide) (by decide) d_Model_flowOf_186
              · refine j_iload (pc := 180) C d_Model_flowOf_180 0 rfl ?_
                refine j_goto (pc := 182) C (tgt := 186) d_Model_flowOf_182 (by decide) ?_
                exact j_iret (pc := 186) C hr rfl () trivial [1, 0, 2] rfl (by decide) (by decide) (by decide) d_Model_flowOf_186
            · refine j_aload_n (pc := 138) C d_Model_flowOf_138 rfl 3 rfl ?_
              refine j_get (pc := 139) C gf_Model_158 1 rfl rfl d_Model_flowOf_139 ?_
              refine j_iconst (pc := 142) C (v := 0) d_Model_flowOf_142 (by decide) ?_
              refine j_iald (pc := 143) C 2 rfl (v := g62 0) (vin (by decide)) rfl d_Model_flowOf_143 ?_
              refine j_i2l (pc := 144) C (v := (g62 0).toInt64) d_Model_flowOf_144 rfl ?_
              refine j_aload_n (pc := 145) C d_Model_flowOf_145 rfl 3 rfl ?_
              refine j_get (pc := 146) C gf_Model_127 1 rfl rfl d_Model_flowOf_146 ?_
              refine j_iload (pc := 149) C d_Model_flowOf_149 2 rfl ?_
              refine j_iconst (pc := 151) C (v := 1) d_Model_flowOf_151 (by decide) ?_
              refine j_iadd (pc := 152) C (v := nI ((54 + (6 * j)) + 1)) d_Model_flowOf_152 (nI_add _ _) ?_
              refine j_iald (pc := 153) C 0 rfl (v := g46 ((54 + (6 * j)) + 1)) (vp_in_nI (by omega) (by decide)) (by rw [nI_clamp (by omega)]) d_Model_flowOf_153 ?_
              refine j_i2l (pc := 154) C (v := (g46 ((54 + (6 * j)) + 1)).toInt64) d_Model_flowOf_154 rfl ?_
              refine j_aload_n (pc := 155) C d_Model_flowOf_155 rfl 3 rfl ?_
              refine j_get (pc := 156) C gf_Model_127 1 rfl rfl d_Model_flowOf_156 ?_
              refine j_iload (pc := 159) C d_Model_flowOf_159 2 rfl ?_
              refine j_iconst (pc := 161) C (v := 2) d_Model_flowOf_161 (by decide) ?_
              refine j_iadd (pc := 162) C (v := nI ((54 + (6 * j)) + 2)) d_Model_flowOf_162 (nI_add _ _) ?_
              refine j_iald (pc := 163) C 0 rfl (v := g46 ((54 + (6 * j)) + 2)) (vp_in_nI (by omega) (by decide)) (by rw [nI_clamp (by omega)]) d_Model_flowOf_163 ?_
              refine j_i2l (pc := 164) C (v := (g46 ((54 + (6 * j)) + 2)).toInt64) d_Model_flowOf_164 rfl ?_
              refine j_callSi (pc := 165) C (c_isIn_any l D y ((g62 0).toInt64) ((g46 ((54 + (6 * j)) + 1)).toInt64) ((g46 ((54 + (6 * j)) + 2)).toInt64)) kw_Model_240 ks_Model_isIn ⟨by decide, by decide⟩ ⟨by decide, by decide⟩ (wr := [(ma 46, .inl (y 0, 108, .inl g46)), MB mo ma (nI t1) i2 i3 i4 i5 i6 i7 i8 i42 i49 i51 i53 i54 i59 i61 i64 i66 (nI t67) i76 i78, (ma 62, .inl (y 0, 63, .inl g62))]) [] [0, 1, 2] rfl rfl (by decide) (by decide) (by decide) (As := [.long ((g62 0).toInt64), .long ((g46 ((54 + (6 * j)) + 1)).toInt64), .long ((g46 ((54 + (6 * j)) + 2)).toInt64)]) (rest := []) rfl (nb rfl) rfl d_Model_flowOf_165 (fun r45 _ hr45 => ?_)
              have xh46 := hr45
              refine j_ws (ws' := [(ma 46, .inl (y 0, 108, .inl g46)), MB mo ma (nI t1) i2 i3 i4 i5 i6 i7 i8 i42 i49 i51 i53 i54 i59 i61 i64 i66 (nI t67) i76 i78, (ma 62, .inl (y 0, 63, .inl g62))]) rfl ?_
              refine j_if_eq (pc := 168) C (tgt := 174) d_Model_flowOf_168 (by decide) (fun c47 => ?_) (fun c47 => ?_)
              · refine j_iload (pc := 174) C d_Model_flowOf_174 0 rfl ?_
                refine j_iload_n (pc := 176) C d_Model_flowOf_176 rfl 6 rfl ?_
                refine j_icmp_ge (pc := 177) C (tgt := 185) d_Model_flowOf_177 (by decide) (fun c48 => ?_) (fun c48 => ?_)
                · refine j_iload_n (pc := 185) C d_Model_flowOf_185 rfl 6 rfl ?_
                  exact j_iret (pc := 186) C hr rfl () trivial [1, 0, 2] rfl (by decide) (by decide) (by decide) d_Model_flowOf_186
                · refine j_iload (pc := 180) C d_Model_flowOf_180 0 rfl ?_
                  refine j_goto (pc := 182) C (tgt := 186) d_Model_flowOf_182 (by decide) ?_
                  exact j_iret (pc := 186) C hr rfl () trivial [1, 0, 2] rfl (by decide) (by decide) (by decide) d_Model_flowOf_186
              · refine j_iconst (pc := 171) C (v := 0) d_Model_flowOf_171 (by decide) ?_
                refine j_istore (pc := 172) C (lv' := [(6, .int 0), (5, .int 0), (4, .int (nI (54 + (6 * j)))), (0, .ref mo), (1, .int (nI j)), (2, .int v1), (3, .int v2)]) d_Model_flowOf_172 (by decide) rfl ?_
                refine j_iload (pc := 174) C d_Model_flowOf_174 0 rfl ?_
                refine j_iload_n (pc := 176) C d_Model_flowOf_176 rfl 6 rfl ?_
                refine j_icmp_ge (pc := 177) C (tgt := 185) d_Model_flowOf_177 (by decide) (fun c49 => ?_) (fun c49 => ?_)
                · refine j_iload_n (pc := 185) C d_Model_flowOf_185 rfl 6 rfl ?_
                  exact j_iret (pc := 186) C hr rfl () trivial [1, 0, 2] rfl (by decide) (by decide) (by decide) d_Model_flowOf_186
                · refine j_iload (pc := 180) C d_Model_flowOf_180 0 rfl ?_
                  refine j_goto (pc := 182) C (tgt := 186) d_Model_flowOf_182 (by decide) ?_
                  exact j_iret (pc := 186) C hr rfl () trivial [1, 0, 2] rfl (by decide) (by decide) (by decide) d_Model_flowOf_186
          · refine j_iload (pc := 93) C d_Model_flowOf_93 1 rfl ?_
            refine j_aload_n (pc := 95) C d_Model_flowOf_95 rfl 3 rfl ?_
            refine j_get (pc := 96) C gf_Model_127 1 rfl rfl d_Model_flowOf_96 ?_
            refine j_iload (pc := 99) C d_Model_flowOf_99 2 rfl ?_
            refine j_iconst (pc := 101) C (v := 1) d_Model_flowOf_101 (by decide) ?_
            refine j_iadd (pc := 102) C (v := nI ((54 + (6 * j)) + 1)) d_Model_flowOf_102 (nI_add _ _) ?_
            refine j_iald (pc := 103) C 0 rfl (v := g46 ((54 + (6 * j)) + 1)) (vp_in_nI (by omega) (by decide)) (by rw [nI_clamp (by omega)]) d_Model_flowOf_103 ?_
            refine j_idiv (pc := 104) C (v := 0 / (g46 ((54 + (6 * j)) + 1))) d_Model_flowOf_104 (hS j (by omega) c42) rfl ?_
            refine j_aload_n (pc := 105) C d_Model_flowOf_105 rfl 3 rfl ?_
            refine j_get (pc := 106) C gf_Model_127 1 rfl rfl d_Model_flowOf_106 ?_
            refine j_iload (pc := 109) C d_Model_flowOf_109 2 rfl ?_
            refine j_iconst (pc := 111) C (v := 1) d_Model_flowOf_111 (by decide) ?_
            refine j_iadd (pc := 112) C (v := nI ((54 + (6 * j)) + 1)) d_Model_flowOf_112 (nI_add _ _) ?_
            refine j_iald (pc := 113) C 0 rfl (v := g46 ((54 + (6 * j)) + 1)) (vp_in_nI (by omega) (by decide)) (by rw [nI_clamp (by omega)]) d_Model_flowOf_113 ?_
            refine j_imul (pc := 114) C (v := (0 / (g46 ((54 + (6 * j)) + 1))) * (g46 ((54 + (6 * j)) + 1))) d_Model_flowOf_114 rfl ?_
            refine j_anyI (fun v50 => ?_)
            refine j_aload_n (pc := 115) C d_Model_flowOf_115 rfl 3 rfl ?_
            refine j_get (pc := 116) C gf_Model_127 1 rfl rfl d_Model_flowOf_116 ?_
            refine j_iload (pc := 119) C d_Model_flowOf_119 2 rfl ?_
            refine j_iconst (pc := 121) C (v := 4) d_Model_flowOf_121 (by decide) ?_
            refine j_iadd (pc := 122) C (v := nI ((54 + (6 * j)) + 4)) d_Model_flowOf_122 (nI_add _ _) ?_
            refine j_iald (pc := 123) C 0 rfl (v := g46 ((54 + (6 * j)) + 4)) (vp_in_nI (by omega) (by decide)) (by rw [nI_clamp (by omega)]) d_Model_flowOf_123 ?_
            refine j_imul (pc := 124) C (v := v50 * (g46 ((54 + (6 * j)) + 4))) d_Model_flowOf_124 rfl ?_
            refine j_anyI (fun v51 => ?_)
            refine j_istore (pc := 125) C (lv' := [(6, .int v51), (5, .int 0), (4, .int (nI (54 + (6 * j)))), (0, .ref mo), (1, .int (nI j)), (2, .int v1), (3, .int v2)]) d_Model_flowOf_125 (by decide) rfl ?_
            refine j_aload_n (pc := 127) C d_Model_flowOf_127 rfl 3 rfl ?_
            refine j_get (pc := 128) C gf_Model_127 1 rfl rfl d_Model_flowOf_128 ?_
            refine j_iload (pc := 131) C d_Model_flowOf_131 2 rfl ?_
            refine j_iald (pc := 133) C 0 rfl (v := g46 (54 + (6 * j))) (vp_in_nI (by omega) (by decide)) (by rw [nI_clamp (by omega)]) d_Model_flowOf_133 ?_
            refine j_iconst (pc := 134) C (v := 3) d_Model_flowOf_134 (by decide) ?_
            refine j_icmp_ne (pc := 135) C (tgt := 174) d_Model_flowOf_135 (by decide) (fun c52 => ?_) (fun c52 => ?_)
            · refine j_iload (pc := 174) C d_Model_flowOf_174 0 rfl ?_
              refine j_iload_n (pc := 176) C d_Model_flowOf_176 rfl 6 rfl ?_
              refine j_icmp_ge (pc := 177) C (tgt := 185) d_Model_flowOf_177 (by decide) (fun c53 => ?_) (fun c53 => ?_)
              · refine j_iload_n (pc := 185) C d_Model_flowOf_185 rfl 6 rfl ?_
                exact j_iret (pc := 186) C hr rfl () trivial [1, 0, 2] rfl (by decide) (by decide) (by decide) d_Model_flowOf_186
              · refine j_iload (pc := 180) C d_Model_flowOf_180 0 rfl ?_
                refine j_goto (pc := 182) C (tgt := 186) d_Model_flowOf_182 (by decide) ?_
                exact j_iret (pc := 186) C hr rfl () trivial [1, 0, 2] rfl (by decide) (by decide) (by decide) d_Model_flowOf_186
            · refine j_aload_n (pc := 138) C d_Model_flowOf_138 rfl 3 rfl ?_
              refine j_get (pc := 139) C gf_Model_158 1 rfl rfl d_Model_flowOf_139 ?_
              refine j_iconst (pc := 142) C (v := 0) d_Model_flowOf_142 (by decide) ?_
              refine j_iald (pc := 143) C 2 rfl (v := g62 0) (vin (by decide)) rfl d_Model_flowOf_143 ?_
              refine j_i2l (pc := 144) C (v := (g62 0).toInt64) d_Model_flowOf_144 rfl ?_
              refine j_aload_n (pc := 145) C d_Model_flowOf_145 rfl 3 rfl ?_
              refine j_get (pc := 146) C gf_Model_127 1 rfl rfl d_Model_flowOf_146 ?_
              refine j_iload (pc := 149) C d_Model_flowOf_149 2 rfl ?_
              refine j_iconst (pc := 151) C (v := 1) d_Model_flowOf_151 (by decide) ?_
              refine j_iadd (pc := 152) C (v := nI ((54 + (6 * j)) + 1)) d_Model_flowOf_152 (nI_add _ _) ?_
              refine j_iald (pc := 153) C 0 rfl (v := g46 ((54 + (6 * j)) + 1)) (vp_in_nI (by omega) (by decide)) (by rw [nI_clamp (by omega)]) d_Model_flowOf_153 ?_
              refine j_i2l (pc := 154) C (v := (g46 ((54 + (6 * j)) + 1)).toInt64) d_Model_flowOf_154 rfl ?_
              refine j_aload_n (pc := 155) C d_Model_flowOf_155 rfl 3 rfl ?_
              refine j_get (pc := 156) C gf_Model_127 1 rfl rfl d_Model_flowOf_156 ?_
              refine j_iload (pc := 159) C d_Model_flowOf_159 2 rfl ?_
              refine j_iconst (pc := 161) C (v := 2) d_Model_flowOf_161 (by decide) ?_
              refine j_iadd (pc := 162) C (v := nI ((54 + (6 * j)) + 2)) d_Model_flowOf_162 (nI_add _ _) ?_
              refine j_iald (pc := 163) C 0 rfl (v := g46 ((54 + (6 * j)) + 2)) (vp_in_nI (by omega) (by decide)) (by rw [nI_clamp (by omega)]) d_Model_flowOf_163 ?_
              refine j_i2l (pc := 164) C (v := (g46 ((54 + (6 * j)) + 2)).toInt64) d_Model_flowOf_164 rfl ?_
              refine j_callSi (pc := 165) C (c_isIn_any l D y ((g62 0).toInt64) ((g46 ((54 + (6 * j)) + 1)).toInt64) ((g46 ((54 + (6 * j)) + 2)).toInt64)) kw_Model_240 ks_Model_isIn ⟨by decide, by decide⟩ ⟨by decide, by decide⟩ (wr := [(ma 46, .inl (y 0, 108, .inl g46)), MB mo ma (nI t1) i2 i3 i4 i5 i6 i7 i8 i42 i49 i51 i53 i54 i59 i61 i64 i66 (nI t67) i76 i78, (ma 62, .inl (y 0, 63, .inl g62))]) [] [0, 1, 2] rfl rfl (by decide) (by decide) (by decide) (As := [.long ((g62 0).toInt64), .long ((g46 ((54 + (6 * j)) + 1)).toInt64), .long ((g46 ((54 + (6 * j)) + 2)).toInt64)]) (rest := []) rfl (nb rfl) rfl d_Model_flowOf_165 (fun r54 _ hr54 => ?_)
              have xh55 := hr54
              refine j_ws (ws' := [(ma 46, .inl (y 0, 108, .inl g46)), MB mo ma (nI t1) i2 i3 i4 i5 i6 i7 i8 i42 i49 i51 i53 i54 i59 i61 i64 i66 (nI t67) i76 i78, (ma 62, .inl (y 0, 63, .inl g62))]) rfl ?_
              refine j_if_eq (pc := 168) C (tgt := 174) d_Model_flowOf_168 (by decide) (fun c56 => ?_) (fun c56 => ?_)
              · refine j_iload (pc := 174) C d_Model_flowOf_174 0 rfl ?_
                refine j_iload_n (pc := 176) C d_Model_flowOf_176 rfl 6 rfl ?_
                refine j_icmp_ge (pc := 177) C (tgt := 185) d_Model_flowOf_177 (by decide) (fun c57 => ?_) (fun c57 => ?_)
                · refine j_iload_n (pc := 185) C d_Model_flowOf_185 rfl 6 rfl ?_
                  exact j_iret (pc := 186) C hr rfl () trivial [1, 0, 2] rfl (by decide) (by decide) (by decide) d_Model_flowOf_186
                · refine j_iload (pc := 180) C d_Model_flowOf_180 0 rfl ?_
                  refine j_goto (pc := 182) C (tgt := 186) d_Model_flowOf_182 (by decide) ?_
                  exact j_iret (pc := 186) C hr rfl () trivial [1, 0, 2] rfl (by decide) (by decide) (by decide) d_Model_flowOf_186
              · refine j_iconst (pc := 171) C (v := 0) d_Model_flowOf_171 (by decide) ?_
                refine j_istore (pc := 172) C (lv' := [(6, .int 0), (5, .int 0), (4, .int (nI (54 + (6 * j)))), (0, .ref mo), (1, .int (nI j)), (2, .int v1), (3, .int v2)]) d_Model_flowOf_172 (by decide) rfl ?_
                refine j_iload (pc := 174) C d_Model_flowOf_174 0 rfl ?_
                refine j_iload_n (pc := 176) C d_Model_flowOf_176 rfl 6 rfl ?_
                refine j_icmp_ge (pc := 177) C (tgt := 185) d_Model_flowOf_177 (by decide) (fun c58 => ?_) (fun c58 => ?_)
                · refine j_iload_n (pc := 185) C d_Model_flowOf_185 rfl 6 rfl ?_
                  exact j_iret (pc := 186) C hr rfl () trivial [1, 0, 2] rfl (by decide) (by decide) (by decide) d_Model_flowOf_186
                · refine j_iload (pc := 180) C d_Model_flowOf_180 0 rfl ?_
                  refine j_goto (pc := 182) C (tgt := 186) d_Model_flowOf_182 (by decide) ?_
                  exact j_iret (pc := 186) C hr rfl () trivial [1, 0, 2] rfl (by decide) (by decide) (by decide) d_Model_flowOf_186
        · refine j_iload (pc := 68) C d_Model_flowOf_68 0 rfl ?_
          refine j_aload_n (pc := 70) C d_Model_flowOf_70 rfl 3 rfl ?_
          refine j_get (pc := 71) C gf_Model_127 1 rfl rfl d_Model_flowOf_71 ?_
          refine j_iload (pc := 74) C d_Model_flowOf_74 2 rfl ?_
          refine j_iconst (pc := 76) C (v := 1) d_Model_flowOf_76 (by decide) ?_
          refine j_iadd (pc := 77) C (v := nI ((54 + (6 * j)) + 1)) d_Model_flowOf_77 (nI_add _ _) ?_
          refine j_iald (pc := 78) C 0 rfl (v := g46 ((54 + (6 * j)) + 1)) (vp_in_nI (by omega) (by decide)) (by rw [nI_clamp (by omega)]) d_Model_flowOf_78 ?_
          refine j_iadd (pc := 79) C (v := v3 + (g46 ((54 + (6 * j)) + 1))) d_Model_flowOf_79 rfl ?_
          refine j_anyI (fun v59 => ?_)
          refine j_istore (pc := 80) C (lv' := [(6, .int v59), (5, .int 0), (4, .int (nI (54 + (6 * j)))), (0, .ref mo), (1, .int (nI j)), (2, .int v1), (3, .int v2)]) d_Model_flowOf_80 (by decide) rfl ?_
          refine j_aload_n (pc := 82) C d_Model_flowOf_82 rfl 3 rfl ?_
          refine j_get (pc := 83) C gf_Model_127 1 rfl rfl d_Model_flowOf_83 ?_
          refine j_iload (pc := 86) C d_Model_flowOf_86 2 rfl ?_
          refine j_iald (pc := 88) C 0 rfl (v := g46 (54 + (6 * j))) (vp_in_nI (by omega) (by decide)) (by rw [nI_clamp (by omega)]) d_Model_flowOf_88 ?_
          refine j_iconst (pc := 89) C (v := 2) d_Model_flowOf_89 (by decide) ?_
          refine j_icmp_ne (pc := 90) C (tgt := 127) d_Model_flowOf_90 (by decide) (fun c60 => ?_) (fun c60 => ?_)
          · refine j_aload_n (pc := 127) C d_Model_flowOf_127 rfl 3 rfl ?_
            refine j_get (pc := 128) C gf_Model_127 1 rfl rfl d_Model_flowOf_128 ?_
            refine j_iload (pc := 131) C d_Model_flowOf_131 2 rfl ?_
            refine j_iald (pc := 133) C 0 rfl (v := g46 (54 + (6 * j))) (vp_in_nI (by omega) (by decide)) (by rw [nI_clamp (by omega)]) d_Model_flowOf_133 ?_
            refine j_iconst (pc := 134) C (v := 3) d_Model_flowOf_134 (by decide) ?_
            refine j_icmp_ne (pc := 135) C (tgt := 174) d_Model_flowOf_135 (by decide) (fun c61 => ?_) (fun c61 => ?_)
            · refine j_iload (pc := 174) C d_Model_flowOf_174 0 rfl ?_
              refine j_iload_n (pc := 176) C d_Model_flowOf_176 rfl 6 rfl ?_
              refine j_icmp_ge (pc := 177) C (tgt := 185) d_Model_flowOf_177 (by decide) (fun c62 => ?_) (fun c62 => ?_)
              · refine j_iload_n (pc := 185) C d_Model_flowOf_185 rfl 6 rfl ?_
                exact j_iret (pc := 186) C hr rfl () trivial [1, 0, 2] rfl (by decide) (by decide) (by decide) d_Model_flowOf_186
              · refine j_iload (pc := 180) C d_Model_flowOf_180 0 rfl ?_
                refine j_goto (pc := 182) C (tgt := 186) d_Model_flowOf_182 (by decide) ?_
                exact j_iret (pc := 186) C hr rfl () trivial [1, 0, 2] rfl (by decide) (by decide) (by decide) d_Model_flowOf_186
            · refine j_aload_n (pc := 138) C d_Model_flowOf_138 rfl 3 rfl ?_
              refine j_get (pc := 139) C gf_Model_158 1 rfl rfl d_Model_flowOf_139 ?_
              refine j_iconst (pc := 142) C (v := 0) d_Model_flowOf_142 (by decide) ?_
              refine j_iald (pc := 143) C 2 rfl (v := g62 0) (vin (by decide)) rfl d_Model_flowOf_143 ?_
              refine j_i2l (pc := 144) C (v := (g62 0).toInt64) d_Model_flowOf_144 rfl ?_
              refine j_aload_n (pc := 145) C d_Model_flowOf_145 rfl 3 rfl ?_
              refine j_get (pc := 146) C gf_Model_127 1 rfl rfl d_Model_flowOf_146 ?_
              refine j_iload (pc := 149) C d_Model_flowOf_149 2 rfl ?_
              refine j_iconst (pc := 151) C (v := 1) d_Model_flowOf_151 (by decide) ?_
              refine j_iadd (pc := 152) C (v := nI ((54 + (6 * j)) + 1)) d_Model_flowOf_152 (nI_add _ _) ?_
              refine j_iald (pc := 153) C 0 rfl (v := g46 ((54 + (6 * j)) + 1)) (vp_in_nI (by omega) (by decide)) (by rw [nI_clamp (by omega)]) d_Model_flowOf_153 ?_
              refine j_i2l (pc := 154) C (v := (g46 ((54 + (6 * j)) + 1)).toInt64) d_Model_flowOf_154 rfl ?_
              refine j_aload_n (pc := 155) C d_Model_flowOf_155 rfl 3 rfl ?_
              refine j_get (pc := 156) C gf_Model_127 1 rfl rfl d_Model_flowOf_156 ?_
              refine j_iload (pc := 159) C d_Model_flowOf_159 2 rfl ?_
              refine j_iconst (pc := 161) C (v := 2) d_Model_flowOf_161 (by decide) ?_
              refine j_iadd (pc := 162) C (v := nI ((54 + (6 * j)) + 2)) d_Model_flowOf_162 (nI_add _ _) ?_
              refine j_iald (pc := 163) C 0 rfl (v := g46 ((54 + (6 * j)) + 2)) (vp_in_nI (by omega) (by decide)) (by rw [nI_clamp (by omega)]) d_Model_flowOf_163 ?_
              refine j_i2l (pc := 164) C (v := (g46 ((54 + (6 * j)) + 2)).toInt64) d_Model_flowOf_164 rfl ?_
              refine j_callSi (pc := 165) C (c_isIn_any l D y ((g62 0).toInt64) ((g46 ((54 + (6 * j)) + 1)).toInt64) ((g46 ((54 + (6 * j)) + 2)).toInt64)) kw_Model_240 ks_Model_isIn ⟨by decide, by decide⟩ ⟨by decide, by decide⟩ (wr := [(ma 46, .inl (y 0, 108, .inl g46)), MB mo ma (nI t1) i2 i3 i4 i5 i6 i7 i8 i42 i49 i51 i53 i54 i59 i61 i64 i66 (nI t67) i76 i78, (ma 62, .inl (y 0, 63, .inl g62))]) [] [0, 1, 2] rfl rfl (by decide) (by decide) (by decide) (As := [.long ((g62 0).toInt64), .long ((g46 ((54 + (6 * j)) + 1)).toInt64), .long ((g46 ((54 + (6 * j)) + 2)).toInt64)]) (rest := []) rfl (nb rfl) rfl d_Model_flowOf_165 (fun r63 _ hr63 => ?_)
              have xh64 := hr63
              refine j_ws (ws' := [(ma 46, .inl (y 0, 108, .inl g46)), MB mo ma (nI t1) i2 i3 i4 i5 i6 i7 i8 i42 i49 i51 i53 i54 i59 i61 i64 i66 (nI t67) i76 i78, (ma 62, .inl (y 0, 63, .inl g62))]) rfl ?_
              refine j_if_eq (pc := 168) C (tgt := 174) d_Model_flowOf_168 (by decide) (fun c65 => ?_) (fun c65 => ?_)
              · refine j_iload (pc := 174) C d_Model_flowOf_174 0 rfl ?_
                refine j_iload_n (pc := 176) C d_Model_flowOf_176 rfl 6 rfl ?_
                refine j_icmp_ge (pc := 177) C (tgt := 185) d_Model_flowOf_177 (by decide) (fun c66 => ?_) (fun c66 => ?_)
                · refine j_iload_n (pc := 185) C d_Model_flowOf_185 rfl 6 rfl ?_
                  exact j_iret (pc := 186) C hr rfl () trivial [1, 0, 2] rfl (by decide) (by decide) (by decide) d_Model_flowOf_186
                · refine j_iload (pc := 180) C d_Model_flowOf_180 0 rfl ?_
                  refine j_goto (pc := 182) C (tgt := 186) d_Model_flowOf_182 (by decide) ?_
                  exact j_iret (pc := 186) C hr rfl () trivial [1, 0, 2] rfl (by decide) (by decide) (by decide) d_Model_flowOf_186
              · refine j_iconst (pc := 171) C (v := 0) d_Model_flowOf_171 (by decide) ?_
                refine j_istore (pc := 172) C (lv' := [(6, .int 0), (5, .int 0), (4, .int (nI (54 + (6 * j)))), (0, .ref mo), (1, .int (nI j)), (2, .int v1), (3, .int v2)]) d_Model_flowOf_172 (by decide) rfl ?_
                refine j_iload (pc := 174) C d_Model_flowOf_174 0 rfl ?_
                refine j_iload_n (pc := 176) C d_Model_flowOf_176 rfl 6 rfl ?_
                refine j_icmp_ge (pc := 177) C (tgt := 185) d_Model_flowOf_177 (by decide) (fun c67 => ?_) (fun c67 => ?_)
                · refine j_iload_n (pc := 185) C d_Model_flowOf_185 rfl 6 rfl ?_
                  exact j_iret (pc := 186) C hr rfl () trivial [1, 0, 2] rfl (by decide) (by decide) (by decide) d_Model_flowOf_186
                · refine j_iload (pc := 180) C d_Model_flowOf_180 0 rfl ?_
                  refine j_goto (pc := 182) C (tgt := 186) d_Model_flowOf_182 (by decide) ?_
                  exact j_iret (pc := 186) C hr rfl () trivial [1, 0, 2] rfl (by decide) (by decide) (by decide) d_Model_flowOf_186
          · refine j_iload (pc := 93) C d_Model_flowOf_93 1 rfl ?_
            refine j_aload_n (pc := 95) C d_Model_flowOf_95 rfl 3 rfl ?_
            refine j_get (pc := 96) C gf_Model_127 1 rfl rfl d_Model_flowOf_96 ?_
            refine j_iload (pc := 99) C d_Model_flowOf_99 2 rfl ?_
            refine j_iconst (pc := 101) C (v := 1) d_Model_flowOf_101 (by decide) ?_
            refine j_iadd (pc := 102) C (v := nI ((54 + (6 * j)) + 1)) d_Model_flowOf_102 (nI_add _ _) ?_
            refine j_iald (pc := 103) C 0 rfl (v := g46 ((54 + (6 * j)) + 1)) (vp_in_nI (by omega) (by decide)) (by rw [nI_clamp (by omega)]) d_Model_flowOf_103 ?_
            refine j_idiv (pc := 104) C (v := 0 / (g46 ((54 + (6 * j)) + 1))) d_Model_flowOf_104 (hS j (by omega) c60) rfl ?_
            refine j_aload_n (pc := 105) C d_Model_flowOf_105 rfl 3 rfl ?_
            refine j_get (pc := 106) C gf_Model_127 1 rfl rfl d_Model_flowOf_106 ?_
            refine j_iload (pc := 109) C d_Model_flowOf_109 2 rfl ?_
            refine j_iconst (pc := 111) C (v := 1) d_Model_flowOf_111 (by decide) ?_
            refine j_iadd (pc := 112) C (v := nI ((54 + (6 * j)) + 1)) d_Model_flowOf_112 (nI_add _ _) ?_
            refine j_iald (pc := 113) C 0 rfl (v := g46 ((54 + (6 * j)) + 1)) (vp_in_nI (by omega) (by decide)) (by rw [nI_clamp (by omega)]) d_Model_flowOf_113 ?_
            refine j_imul (pc := 114) C (v := (0 / (g46 ((54 + (6 * j)) + 1))) * (g46 ((54 + (6 * j)) + 1))) d_Model_flowOf_114 rfl ?_
            refine j_anyI (fun v68 => ?_)
            refine j_aload_n (pc := 115) C d_Model_flowOf_115 rfl 3 rfl ?_
            refine j_get (pc := 116) C gf_Model_127 1 rfl rfl d_Model_flowOf_116 ?_
            refine j_iload (pc := 119) C d_Model_flowOf_119 2 rfl ?_
            refine j_iconst (pc := 121) C (v := 4) d_Model_flowOf_121 (by decide) ?_
            refine j_iadd (pc := 122) C (v := nI ((54 + (6 * j)) + 4)) d_Model_flowOf_122 (nI_add _ _) ?_
            refine j_iald (pc := 123) C 0 rfl (v := g46 ((54 + (6 * j)) + 4)) (vp_in_nI (by omega) (by decide)) (by rw [nI_clamp (by omega)]) d_Model_flowOf_123 ?_
            refine j_imul (pc := 124) C (v := v68 * (g46 ((54 + (6 * j)) + 4))) d_Model_flowOf_124 rfl ?_
            refine j_anyI (fun v69 => ?_)
            refine j_istore (pc := 125) C (lv' := [(6, .int v69), (5, .int 0), (4, .int (nI (54 + (6 * j)))), (0, .ref mo), (1, .int (nI j)), (2, .int v1), (3, .int v2)]) d_Model_flowOf_125 (by decide) rfl ?_
            refine j_aload_n (pc := 127) C d_Model_flowOf_127 rfl 3 rfl ?_
            refine j_get (pc := 128) C gf_Model_127 1 rfl rfl d_Model_flowOf_128 ?_
            refine j_iload (pc := 131) C d_Model_flowOf_131 2 rfl ?_
            refine j_iald (pc := 133) C 0 rfl (v := g46 (54 + (6 * j))) (vp_in_nI (by omega) (by decide)) (by rw [nI_clamp (by omega)]) d_Model_flowOf_133 ?_
            refine j_iconst (pc := 134) C (v := 3) d_Model_flowOf_134 (by decide) ?_
            refine j_icmp_ne (pc := 135) C (tgt := 174) d_Model_flowOf_135 (by decide) (fun c70 => ?_) (fun c70 => ?_)
            · refine j_iload (pc := 174) C d_Model_flowOf_174 0 rfl ?_
              refine j_iload_n (pc := 176) C d_Model_flowOf_176 rfl 6 rfl ?_
              refine j_icmp_ge (pc := 177) C (tgt := 185) d_Model_flowOf_177 (by decide) (fun c71 => ?_) (fun c71 => ?_)
              · refine j_iload_n (pc := 185) C d_Model_flowOf_185 rfl 6 rfl ?_
                exact j_iret (pc := 186) C hr rfl () trivial [1, 0, 2] rfl (by decide) (by decide) (by decide) d_Model_flowOf_186
              · refine j_iload (pc := 180) C d_Model_flowOf_180 0 rfl ?_
                refine j_goto (pc := 182) C (tgt := 186) d_Model_flowOf_182 (by decide) ?_
                exact j_iret (pc := 186) C hr rfl () trivial [1, 0, 2] rfl (by decide) (by decide) (by decide) d_Model_flowOf_186
            · refine j_aload_n (pc := 138) C d_Model_flowOf_138 rfl 3 rfl ?_
              refine j_get (pc := 139) C gf_Model_158 1 rfl rfl d_Model_flowOf_139 ?_
              refine j_iconst (pc := 142) C (v := 0) d_Model_flowOf_142 (by decide) ?_
              refine j_iald (pc := 143) C 2 rfl (v := g62 0) (vin (by decide)) rfl d_Model_flowOf_143 ?_
              refine j_i2l (pc := 144) C (v := (g62 0).toInt64) d_Model_flowOf_144 rfl ?_
              refine j_aload_n (pc := 145) C d_Model_flowOf_145 rfl 3 rfl ?_
              refine j_get (pc := 146) C gf_Model_127 1 rfl rfl d_Model_flowOf_146 ?_
              refine j_iload (pc := 149) C d_Model_flowOf_149 2 rfl ?_
              refine j_iconst (pc := 151) C (v := 1) d_Model_flowOf_151 (by decide) ?_
              refine j_iadd (pc := 152) C (v := nI ((54 + (6 * j)) + 1)) d_Model_flowOf_152 (nI_add _ _) ?_
              refine j_iald (pc := 153) C 0 rfl (v := g46 ((54 + (6 * j)) + 1)) (vp_in_nI (by omega) (by decide)) (by rw [nI_clamp (by omega)]) d_Model_flowOf_153 ?_
              refine j_i2l (pc := 154) C (v := (g46 ((54 + (6 * j)) + 1)).toInt64) d_Model_flowOf_154 rfl ?_
              refine j_aload_n (pc := 155) C d_Model_flowOf_155 rfl 3 rfl ?_
              refine j_get (pc := 156) C gf_Model_127 1 rfl rfl d_Model_flowOf_156 ?_
              refine j_iload (pc := 159) C d_Model_flowOf_159 2 rfl ?_
              refine j_iconst (pc := 161) C (v := 2) d_Model_flowOf_161 (by decide) ?_
              refine j_iadd (pc := 162) C (v := nI ((54 + (6 * j)) + 2)) d_Model_flowOf_162 (nI_add _ _) ?_
              refine j_iald (pc := 163) C 0 rfl (v := g46 ((54 + (6 * j)) + 2)) (vp_in_nI (by omega) (by decide)) (by rw [nI_clamp (by omega)]) d_Model_flowOf_163 ?_
              refine j_i2l (pc := 164) C (v := (g46 ((54 + (6 * j)) + 2)).toInt64) d_Model_flowOf_164 rfl ?_
              refine j_callSi (pc := 165) C (c_isIn_any l D y ((g62 0).toInt64) ((g46 ((54 + (6 * j)) + 1)).toInt64) ((g46 ((54 + (6 * j)) + 2)).toInt64)) kw_Model_240 ks_Model_isIn ⟨by decide, by decide⟩ ⟨by decide, by decide⟩ (wr := [(ma 46, .inl (y 0, 108, .inl g46)), MB mo ma (nI t1) i2 i3 i4 i5 i6 i7 i8 i42 i49 i51 i53 i54 i59 i61 i64 i66 (nI t67) i76 i78, (ma 62, .inl (y 0, 63, .inl g62))]) [] [0, 1, 2] rfl rfl (by decide) (by decide) (by decide) (As := [.long ((g62 0).toInt64), .long ((g46 ((54 + (6 * j)) + 1)).toInt64), .long ((g46 ((54 + (6 * j)) + 2)).toInt64)]) (rest := []) rfl (nb rfl) rfl d_Model_flowOf_165 (fun r72 _ hr72 => ?_)
              have xh73 := hr72
              refine j_ws (ws' := [(ma 46, .inl (y 0, 108, .inl g46)), MB mo ma (nI t1) i2 i3 i4 i5 i6 i7 i8 i42 i49 i51 i53 i54 i59 i61 i64 i66 (nI t67) i76 i78, (ma 62, .inl (y 0, 63, .inl g62))]) rfl ?_
              refine j_if_eq (pc := 168) C (tgt := 174) d_Model_flowOf_168 (by decide) (fun c74 => ?_) (fun c74 => ?_)
              · refine j_iload (pc := 174) C d_Model_flowOf_174 0 rfl ?_
                refine j_iload_n (pc := 176) C d_Model_flowOf_176 rfl 6 rfl ?_
                refine j_icmp_ge (pc := 177) C (tgt := 185) d_Model_flowOf_177 (by decide) (fun c75 => ?_) (fun c75 => ?_)
                · refine j_iload_n (pc := 185) C d_Model_flowOf_185 rfl 6 rfl ?_
                  exact j_iret (pc := 186) C hr rfl () trivial [1, 0, 2] rfl (by decide) (by decide) (by decide) d_Model_flowOf_186
                · refine j_iload (pc := 180) C d_Model_flowOf_180 0 rfl ?_
                  refine j_goto (pc := 182) C (tgt := 186) d_Model_flowOf_182 (by decide) ?_
                  exact j_iret (pc := 186) C hr rfl () trivial [1, 0, 2] rfl (by decide) (by decide) (by decide) d_Model_flowOf_186
              · refine j_iconst (pc := 171) C (v := 0) d_Model_flowOf_171 (by decide) ?_
                refine j_istore (pc := 172) C (lv' := [(6, .int 0), (5, .int 0), (4, .int (nI (54 + (6 * j)))), (0, .ref mo), (1, .int (nI j)), (2, .int v1), (3, .int v2)]) d_Model_flowOf_172 (by decide) rfl ?_
                refine j_iload (pc := 174) C d_Model_flowOf_174 0 rfl ?_
                refine j_iload_n (pc := 176) C d_Model_flowOf_176 rfl 6 rfl ?_
                refine j_icmp_ge (pc := 177) C (tgt := 185) d_Model_flowOf_177 (by decide) (fun c76 => ?_) (fun c76 => ?_)
                · refine j_iload_n (pc := 185) C d_Model_flowOf_185 rfl 6 rfl ?_
                  exact j_iret (pc := 186) C hr rfl () trivial [1, 0, 2] rfl (by decide) (by decide) (by decide) d_Model_flowOf_186
                · refine j_iload (pc := 180) C d_Model_flowOf_180 0 rfl ?_
                  refine j_goto (pc := 182) C (tgt := 186) d_Model_flowOf_182 (by decide) ?_
                  exact j_iret (pc := 186) C hr rfl () trivial [1, 0, 2] rfl (by decide) (by decide) (by decide) d_Model_flowOf_186
  · refine j_iload_n (pc := 18) C d_Model_flowOf_18 rfl 3 rfl ?_
    refine j_aload_n (pc := 19) C d_Model_flowOf_19 rfl 1 rfl ?_
    refine j_iload_n (pc := 20) C d_Model_flowOf_20 rfl 2 rfl ?_
    refine j_callVi (pc := 21) C (c_M_boards l D y mo ma t1 i2 i3 i4 i5 i6 i7 i8 i42 i49 i51 i53 i54 i59 i61 i64 i66 t67 i76 i78 g62 j hj) kw_Model_421 kv_Model_boards 0 10 rfl rfl ⟨by decide, by decide⟩ ⟨by decide, by decide⟩ (wr := [(ma 46, .inl (y 0, 108, .inl g46))]) [1, 2] [0] rfl rfl (by decide) (by decide) (by decide) (As := [.int (nI j)]) (rest := [.int v1]) rfl (nb rfl) rfl d_Model_flowOf_21 (fun r77 _ hr77 => ?_)
    refine j_ws (ws' := [(ma 46, .inl (y 0, 108, .inl g46)), MB mo ma (nI t1) i2 i3 i4 i5 i6 i7 i8 i42 i49 i51 i53 i54 i59 i61 i64 i66 (nI t67) i76 i78, (ma 62, .inl (y 0, 63, .inl g62))]) rfl ?_
    refine j_isub (pc := 24) C (v := v1 - r77) d_Model_flowOf_24 rfl ?_
    refine j_goto (pc := 25) C (tgt := 29) d_Model_flowOf_25 (by decide) ?_
    refine j_istore (pc := 29) C (lv' := [(5, .int (v1 - r77)), (4, .int (nI (54 + (6 * j)))), (0, .ref mo), (1, .int (nI j)), (2, .int v1), (3, .int v2)]) d_Model_flowOf_29 (by decide) rfl ?_
    refine j_iload (pc := 31) C d_Model_flowOf_31 0 rfl ?_
    refine j_aload_n (pc := 33) C d_Model_flowOf_33 rfl 2 rfl ?_
    refine j_get (pc := 34) C gf_Model_127 1 rfl rfl d_Model_flowOf_34 ?_
    refine j_iload (pc := 37) C d_Model_flowOf_37 1 rfl ?_
    refine j_iconst (pc := 39) C (v := 4) d_Model_flowOf_39 (by decide) ?_
    refine j_iadd (pc := 40) C (v := nI ((54 + (6 * j)) + 4)) d_Model_flowOf_40 (nI_add _ _) ?_
    refine j_iald (pc := 41) C 0 rfl (v := g46 ((54 + (6 * j)) + 4)) (vp_in_nI (by omega) (by decide)) (by rw [nI_clamp (by omega)]) d_Model_flowOf_41 ?_
    refine j_imul (pc := 42) C (v := (v1 - r77) * (g46 ((54 + (6 * j)) + 4))) d_Model_flowOf_42 rfl ?_
    refine j_anyI (fun v78 => ?_)
    refine j_istore (pc := 43) C (lv' := [(6, .int v78), (5, .int (v1 - r77)), (4, .int (nI (54 + (6 * j)))), (0, .ref mo), (1, .int (nI j)), (2, .int v1), (3, .int v2)]) d_Model_flowOf_43 (by decide) rfl ?_
    refine j_aload_n (pc := 45) C d_Model_flowOf_45 rfl 3 rfl ?_
    refine j_get (pc := 46) C gf_Model_127 1 rfl rfl d_Model_flowOf_46 ?_
    refine j_iload (pc := 49) C d_Model_flowOf_49 2 rfl ?_
    refine j_iald (pc := 51) C 0 rfl (v := g46 (54 + (6 * j))) (vp_in_nI (by omega) (by decide)) (by rw [nI_clamp (by omega)]) d_Model_flowOf_51 ?_
    refine j_iconst (pc := 52) C (v := 1) d_Model_flowOf_52 (by decide) ?_
    refine j_icmp_ne (pc := 53) C (tgt := 82) d_Model_flowOf_53 (by decide) (fun c79 => ?_) (fun c79 => ?_)
    · refine j_aload_n (pc := 82) C d_Model_flowOf_82 rfl 3 rfl ?_
      refine j_get (pc := 83) C gf_Model_127 1 rfl rfl d_Model_flowOf_83 ?_
      refine j_iload (pc := 86) C d_Model_flowOf_86 2 rfl ?_
      refine j_iald (pc := 88) C 0 rfl (v := g46 (54 + (6 * j))) (vp_in_nI (by omega) (by decide)) (by rw [nI_clamp (by omega)]) d_Model_flowOf_88 ?_
      refine j_iconst (pc := 89) C (v := 2) d_Model_flowOf_89 (by decide) ?_
      refine j_icmp_ne (pc := 90) C (tgt := 127) d_Model_flowOf_90 (by decide) (fun c80 => ?_) (fun c80 => ?_)
      · refine j_aload_n (pc := 127) C d_Model_flowOf_127 rfl 3 rfl ?_
        refine j_get (pc := 128) C gf_Model_127 1 rfl rfl d_Model_flowOf_128 ?_
        refine j_iload (pc := 131) C d_Model_flowOf_131 2 rfl ?_
        refine j_iald (pc := 133) C 0 rfl (v := g46 (54 + (6 * j))) (vp_in_nI (by omega) (by decide)) (by rw [nI_clamp (by omega)]) d_Model_flowOf_133 ?_
        refine j_iconst (pc := 134) C (v := 3) d_Model_flowOf_134 (by decide) ?_
        refine j_icmp_ne (pc := 135) C (tgt := 174) d_Model_flowOf_135 (by decide) (fun c81 => ?_) (fun c81 => ?_)
        · refine j_iload (pc := 174) C d_Model_flowOf_174 0 rfl ?_
          refine j_iload_n (pc := 176) C d_Model_flowOf_176 rfl 6 rfl ?_
          refine j_icmp_ge (pc := 177) C (tgt := 185) d_Model_flowOf_177 (by decide) (fun c82 => ?_) (fun c82 => ?_)
          · refine j_iload_n (pc := 185) C d_Model_flowOf_185 rfl 6 rfl ?_
            exact j_iret (pc := 186) C hr rfl () trivial [1, 0, 2] rfl (by decide) (by decide) (by decide) d_Model_flowOf_186
          · refine j_iload (pc := 180) C d_Model_flowOf_180 0 rfl ?_
            refine j_goto (pc := 182) C (tgt := 186) d_Model_flowOf_182 (by decide) ?_
            exact j_iret (pc := 186) C hr rfl () trivial [1, 0, 2] rfl (by decide) (by decide) (by decide) d_Model_flowOf_186
        · refine j_aload_n (pc := 138) C d_Model_flowOf_138 rfl 3 rfl ?_
          refine j_get (pc := 139) C gf_Model_158 1 rfl rfl d_Model_flowOf_139 ?_
          refine j_iconst (pc := 142) C (v := 0) d_Model_flowOf_142 (by decide) ?_
          refine j_iald (pc := 143) C 2 rfl (v := g62 0) (vin (by decide)) rfl d_Model_flowOf_143 ?_
          refine j_i2l (pc := 144) C (v := (g62 0).toInt64) d_Model_flowOf_144 rfl ?_
          refine j_aload_n (pc := 145) C d_Model_flowOf_145 rfl 3 rfl ?_
          refine j_get (pc := 146) C gf_Model_127 1 rfl rfl d_Model_flowOf_146 ?_
          refine j_iload (pc := 149) C d_Model_flowOf_149 2 rfl ?_
          refine j_iconst (pc := 151) C (v := 1) d_Model_flowOf_151 (by decide) ?_
          refine j_iadd (pc := 152) C (v := nI ((54 + (6 * j)) + 1)) d_Model_flowOf_152 (nI_add _ _) ?_
          refine j_iald (pc := 153) C 0 rfl (v := g46 ((54 + (6 * j)) + 1)) (vp_in_nI (by omega) (by decide)) (by rw [nI_clamp (by omega)]) d_Model_flowOf_153 ?_
          refine j_i2l (pc := 154) C (v := (g46 ((54 + (6 * j)) + 1)).toInt64) d_Model_flowOf_154 rfl ?_
          refine j_aload_n (pc := 155) C d_Model_flowOf_155 rfl 3 rfl ?_
          refine j_get (pc := 156) C gf_Model_127 1 rfl rfl d_Model_flowOf_156 ?_
          refine j_iload (pc := 159) C d_Model_flowOf_159 2 rfl ?_
          refine j_iconst (pc := 161) C (v := 2) d_Model_flowOf_161 (by decide) ?_
          refine j_iadd (pc := 162) C (v := nI ((54 + (6 * j)) + 2)) d_Model_flowOf_162 (nI_add _ _) ?_
          refine j_iald (pc := 163) C 0 rfl (v := g46 ((54 + (6 * j)) + 2)) (vp_in_nI (by omega) (by decide)) (by rw [nI_clamp (by omega)]) d_Model_flowOf_163 ?_
          refine j_i2l (pc := 164) C (v := (g46 ((54 + (6 * j)) + 2)).toInt64) d_Model_flowOf_164 rfl ?_
          refine j_callSi (pc := 165) C (c_isIn_any l D y ((g62 0).toInt64) ((g46 ((54 + (6 * j)) + 1)).toInt64) ((g46 ((54 + (6 * j)) + 2)).toInt64)) kw_Model_240 ks_Model_isIn ⟨by decide, by decide⟩ ⟨by decide, by decide⟩ (wr := [(ma 46, .inl (y 0, 108, .inl g46)), MB mo ma (nI t1) i2 i3 i4 i5 i6 i7 i8 i42 i49 i51 i53 i54 i59 i61 i64 i66 (nI t67) i76 i78, (ma 62, .inl (y 0, 63, .inl g62))]) [] [0, 1, 2] rfl rfl (by decide) (by decide) (by decide) (As := [.long ((g62 0).toInt64), .long ((g46 ((54 + (6 * j)) + 1)).toInt64), .long ((g46 ((54 + (6 * j)) + 2)).toInt64)]) (rest := []) rfl (nb rfl) rfl d_Model_flowOf_165 (fun r83 _ hr83 => ?_)
          have xh84 := hr83
          refine j_ws (ws' := [(ma 46, .inl (y 0, 108, .inl g46)), MB mo ma (nI t1) i2 i3 i4 i5 i6 i7 i8 i42 i49 i51 i53 i54 i59 i61 i64 i66 (nI t67) i76 i78, (ma 62, .inl (y 0, 63, .inl g62))]) rfl ?_
          refine j_if_eq (pc := 168) C (tgt := 174) d_Model_flowOf_168 (by decide) (fun c85 => ?_) (fun c85 => ?_)
          · refine j_iload (pc := 174) C d_Model_flowOf_174 0 rfl ?_
            refine j_iload_n (pc := 176) C d_Model_flowOf_176 rfl 6 rfl ?_
            refine j_icmp_ge (pc := 177) C (tgt := 185) d_Model_flowOf_177 (by decide) (fun c86 => ?_) (fun c86 => ?_)
            · refine j_iload_n (pc := 185) C d_Model_flowOf_185 rfl 6 rfl ?_
              exact j_iret (pc := 186) C hr rfl () trivial [1, 0, 2] rfl (by decide) (by decide) (by decide) d_Model_flowOf_186
            · refine j_iload (pc := 180) C d_Model_flowOf_180 0 rfl ?_
              refine j_goto (pc := 182) C (tgt := 186) d_Model_flowOf_182 (by decide) ?_
              exact j_iret (pc := 186) C hr rfl () trivial [1, 0, 2] rfl (by decide) (by decide) (by decide) d_Model_flowOf_186
          · refine j_iconst (pc := 171) C (v := 0) d_Model_flowOf_171 (by decide) ?_
            refine j_istore (pc := 172) C (lv' := [(6, .int 0), (5, .int (v1 - r77)), (4, .int (nI (54 + (6 * j)))), (0, .ref mo), (1, .int (nI j)), (2, .int v1), (3, .int v2)]) d_Model_flowOf_172 (by decide) rfl ?_
            refine j_iload (pc := 174) C d_Model_flowOf_174 0 rfl ?_
            refine j_iload_n (pc := 176) C d_Model_flowOf_176 rfl 6 rfl ?_
            refine j_icmp_ge (pc := 177) C (tgt := 185) d_Model_flowOf_177 (by decide) (fun c87 => ?_) (fun c87 => ?_)
            · refine j_iload_n (pc := 185) C d_Model_flowOf_185 rfl 6 rfl ?_
              exact j_iret (pc := 186) C hr rfl () trivial [1, 0, 2] rfl (by decide) (by decide) (by decide) d_Model_flowOf_186
            · refine j_iload (pc := 180) C d_Model_flowOf_180 0 rfl ?_
              refine j_goto (pc := 182) C (tgt := 186) d_Model_flowOf_182 (by decide) ?_
              exact j_iret (pc := 186) C hr rfl () trivial [1, 0, 2] rfl (by decide) (by decide) (by decide) d_Model_flowOf_186
      · refine j_iload (pc := 93) C d_Model_flowOf_93 1 rfl ?_
        refine j_aload_n (pc := 95) C d_Model_flowOf_95 rfl 3 rfl ?_
        refine j_get (pc := 96) C gf_Model_127 1 rfl rfl d_Model_flowOf_96 ?_
        refine j_iload (pc := 99) C d_Model_flowOf_99 2 rfl ?_
        refine j_iconst (pc := 101) C (v := 1) d_Model_flowOf_101 (by decide) ?_
        refine j_iadd (pc := 102) C (v := nI ((54 + (6 * j)) + 1)) d_Model_flowOf_102 (nI_add _ _) ?_
        refine j_iald (pc := 103) C 0 rfl (v := g46 ((54 + (6 * j)) + 1)) (vp_in_nI (by omega) (by decide)) (by rw [nI_clamp (by omega)]) d_Model_flowOf_103 ?_
        refine j_idiv (pc := 104) C (v := (v1 - r77) / (g46 ((54 + (6 * j)) + 1))) d_Model_flowOf_104 (hS j (by omega) c80) rfl ?_
        refine j_aload_n (pc := 105) C d_Model_flowOf_105 rfl 3 rfl ?_
        refine j_get (pc := 106) C gf_Model_127 1 rfl rfl d_Model_flowOf_106 ?_
        refine j_iload (pc := 109) C d_Model_flowOf_109 2 rfl ?_
        refine j_iconst (pc := 111) C (v := 1) d_Model_flowOf_111 (by decide) ?_
        refine j_iadd (pc := 112) C (v := nI ((54 + (6 * j)) + 1)) d_Model_flowOf_112 (nI_add _ _) ?_
        refine j_iald (pc := 113) C 0 rfl (v := g46 ((54 + (6 * j)) + 1)) (vp_in_nI (by omega) (by decide)) (by rw [nI_clamp (by omega)]) d_Model_flowOf_113 ?_
        refine j_imul (pc := 114) C (v := ((v1 - r77) / (g46 ((54 + (6 * j)) + 1))) * (g46 ((54 + (6 * j)) + 1))) d_Model_flowOf_114 rfl ?_
        refine j_anyI (fun v88 => ?_)
        refine j_aload_n (pc := 115) C d_Model_flowOf_115 rfl 3 rfl ?_
        refine j_get (pc := 116) C gf_Model_127 1 rfl rfl d_Model_flowOf_116 ?_
        refine j_iload (pc := 119) C d_Model_flowOf_119 2 rfl ?_
        refine j_iconst (pc := 121) C (v := 4) d_Model_flowOf_121 (by decide) ?_
        refine j_iadd (pc := 122) C (v := nI ((54 + (6 * j)) + 4)) d_Model_flowOf_122 (nI_add _ _) ?_
        refine j_iald (pc := 123) C 0 rfl (v := g46 ((54 + (6 * j)) + 4)) (vp_in_nI (by omega) (by decide)) (by rw [nI_clamp (by omega)]) d_Model_flowOf_123 ?_
        refine j_imul (pc := 124) C (v := v88 * (g46 ((54 + (6 * j)) + 4))) d_Model_flowOf_124 rfl ?_
        refine j_anyI (fun v89 => ?_)
        refine j_istore (pc := 125) C (lv' := [(6, .int v89), (5, .int (v1 - r77)), (4, .int (nI (54 + (6 * j)))), (0, .ref mo), (1, .int (nI j)), (2, .int v1), (3, .int v2)]) d_Model_flowOf_125 (by decide) rfl ?_
        refine j_aload_n (pc := 127) C d_Model_flowOf_127 rfl 3 rfl ?_
        refine j_get (pc := 128) C gf_Model_127 1 rfl rfl d_Model_flowOf_128 ?_
        refine j_iload (pc := 131) C d_Model_flowOf_131 2 rfl ?_
        refine j_iald (pc := 133) C 0 rfl (v := g46 (54 + (6 * j))) (vp_in_nI (by omega) (by decide)) (by rw [nI_clamp (by omega)]) d_Model_flowOf_133 ?_
        refine j_iconst (pc := 134) C (v := 3) d_Model_flowOf_134 (by decide) ?_
        refine j_icmp_ne (pc := 135) C (tgt := 174) d_Model_flowOf_135 (by decide) (fun c90 => ?_) (fun c90 => ?_)
        · refine j_iload (pc := 174) C d_Model_flowOf_174 0 rfl ?_
          refine j_iload_n (pc := 176) C d_Model_flowOf_176 rfl 6 rfl ?_
          refine j_icmp_ge (pc := 177) C (tgt := 185) d_Model_flowOf_177 (by decide) (fun c91 => ?_) (fun c91 => ?_)
          · refine j_iload_n (pc := 185) C d_Model_flowOf_185 rfl 6 rfl ?_
            exact j_iret (pc := 186) C hr rfl () trivial [1, 0, 2] rfl (by decide) (by decide) (by decide) d_Model_flowOf_186
          · refine j_iload (pc := 180) C d_Model_flowOf_180 0 rfl ?_
            refine j_goto (pc := 182) C (tgt := 186) d_Model_flowOf_182 (by decide) ?_
            exact j_iret (pc := 186) C hr rfl () trivial [1, 0, 2] rfl (by decide) (by decide) (by decide) d_Model_flowOf_186
        · refine j_aload_n (pc := 138) C d_Model_flowOf_138 rfl 3 rfl ?_
          refine j_get (pc := 139) C gf_Model_158 1 rfl rfl d_Model_flowOf_139 ?_
          refine j_iconst (pc := 142) C (v := 0) d_Model_flowOf_142 (by decide) ?_
          refine j_iald (pc := 143) C 2 rfl (v := g62 0) (vin (by decide)) rfl d_Model_flowOf_143 ?_
          refine j_i2l (pc := 144) C (v := (g62 0).toInt64) d_Model_flowOf_144 rfl ?_
          refine j_aload_n (pc := 145) C d_Model_flowOf_145 rfl 3 rfl ?_
          refine j_get (pc := 146) C gf_Model_127 1 rfl rfl d_Model_flowOf_146 ?_
          refine j_iload (pc := 149) C d_Model_flowOf_149 2 rfl ?_
          refine j_iconst (pc := 151) C (v := 1) d_Model_flowOf_151 (by decide) ?_
          refine j_iadd (pc := 152) C (v := nI ((54 + (6 * j)) + 1)) d_Model_flowOf_152 (nI_add _ _) ?_
          refine j_iald (pc := 153) C 0 rfl (v := g46 ((54 + (6 * j)) + 1)) (vp_in_nI (by omega) (by decide)) (by rw [nI_clamp (by omega)]) d_Model_flowOf_153 ?_
          refine j_i2l (pc := 154) C (v := (g46 ((54 + (6 * j)) + 1)).toInt64) d_Model_flowOf_154 rfl ?_
          refine j_aload_n (pc := 155) C d_Model_flowOf_155 rfl 3 rfl ?_
          refine j_get (pc := 156) C gf_Model_127 1 rfl rfl d_Model_flowOf_156 ?_
          refine j_iload (pc := 159) C d_Model_flowOf_159 2 rfl ?_
          refine j_iconst (pc := 161) C (v := 2) d_Model_flowOf_161 (by decide) ?_
          refine j_iadd (pc := 162) C (v := nI ((54 + (6 * j)) + 2)) d_Model_flowOf_162 (nI_add _ _) ?_
          refine j_iald (pc := 163) C 0 rfl (v := g46 ((54 + (6 * j)) + 2)) (vp_in_nI (by omega) (by decide)) (by rw [nI_clamp (by omega)]) d_Model_flowOf_163 ?_
          refine j_i2l (pc := 164) C (v := (g46 ((54 + (6 * j)) + 2)).toInt64) d_Model_flowOf_164 rfl ?_
          refine j_callSi (pc := 165) C (c_isIn_any l D y ((g62 0).toInt64) ((g46 ((54 + (6 * j)) + 1)).toInt64) ((g46 ((54 + (6 * j)) + 2)).toInt64)) kw_Model_240 ks_Model_isIn ⟨by decide, by decide⟩ ⟨by decide, by decide⟩ (wr := [(ma 46, .inl (y 0, 108, .inl g46)), MB mo ma (nI t1) i2 i3 i4 i5 i6 i7 i8 i42 i49 i51 i53 i54 i59 i61 i64 i66 (nI t67) i76 i78, (ma 62, .inl (y 0, 63, .inl g62))]) [] [0, 1, 2] rfl rfl (by decide) (by decide) (by decide) (As := [.long ((g62 0).toInt64), .long ((g46 ((54 + (6 * j)) + 1)).toInt64), .long ((g46 ((54 + (6 * j)) + 2)).toInt64)]) (rest := []) rfl (nb rfl) rfl d_Model_flowOf_165 (fun r92 _ hr92 => ?_)
          have xh93 := hr92
          refine j_ws (ws' := [(ma 46, .inl (y 0, 108, .inl g46)), MB mo ma (nI t1) i2 i3 i4 i5 i6 i7 i8 i42 i49 i51 i53 i54 i59 i61 i64 i66 (nI t67) i76 i78, (ma 62, .inl (y 0, 63, .inl g62))]) rfl ?_
          refine j_if_eq (pc := 168) C (tgt := 174) d_Model_flowOf_168 (by decide) (fun c94 => ?_) (fun c94 => ?_)
          · refine j_iload (pc := 174) C d_Model_flowOf_174 0 rfl ?_
            refine j_iload_n (pc := 176) C d_Model_flowOf_176 rfl 6 rfl ?_
            refine j_icmp_ge (pc := 177) C (tgt := 185) d_Model_flowOf_177 (by decide) (fun c95 => ?_) (fun c95 => ?_)
            · refine j_iload_n (pc := 185) C d_Model_flowOf_185 rfl 6 rfl ?_
              exact j_iret (pc := 186) C hr rfl () trivial [1, 0, 2] rfl (by decide) (by decide) (by decide) d_Model_flowOf_186
            · refine j_iload (pc := 180) C d_Model_flowOf_180 0 rfl ?_
              refine j_goto (pc := 182) C (tgt := 186) d_Model_flowOf_182 (by decide) ?_
              exact j_iret (pc := 186) C hr rfl () trivial [1, 0, 2] rfl (by decide) (by decide) (by decide) d_Model_flowOf_186
          · refine j_iconst (pc := 171) C (v := 0) d_Model_flowOf_171 (by decide) ?_
            refine j_istore (pc := 172) C (lv' := [(6, .int 0), (5, .int (v1 - r77)), (4, .int (nI (54 + (6 * j)))), (0, .ref mo), (1, .int (nI j)), (2, .int v1), (3, .int v2)]) d_Model_flowOf_172 (by decide) rfl ?_
            refine j_iload (pc := 174) C d_Model_flowOf_174 0 rfl ?_
            refine j_iload_n (pc := 176) C d_Model_flowOf_176 rfl 6 rfl ?_
            refine j_icmp_ge (pc := 177) C (tgt := 185) d_Model_flowOf_177 (by decide) (fun c96 => ?_) (fun c96 => ?_)
            · refine j_iload_n (pc := 185) C d_Model_flowOf_185 rfl 6 rfl ?_
              exact j_iret (pc := 186) C hr rfl () trivial [1, 0, 2] rfl (by decide) (by decide) (by decide) d_Model_flowOf_186
            · refine j_iload (pc := 180) C d_Model_flowOf_180 0 rfl ?_
              refine j_goto (pc := 182) C (tgt := 186) d_Model_flowOf_182 (by decide) ?_
              exact j_iret (pc := 186) C hr rfl () trivial [1, 0, 2] rfl (by decide) (by decide) (by decide) d_Model_flowOf_186
    · refine j_aload_n (pc := 56) C d_Model_flowOf_56 rfl 3 rfl ?_
      refine j_iload_n (pc := 57) C d_Model_flowOf_57 rfl 4 rfl ?_
      refine j_callVi (pc := 58) C (c_M_boards l D y mo ma t1 i2 i3 i4 i5 i6 i7 i8 i42 i49 i51 i53 i54 i59 i61 i64 i66 t67 i76 i78 g62 j hj) kw_Model_421 kv_Model_boards 0 10 rfl rfl ⟨by decide, by decide⟩ ⟨by decide, by decide⟩ (wr := [(ma 46, .inl (y 0, 108, .inl g46))]) [1, 2] [0] rfl rfl (by decide) (by decide) (by decide) (As := [.int (nI j)]) (rest := []) rfl (nb rfl) rfl d_Model_flowOf_58 (fun r97 _ hr97 => ?_)
      refine j_ws (ws' := [(ma 46, .inl (y 0, 108, .inl g46)), MB mo ma (nI t1) i2 i3 i4 i5 i6 i7 i8 i42 i49 i51 i53 i54 i59 i61 i64 i66 (nI t67) i76 i78, (ma 62, .inl (y 0, 63, .inl g62))]) rfl ?_
      refine j_if_le (pc := 61) C (tgt := 82) d_Model_flowOf_61 (by decide) (fun c98 => ?_) (fun c98 => ?_)
      · refine j_aload_n (pc := 82) C d_Model_flowOf_82 rfl 3 rfl ?_
        refine j_get (pc := 83) C gf_Model_127 1 rfl rfl d_Model_flowOf_83 ?_
        refine j_iload (pc := 86) C d_Model_flowOf_86 2 rfl ?_
        refine j_iald (pc := 88) C 0 rfl (v := g46 (54 + (6 * j))) (vp_in_nI (by omega) (by decide)) (by rw [nI_clamp (by omega)]) d_Model_flowOf_88 ?_
        refine j_iconst (pc := 89) C (v := 2) d_Model_flowOf_89 (by decide) ?_
        refine j_icmp_ne (pc := 90) C (tgt := 127) d_Model_flowOf_90 (by decide) (fun c99 => ?_) (fun c99 => ?_)
        · refine j_aload_n (pc := 127) C d_Model_flowOf_127 rfl 3 rfl ?_
          refine j_get (pc := 128) C gf_Model_127 1 rfl rfl d_Model_flowOf_128 ?_
          refine j_iload (pc := 131) C d_Model_flowOf_131 2 rfl ?_
          refine j_iald (pc := 133) C 0 rfl (v := g46 (54 + (6 * j))) (vp_in_nI (by omega) (by decide)) (by rw [nI_clamp (by omega)]) d_Model_flowOf_133 ?_
          refine j_iconst (pc := 134) C (v := 3) d_Model_flowOf_134 (by decide) ?_
          refine j_icmp_ne (pc := 135) C (tgt := 174) d_Model_flowOf_135 (by decide) (fun c100 => ?_) (fun c100 => ?_)
          · refine j_iload (pc := 174) C d_Model_flowOf_174 0 rfl ?_
            refine j_iload_n (pc := 176) C d_Model_flowOf_176 rfl 6 rfl ?_
            refine j_icmp_ge (pc := 177) C (tgt := 185) d_Model_flowOf_177 (by decide) (fun c101 => ?_) (fun c101 => ?_)
            · refine j_iload_n (pc := 185) C d_Model_flowOf_185 rfl 6 rfl ?_
              exact j_iret (pc := 186) C hr rfl () trivial [1, 0, 2] rfl (by decide) (by decide) (by decide) d_Model_flowOf_186
            · refine j_iload (pc := 180) C d_Model_flowOf_180 0 rfl ?_
              refine j_goto (pc := 182) C (tgt := 186) d_Model_flowOf_182 (by decide) ?_
              exact j_iret (pc := 186) C hr rfl () trivial [1, 0, 2] rfl (by decide) (by decide) (by decide) d_Model_flowOf_186
          · refine j_aload_n (pc := 138) C d_Model_flowOf_138 rfl 3 rfl ?_
            refine j_get (pc := 139) C gf_Model_158 1 rfl rfl d_Model_flowOf_139 ?_
            refine j_iconst (pc := 142) C (v := 0) d_Model_flowOf_142 (by decide) ?_
            refine j_iald (pc := 143) C 2 rfl (v := g62 0) (vin (by decide)) rfl d_Model_flowOf_143 ?_
            refine j_i2l (pc := 144) C (v := (g62 0).toInt64) d_Model_flowOf_144 rfl ?_
            refine j_aload_n (pc := 145) C d_Model_flowOf_145 rfl 3 rfl ?_
            refine j_get (pc := 146) C gf_Model_127 1 rfl rfl d_Model_flowOf_146 ?_
            refine j_iload (pc := 149) C d_Model_flowOf_149 2 rfl ?_
            refine j_iconst (pc := 151) C (v := 1) d_Model_flowOf_151 (by decide) ?_
            refine j_iadd (pc := 152) C (v := nI ((54 + (6 * j)) + 1)) d_Model_flowOf_152 (nI_add _ _) ?_
            refine j_iald (pc := 153) C 0 rfl (v := g46 ((54 + (6 * j)) + 1)) (vp_in_nI (by omega) (by decide)) (by rw [nI_clamp (by omega)]) d_Model_flowOf_153 ?_
            refine j_i2l (pc := 154) C (v := (g46 ((54 + (6 * j)) + 1)).toInt64) d_Model_flowOf_154 rfl ?_
            refine j_aload_n (pc := 155) C d_Model_flowOf_155 rfl 3 rfl ?_
            refine j_get (pc := 156) C gf_Model_127 1 rfl rfl d_Model_flowOf_156 ?_
            refine j_iload (pc := 159) C d_Model_flowOf_159 2 rfl ?_
            refine j_iconst (pc := 161) C (v := 2) d_Model_flowOf_161 (by decide) ?_
            refine j_iadd (pc := 162) C (v := nI ((54 + (6 * j)) + 2)) d_Model_flowOf_162 (nI_add _ _) ?_
            refine j_iald (pc := 163) C 0 rfl (v := g46 ((54 + (6 * j)) + 2)) (vp_in_nI (by omega) (by decide)) (by rw [nI_clamp (by omega)]) d_Model_flowOf_163 ?_
            refine j_i2l (pc := 164) C (v := (g46 ((54 + (6 * j)) + 2)).toInt64) d_Model_flowOf_164 rfl ?_
            refine j_callSi (pc := 165) C (c_isIn_any l D y ((g62 0).toInt64) ((g46 ((54 + (6 * j)) + 1)).toInt64) ((g46 ((54 + (6 * j)) + 2)).toInt64)) kw_Model_240 ks_Model_isIn ⟨by decide, by decide⟩ ⟨by decide, by decide⟩ (wr := [(ma 46, .inl (y 0, 108, .inl g46)), MB mo ma (nI t1) i2 i3 i4 i5 i6 i7 i8 i42 i49 i51 i53 i54 i59 i61 i64 i66 (nI t67) i76 i78, (ma 62, .inl (y 0, 63, .inl g62))]) [] [0, 1, 2] rfl rfl (by decide) (by decide) (by decide) (As := [.long ((g62 0).toInt64), .long ((g46 ((54 + (6 * j)) + 1)).toInt64), .long ((g46 ((54 + (6 * j)) + 2)).toInt64)]) (rest := []) rfl (nb rfl) rfl d_Model_flowOf_165 (fun r102 _ hr102 => ?_)
            have xh103 := hr102
            refine j_ws (ws' := [(ma 46, .inl (y 0, 108, .inl g46)), MB mo ma (nI t1) i2 i3 i4 i5 i6 i7 i8 i42 i49 i51 i53 i54 i59 i61 i64 i66 (nI t67) i76 i78, (ma 62, .inl (y 0, 63, .inl g62))]) rfl ?_
            refine j_if_eq (pc := 168) C (tgt := 174) d_Model_flowOf_168 (by decide) (fun c104 => ?_) (fun c104 => ?_)
            · refine j_iload (pc := 174) C d_Model_flowOf_174 0 rfl ?_
              refine j_iload_n (pc := 176) C d_Model_flowOf_176 rfl 6 rfl ?_
              refine j_icmp_ge (pc := 177) C (tgt := 185) d_Model_flowOf_177 (by decide) (fun c105 => ?_) (fun c105 => ?_)
              · refine j_iload_n (pc := 185) C d_Model_flowOf_185 rfl 6 rfl ?_
                exact j_iret (pc := 186) C hr rfl () trivial [1, 0, 2] rfl (by decide) (by decide) (by decide) d_Model_flowOf_186
              · refine j_iload (pc := 180) C d_Model_flowOf_180 0 rfl ?_
                refine j_goto (pc := 182) C (tgt := 186) d_Model_flowOf_182 (by decide) ?_
                exact j_iret (pc := 186) C hr rfl () trivial [1, 0, 2] rfl (by decide) (by decide) (by decide) d_Model_flowOf_186
            · refine j_iconst (pc := 171) C (v := 0) d_Model_flowOf_171 (by decide) ?_
              refine j_istore (pc := 172) C (lv' := [(6, .int 0), (5, .int (v1 - r77)), (4, .int (nI (54 + (6 * j)))), (0, .ref mo), (1, .int (nI j)), (2, .int v1), (3, .int v2)]) d_Model_flowOf_172 (by decide) rfl ?_
              refine j_iload (pc := 174) C d_Model_flowOf_174 0 rfl ?_
              refine j_iload_n (pc := 176) C d_Model_flowOf_176 rfl 6 rfl ?_
              refine j_icmp_ge (pc := 177) C (tgt := 185) d_Model_flowOf_177 (by decide) (fun c106 => ?_) (fun c106 => ?_)
              · refine j_iload_n (pc := 185) C d_Model_flowOf_185 rfl 6 rfl ?_
                exact j_iret (pc := 186) C hr rfl () trivial [1, 0, 2] rfl (by decide) (by decide) (by decide) d_Model_flowOf_186
              · refine j_iload (pc := 180) C d_Model_flowOf_180 0 rfl ?_
                refine j_goto (pc := 182) C (tgt := 186) d_Model_flowOf_182 (by decide) ?_
                exact j_iret (pc := 186) C hr rfl () trivial [1, 0, 2] rfl (by decide) (by decide) (by decide) d_Model_flowOf_186
        · refine j_iload (pc := 93) C d_Model_flowOf_93 1 rfl ?_
          refine j_aload_n (pc := 95) C d_Model_flowOf_95 rfl 3 rfl ?_
          refine j_get (pc := 96) C gf_Model_127 1 rfl rfl d_Model_flowOf_96 ?_
          refine j_iload (pc := 99) C d_Model_flowOf_99 2 rfl ?_
          refine j_iconst (pc := 101) C (v := 1) d_Model_flowOf_101 (by decide) ?_
          refine j_iadd (pc := 102) C (v := nI ((54 + (6 * j)) + 1)) d_Model_flowOf_102 (nI_add _ _) ?_
          refine j_iald (pc := 103) C 0 rfl (v := g46 ((54 + (6 * j)) + 1)) (vp_in_nI (by omega) (by decide)) (by rw [nI_clamp (by omega)]) d_Model_flowOf_103 ?_
          refine j_idiv (pc := 104) C (v := (v1 - r77) / (g46 ((54 + (6 * j)) + 1))) d_Model_flowOf_104 (hS j (by omega) c99) rfl ?_
          refine j_aload_n (pc := 105) C d_Model_flowOf_105 rfl 3 rfl ?_
          refine j_get (pc := 106) C gf_Model_127 1 rfl rfl d_Model_flowOf_106 ?_
          refine j_iload (pc := 109) C d_Model_flowOf_109 2 rfl ?_
          refine j_iconst (pc := 111) C (v := 1) d_Model_flowOf_111 (by decide) ?_
          refine j_iadd (pc := 112) C (v := nI ((54 + (6 * j)) + 1)) d_Model_flowOf_112 (nI_add _ _) ?_
          refine j_iald (pc := 113) C 0 rfl (v := g46 ((54 + (6 * j)) + 1)) (vp_in_nI (by omega) (by decide)) (by rw [nI_clamp (by omega)]) d_Model_flowOf_113 ?_
          refine j_imul (pc := 114) C (v := ((v1 - r77) / (g46 ((54 + (6 * j)) + 1))) * (g46 ((54 + (6 * j)) + 1))) d_Model_flowOf_114 rfl ?_
          refine j_anyI (fun v107 => ?_)
          refine j_aload_n (pc := 115) C d_Model_flowOf_115 rfl 3 rfl ?_
          refine j_get (pc := 116) C gf_Model_127 1 rfl rfl d_Model_flowOf_116 ?_
          refine j_iload (pc := 119) C d_Model_flowOf_119 2 rfl ?_
          refine j_iconst (pc := 121) C (v := 4) d_Model_flowOf_121 (by decide) ?_
          refine j_iadd (pc := 122) C (v := nI ((54 + (6 * j)) + 4)) d_Model_flowOf_122 (nI_add _ _) ?_
          refine j_iald (pc := 123) C 0 rfl (v := g46 ((54 + (6 * j)) + 4)) (vp_in_nI (by omega) (by decide)) (by rw [nI_clamp (by omega)]) d_Model_flowOf_123 ?_
          refine j_imul (pc := 124) C (v := v107 * (g46 ((54 + (6 * j)) + 4))) d_Model_flowOf_124 rfl ?_
          refine j_anyI (fun v108 => ?_)
          refine j_istore (pc := 125) C (lv' := [(6, .int v108), (5, .int (v1 - r77)), (4, .int (nI (54 + (6 * j)))), (0, .ref mo), (1, .int (nI j)), (2, .int v1), (3, .int v2)]) d_Model_flowOf_125 (by decide) rfl ?_
          refine j_aload_n (pc := 127) C d_Model_flowOf_127 rfl 3 rfl ?_
          refine j_get (pc := 128) C gf_Model_127 1 rfl rfl d_Model_flowOf_128 ?_
          refine j_iload (pc := 131) C d_Model_flowOf_131 2 rfl ?_
          refine j_iald (pc := 133) C 0 rfl (v := g46 (54 + (6 * j))) (vp_in_nI (by omega) (by decide)) (by rw [nI_clamp (by omega)]) d_Model_flowOf_133 ?_
          refine j_iconst (pc := 134) C (v := 3) d_Model_flowOf_134 (by decide) ?_
          refine j_icmp_ne (pc := 135) C (tgt := 174) d_Model_flowOf_135 (by decide) (fun c109 => ?_) (fun c109 => ?_)
          · refine j_iload (pc := 174) C d_Model_flowOf_174 0 rfl ?_
            refine j_iload_n (pc := 176) C d_Model_flowOf_176 rfl 6 rfl ?_
            refine j_icmp_ge (pc := 177) C (tgt := 185) d_Model_flowOf_177 (by decide) (fun c110 => ?_) (fun c110 => ?_)
            · refine j_iload_n (pc := 185) C d_Model_flowOf_185 rfl 6 rfl ?_
              exact j_iret (pc := 186) C hr rfl () trivial [1, 0, 2] rfl (by decide) (by decide) (by decide) d_Model_flowOf_186
            · refine j_iload (pc := 180) C d_Model_flowOf_180 0 rfl ?_
              refine j_goto (pc := 182) C (tgt := 186) d_Model_flowOf_182 (by decide) ?_
              exact j_iret (pc := 186) C hr rfl () trivial [1, 0, 2] rfl (by decide) (by decide) (by decide) d_Model_flowOf_186
          · refine j_aload_n (pc := 138) C d_Model_flowOf_138 rfl 3 rfl ?_
            refine j_get (pc := 139) C gf_Model_158 1 rfl rfl d_Model_flowOf_139 ?_
            refine j_iconst (pc := 142) C (v := 0) d_Model_flowOf_142 (by decide) ?_
            refine j_iald (pc := 143) C 2 rfl (v := g62 0) (vin (by decide)) rfl d_Model_flowOf_143 ?_
            refine j_i2l (pc := 144) C (v := (g62 0).toInt64) d_Model_flowOf_144 rfl ?_
            refine j_aload_n (pc := 145) C d_Model_flowOf_145 rfl 3 rfl ?_
            refine j_get (pc := 146) C gf_Model_127 1 rfl rfl d_Model_flowOf_146 ?_
            refine j_iload (pc := 149) C d_Model_flowOf_149 2 rfl ?_
            refine j_iconst (pc := 151) C (v := 1) d_Model_flowOf_151 (by decide) ?_
            refine j_iadd (pc := 152) C (v := nI ((54 + (6 * j)) + 1)) d_Model_flowOf_152 (nI_add _ _) ?_
            refine j_iald (pc := 153) C 0 rfl (v := g46 ((54 + (6 * j)) + 1)) (vp_in_nI (by omega) (by decide)) (by rw [nI_clamp (by omega)]) d_Model_flowOf_153 ?_
            refine j_i2l (pc := 154) C (v := (g46 ((54 + (6 * j)) + 1)).toInt64) d_Model_flowOf_154 rfl ?_
            refine j_aload_n (pc := 155) C d_Model_flowOf_155 rfl 3 rfl ?_
            refine j_get (pc := 156) C gf_Model_127 1 rfl rfl d_Model_flowOf_156 ?_
            refine j_iload (pc := 159) C d_Model_flowOf_159 2 rfl ?_
            refine j_iconst (pc := 161) C (v := 2) d_Model_flowOf_161 (by decide) ?_
            refine j_iadd (pc := 162) C (v := nI ((54 + (6 * j)) + 2)) d_Model_flowOf_162 (nI_add _ _) ?_
            refine j_iald (pc := 163) C 0 rfl (v := g46 ((54 + (6 * j)) + 2)) (vp_in_nI (by omega) (by decide)) (by rw [nI_clamp (by omega)]) d_Model_flowOf_163 ?_
            refine j_i2l (pc := 164) C (v := (g46 ((54 + (6 * j)) + 2)).toInt64) d_Model_flowOf_164 rfl ?_
            refine j_callSi (pc := 165) C (c_isIn_any l D y ((g62 0).toInt64) ((g46 ((54 + (6 * j)) + 1)).toInt64) ((g46 ((54 + (6 * j)) + 2)).toInt64)) kw_Model_240 ks_Model_isIn ⟨by decide, by decide⟩ ⟨by decide, by decide⟩ (wr := [(ma 46, .inl (y 0, 108, .inl g46)), MB mo ma (nI t1) i2 i3 i4 i5 i6 i7 i8 i42 i49 i51 i53 i54 i59 i61 i64 i66 (nI t67) i76 i78, (ma 62, .inl (y 0, 63, .inl g62))]) [] [0, 1, 2] rfl rfl (by decide) (by decide) (by decide) (As := [.long ((g62 0).toInt64), .long ((g46 ((54 + (6 * j)) + 1)).toInt64), .long ((g46 ((54 + (6 * j)) + 2)).toInt64)]) (rest := []) rfl (nb rfl) rfl d_Model_flowOf_165 (fun r111 _ hr111 => ?_)
            have xh112 := hr111
            refine j_ws (ws' := [(ma 46, .inl (y 0, 108, .inl g46)), MB mo ma (nI t1) i2 i3 i4 i5 i6 i7 i8 i42 i49 i51 i53 i54 i59 i61 i64 i66 (nI t67) i76 i78, (ma 62, .inl (y 0, 63, .inl g62))]) rfl ?_
            refine j_if_eq (pc := 168) C (tgt := 174) d_Model_flowOf_168 (by decide) (fun c113 => ?_) (fun c113 => ?_)
            · refine j_iload (pc := 174) C d_Model_flowOf_174 0 rfl ?_
              refine j_iload_n (pc := 176) C d_Model_flowOf_176 rfl 6 rfl ?_
              refine j_icmp_ge (pc := 177) C (tgt := 185) d_Model_flowOf_177 (by decide) (fun c114 => ?_) (fun c114 => ?_)
              · refine j_iload_n (pc := 185) C d_Model_flowOf_185 rfl 6 rfl ?_
                exact j_iret (pc := 186) C hr rfl () trivial [1, 0, 2] rfl (by decide) (by decide) (by decide) d_Model_flowOf_186
              · refine j_iload (pc := 180) C d_Model_flowOf_180 0 rfl ?_
                refine j_goto (pc := 182) C (tgt := 186) d_Model_flowOf_182 (by decide) ?_
                exact j_iret (pc := 186) C hr rfl () trivial [1, 0, 2] rfl (by decide) (by decide) (by decide) d_Model_flowOf_186
            · refine j_iconst (pc := 171) C (v := 0) d_Model_flowOf_171 (by decide) ?_
              refine j_istore (pc := 172) C (lv' := [(6, .int 0), (5, .int (v1 - r77)), (4, .int (nI (54 + (6 * j)))), (0, .ref mo), (1, .int (nI j)), (2, .int v1), (3, .int v2)]) d_Model_flowOf_172 (by decide) rfl ?_
              refine j_iload (pc := 174) C d_Model_flowOf_174 0 rfl ?_
              refine j_iload_n (pc := 176) C d_Model_flowOf_176 rfl 6 rfl ?_
              refine j_icmp_ge (pc := 177) C (tgt := 185) d_Model_flowOf_177 (by decide) (fun c115 => ?_) (fun c115 => ?_)
              · refine j_iload_n (pc := 185) C d_Model_flowOf_185 rfl 6 rfl ?_
                exact j_iret (pc := 186) C hr rfl () trivial [1, 0, 2] rfl (by decide) (by decide) (by decide) d_Model_flowOf_186
              · refine j_iload (pc := 180) C d_Model_flowOf_180 0 rfl ?_
                refine j_goto (pc := 182) C (tgt := 186) d_Model_flowOf_182 (by decide) ?_
                exact j_iret (pc := 186) C hr rfl () trivial [1, 0, 2] rfl (by decide) (by decide) (by decide) d_Model_flowOf_186
      · refine j_iload_n (pc := 64) C d_Model_flowOf_64 rfl 5 rfl ?_
        refine j_if_le (pc := 65) C (tgt := 82) d_Model_flowOf_65 (by decide) (fun c116 => ?_) (fun c116 => ?_)
        · refine j_aload_n (pc := 82) C d_Model_flowOf_82 rfl 3 rfl ?_
          refine j_get (pc := 83) C gf_Model_127 1 rfl rfl d_Model_flowOf_83 ?_
          refine j_iload (pc := 86) C d_Model_flowOf_86 2 rfl ?_
          refine j_iald (pc := 88) C 0 rfl (v := g46 (54 + (6 * j))) (vp_in_nI (by omega) (by decide)) (by rw [nI_clamp (by omega)]) d_Model_flowOf_88 ?_
          refine j_iconst (pc := 89) C (v := 2) d_Model_flowOf_89 (by decide) ?_
          refine j_icmp_ne (pc := 90) C (tgt := 127) d_Model_flowOf_90 (by decide) (fun c117 => ?_) (fun c117 => ?_)
          · refine j_aload_n (pc := 127) C d_Model_flowOf_127 rfl 3 rfl ?_
            refine j_get (pc := 128) C gf_Model_127 1 rfl rfl d_Model_flowOf_128 ?_
            refine j_iload (pc := 131) C d_Model_flowOf_131 2 rfl ?_
            refine j_iald (pc := 133) C 0 rfl (v := g46 (54 + (6 * j))) (vp_in_nI (by omega) (by decide)) (by rw [nI_clamp (by omega)]) d_Model_flowOf_133 ?_
            refine j_iconst (pc := 134) C (v := 3) d_Model_flowOf_134 (by decide) ?_
            refine j_icmp_ne (pc := 135) C (tgt := 174) d_Model_flowOf_135 (by decide) (fun c118 => ?_) (fun c118 => ?_)
            · refine j_iload (pc := 174) C d_Model_flowOf_174 0 rfl ?_
              refine j_iload_n (pc := 176) C d_Model_flowOf_176 rfl 6 rfl ?_
              refine j_icmp_ge (pc := 177) C (tgt := 185) d_Model_flowOf_177 (by decide) (fun c119 => ?_) (fun c119 => ?_)
              · refine j_iload_n (pc := 185) C d_Model_flowOf_185 rfl 6 rfl ?_
                exact j_iret (pc := 186) C hr rfl () trivial [1, 0, 2] rfl (by decide) (by decide) (by decide) d_Model_flowOf_186
              · refine j_iload (pc := 180) C d_Model_flowOf_180 0 rfl ?_
                refine j_goto (pc := 182) C (tgt := 186) d_Model_flowOf_182 (by decide) ?_
                exact j_iret (pc := 186) C hr rfl () trivial [1, 0, 2] rfl (by decide) (by decide) (by decide) d_Model_flowOf_186
            · refine j_aload_n (pc := 138) C d_Model_flowOf_138 rfl 3 rfl ?_
              refine j_get (pc := 139) C gf_Model_158 1 rfl rfl d_Model_flowOf_139 ?_
              refine j_iconst (pc := 142) C (v := 0) d_Model_flowOf_142 (by decide) ?_
              refine j_iald (pc := 143) C 2 rfl (v := g62 0) (vin (by decide)) rfl d_Model_flowOf_143 ?_
              refine j_i2l (pc := 144) C (v := (g62 0).toInt64) d_Model_flowOf_144 rfl ?_
              refine j_aload_n (pc := 145) C d_Model_flowOf_145 rfl 3 rfl ?_
              refine j_get (pc := 146) C gf_Model_127 1 rfl rfl d_Model_flowOf_146 ?_
              refine j_iload (pc := 149) C d_Model_flowOf_149 2 rfl ?_
              refine j_iconst (pc := 151) C (v := 1) d_Model_flowOf_151 (by decide) ?_
              refine j_iadd (pc := 152) C (v := nI ((54 + (6 * j)) + 1)) d_Model_flowOf_152 (nI_add _ _) ?_
              refine j_iald (pc := 153) C 0 rfl (v := g46 ((54 + (6 * j)) + 1)) (vp_in_nI (by omega) (by decide)) (by rw [nI_clamp (by omega)]) d_Model_flowOf_153 ?_
              refine j_i2l (pc := 154) C (v := (g46 ((54 + (6 * j)) + 1)).toInt64) d_Model_flowOf_154 rfl ?_
              refine j_aload_n (pc := 155) C d_Model_flowOf_155 rfl 3 rfl ?_
              refine j_get (pc := 156) C gf_Model_127 1 rfl rfl d_Model_flowOf_156 ?_
              refine j_iload (pc := 159) C d_Model_flowOf_159 2 rfl ?_
              refine j_iconst (pc := 161) C (v := 2) d_Model_flowOf_161 (by decide) ?_
              refine j_iadd (pc := 162) C (v := nI ((54 + (6 * j)) + 2)) d_Model_flowOf_162 (nI_add _ _) ?_
              refine j_iald (pc := 163) C 0 rfl (v := g46 ((54 + (6 * j)) + 2)) (vp_in_nI (by omega) (by decide)) (by rw [nI_clamp (by omega)]) d_Model_flowOf_163 ?_
              refine j_i2l (pc := 164) C (v := (g46 ((54 + (6 * j)) + 2)).toInt64) d_Model_flowOf_164 rfl ?_
              refine j_callSi (pc := 165) C (c_isIn_any l D y ((g62 0).toInt64) ((g46 ((54 + (6 * j)) + 1)).toInt64) ((g46 ((54 + (6 * j)) + 2)).toInt64)) kw_Model_240 ks_Model_isIn ⟨by decide, by decide⟩ ⟨by decide, by decide⟩ (wr := [(ma 46, .inl (y 0, 108, .inl g46)), MB mo ma (nI t1) i2 i3 i4 i5 i6 i7 i8 i42 i49 i51 i53 i54 i59 i61 i64 i66 (nI t67) i76 i78, (ma 62, .inl (y 0, 63, .inl g62))]) [] [0, 1, 2] rfl rfl (by decide) (by decide) (by decide) (As := [.long ((g62 0).toInt64), .long ((g46 ((54 + (6 * j)) + 1)).toInt64), .long ((g46 ((54 + (6 * j)) + 2)).toInt64)]) (rest := []) rfl (nb rfl) rfl d_Model_flowOf_165 (fun r120 _ hr120 => ?_)
              have xh121 := hr120
              refine j_ws (ws' := [(ma 46, .inl (y 0, 108, .inl g46)), MB mo ma (nI t1) i2 i3 i4 i5 i6 i7 i8 i42 i49 i51 i53 i54 i59 i61 i64 i66 (nI t67) i76 i78, (ma 62, .inl (y 0, 63, .inl g62))]) rfl ?_
              refine j_if_eq (pc := 168) C (tgt := 174) d_Model_flowOf_168 (by decide) (fun c122 => ?_) (fun c122 => ?_)
              · refine j_iload (pc := 174) C d_Model_flowOf_174 0 rfl ?_
                refine j_iload_n (pc := 176) C d_Model_flowOf_176 rfl 6 rfl ?_
                refine j_icmp_ge (pc := 177) C (tgt := 185) d_Model_flowOf_177 (by decide) (fun c123 => ?_) (fun c123 => ?_)
                · refine j_iload_n (pc := 185) C d_Model_flowOf_185 rfl 6 rfl ?_
                  exact j_iret (pc := 186) C hr rfl () trivial [1, 0, 2] rfl (by decide) (by decide) (by decide) d_Model_flowOf_186
                · refine j_iload (pc := 180) C d_Model_flowOf_180 0 rfl ?_
                  refine j_goto (pc := 182) C (tgt := 186) d_Model_flowOf_182 (by decide) ?_
                  exact j_iret (pc := 186) C hr rfl () trivial [1, 0, 2] rfl (by decide) (by decide) (by decide) d_Model_flowOf_186
              · refine j_iconst (pc := 171) C (v := 0) d_Model_flowOf_171 (by decide) ?_
                refine j_istore (pc := 172) C (lv' := [(6, .int 0), (5, .int (v1 - r77)), (4, .int (nI (54 + (6 * j)))), (0, .ref mo), (1, .int (nI j)), (2, .int v1), (3, .int v2)]) d_Model_flowOf_172 (by decide) rfl ?_
                refine j_iload (pc := 174) C d_Model_flowOf_174 0 rfl ?_
                refine j_iload_n (pc := 176) C d_Model_flowOf_176 rfl 6 rfl ?_
                refine j_icmp_ge (pc := 177) C (tgt := 185) d_Model_flowOf_177 (by decide) (fun c124 => ?_) (fun c124 => ?_)
                · refine j_iload_n (pc := 185) C d_Model_flowOf_185 rfl 6 rfl ?_
                  exact j_iret (pc := 186) C hr rfl () trivial [1, 0, 2] rfl (by decide) (by decide) (by decide) d_Model_flowOf_186
                · refine j_iload (pc := 180) C d_Model_flowOf_180 0 rfl ?_
                  refine j_goto (pc := 182) C (tgt := 186) d_Model_flowOf_182 (by decide) ?_
                  exact j_iret (pc := 186) C hr rfl () trivial [1, 0, 2] rfl (by decide) (by decide) (by decide) d_Model_flowOf_186
          · refine j_iload (pc := 93) C d_Model_flowOf_93 1 rfl ?_
            refine j_aload_n (pc := 95) C d_Model_flowOf_95 rfl 3 rfl ?_
            refine j_get (pc := 96) C gf_Model_127 1 rfl rfl d_Model_flowOf_96 ?_
            refine j_iload (pc := 99) C d_Model_flowOf_99 2 rfl ?_
            refine j_iconst (pc := 101) C (v := 1) d_Model_flowOf_101 (by decide) ?_
            refine j_iadd (pc := 102) C (v := nI ((54 + (6 * j)) + 1)) d_Model_flowOf_102 (nI_add _ _) ?_
            refine j_iald (pc := 103) C 0 rfl (v := g46 ((54 + (6 * j)) + 1)) (vp_in_nI (by omega) (by decide)) (by rw [nI_clamp (by omega)]) d_Model_flowOf_103 ?_
            refine j_idiv (pc := 104) C (v := (v1 - r77) / (g46 ((54 + (6 * j)) + 1))) d_Model_flowOf_104 (hS j (by omega) c117) rfl ?_
            refine j_aload_n (pc := 105) C d_Model_flowOf_105 rfl 3 rfl ?_
            refine j_get (pc := 106) C gf_Model_127 1 rfl rfl d_Model_flowOf_106 ?_
            refine j_iload (pc := 109) C d_Model_flowOf_109 2 rfl ?_
            refine j_iconst (pc := 111) C (v := 1) d_Model_flowOf_111 (by decide) ?_
            refine j_iadd (pc := 112) C (v := nI ((54 + (6 * j)) + 1)) d_Model_flowOf_112 (nI_add _ _) ?_
            refine j_iald (pc := 113) C 0 rfl (v := g46 ((54 + (6 * j)) + 1)) (vp_in_nI (by omega) (by decide)) (by rw [nI_clamp (by omega)]) d_Model_flowOf_113 ?_
            refine j_imul (pc := 114) C (v := ((v1 - r77) / (g46 ((54 + (6 * j)) + 1))) * (g46 ((54 + (6 * j)) + 1))) d_Model_flowOf_114 rfl ?_
            refine j_anyI (fun v125 => ?_)
            refine j_aload_n (pc := 115) C d_Model_flowOf_115 rfl 3 rfl ?_
            refine j_get (pc := 116) C gf_Model_127 1 rfl rfl d_Model_flowOf_116 ?_
            refine j_iload (pc := 119) C d_Model_flowOf_119 2 rfl ?_
            refine j_iconst (pc := 121) C (v := 4) d_Model_flowOf_121 (by decide) ?_
            refine j_iadd (pc := 122) C (v := nI ((54 + (6 * j)) + 4)) d_Model_flowOf_122 (nI_add _ _) ?_
            refine j_iald (pc := 123) C 0 rfl (v := g46 ((54 + (6 * j)) + 4)) (vp_in_nI (by omega) (by decide)) (by rw [nI_clamp (by omega)]) d_Model_flowOf_123 ?_
            refine j_imul (pc := 124) C (v := v125 * (g46 ((54 + (6 * j)) + 4))) d_Model_flowOf_124 rfl ?_
            refine j_anyI (fun v126 => ?_)
            refine j_istore (pc := 125) C (lv' := [(6, .int v126), (5, .int (v1 - r77)), (4, .int (nI (54 + (6 * j)))), (0, .ref mo), (1, .int (nI j)), (2, .int v1), (3, .int v2)]) d_Model_flowOf_125 (by decide) rfl ?_
            refine j_aload_n (pc := 127) C d_Model_flowOf_127 rfl 3 rfl ?_
            refine j_get (pc := 128) C gf_Model_127 1 rfl rfl d_Model_flowOf_128 ?_
            refine j_iload (pc := 131) C d_Model_flowOf_131 2 rfl ?_
            refine j_iald (pc := 133) C 0 rfl (v := g46 (54 + (6 * j))) (vp_in_nI (by omega) (by decide)) (by rw [nI_clamp (by omega)]) d_Model_flowOf_133 ?_
            refine j_iconst (pc := 134) C (v := 3) d_Model_flowOf_134 (by decide) ?_
            refine j_icmp_ne (pc := 135) C (tgt := 174) d_Model_flowOf_135 (by decide) (fun c127 => ?_) (fun c127 => ?_)
            · refine j_iload (pc := 174) C d_Model_flowOf_174 0 rfl ?_
              refine j_iload_n (pc := 176) C d_Model_flowOf_176 rfl 6 rfl ?_
              refine j_icmp_ge (pc := 177) C (tgt := 185) d_Model_flowOf_177 (by decide) (fun c128 => ?_) (fun c128 => ?_)
              · refine j_iload_n (pc := 185) C d_Model_flowOf_185 rfl 6 rfl ?_
                exact j_iret (pc := 186) C hr rfl () trivial [1, 0, 2] rfl (by decide) (by decide) (by decide) d_Model_flowOf_186
              · refine j_iload (pc := 180) C d_Model_flowOf_180 0 rfl ?_
                refine j_goto (pc := 182) C (tgt := 186) d_Model_flowOf_182 (by decide) ?_
                exact j_iret (pc := 186) C hr rfl () trivial [1, 0, 2] rfl (by decide) (by decide) (by decide) d_Model_flowOf_186
            · refine j_aload_n (pc := 138) C d_Model_flowOf_138 rfl 3 rfl ?_
              refine j_get (pc := 139) C gf_Model_158 1 rfl rfl d_Model_flowOf_139 ?_
              refine j_iconst (pc := 142) C (v := 0) d_Model_flowOf_142 (by decide) ?_
              refine j_iald (pc := 143) C 2 rfl (v := g62 0) (vin (by decide)) rfl d_Model_flowOf_143 ?_
              refine j_i2l (pc := 144) C (v := (g62 0).toInt64) d_Model_flowOf_144 rfl ?_
              refine j_aload_n (pc := 145) C d_Model_flowOf_145 rfl 3 rfl ?_
              refine j_get (pc := 146) C gf_Model_127 1 rfl rfl d_Model_flowOf_146 ?_
              refine j_iload (pc := 149) C d_Model_flowOf_149 2 rfl ?_
              refine j_iconst (pc := 151) C (v := 1) d_Model_flowOf_151 (by decide) ?_
              refine j_iadd (pc := 152) C (v := nI ((54 + (6 * j)) + 1)) d_Model_flowOf_152 (nI_add _ _) ?_
              refine j_iald (pc := 153) C 0 rfl (v := g46 ((54 + (6 * j)) + 1)) (vp_in_nI (by omega) (by decide)) (by rw [nI_clamp (by omega)]) d_Model_flowOf_153 ?_
              refine j_i2l (pc := 154) C (v := (g46 ((54 + (6 * j)) + 1)).toInt64) d_Model_flowOf_154 rfl ?_
              refine j_aload_n (pc := 155) C d_Model_flowOf_155 rfl 3 rfl ?_
              refine j_get (pc := 156) C gf_Model_127 1 rfl rfl d_Model_flowOf_156 ?_
              refine j_iload (pc := 159) C d_Model_flowOf_159 2 rfl ?_
              refine j_iconst (pc := 161) C (v := 2) d_Model_flowOf_161 (by decide) ?_
              refine j_iadd (pc := 162) C (v := nI ((54 + (6 * j)) + 2)) d_Model_flowOf_162 (nI_add _ _) ?_
              refine j_iald (pc := 163) C 0 rfl (v := g46 ((54 + (6 * j)) + 2)) (vp_in_nI (by omega) (by decide)) (by rw [nI_clamp (by omega)]) d_Model_flowOf_163 ?_
              refine j_i2l (pc := 164) C (v := (g46 ((54 + (6 * j)) + 2)).toInt64) d_Model_flowOf_164 rfl ?_
              refine j_callSi (pc := 165) C (c_isIn_any l D y ((g62 0).toInt64) ((g46 ((54 + (6 * j)) + 1)).toInt64) ((g46 ((54 + (6 * j)) + 2)).toInt64)) kw_Model_240 ks_Model_isIn ⟨by decide, by decide⟩ ⟨by decide, by decide⟩ (wr := [(ma 46, .inl (y 0, 108, .inl g46)), MB mo ma (nI t1) i2 i3 i4 i5 i6 i7 i8 i42 i49 i51 i53 i54 i59 i61 i64 i66 (nI t67) i76 i78, (ma 62, .inl (y 0, 63, .inl g62))]) [] [0, 1, 2] rfl rfl (by decide) (by decide) (by decide) (As := [.long ((g62 0).toInt64), .long ((g46 ((54 + (6 * j)) + 1)).toInt64), .long ((g46 ((54 + (6 * j)) + 2)).toInt64)]) (rest := []) rfl (nb rfl) rfl d_Model_flowOf_165 (fun r129 _ hr129 => ?_)
              have xh130 := hr129
              refine j_ws (ws' := [(ma 46, .inl (y 0, 108, .inl g46)), MB mo ma (nI t1) i2 i3 i4 i5 i6 i7 i8 i42 i49 i51 i53 i54 i59 i61 i64 i66 (nI t67) i76 i78, (ma 62, .inl (y 0, 63, .inl g62))]) rfl ?_
              refine j_if_eq (pc := 168) C (tgt := 174) d_Model_flowOf_168 (by decide) (fun c131 => ?_) (fun c131 => ?_)
              · refine j_iload (pc := 174) C d_Model_flowOf_174 0 rfl ?_
                refine j_iload_n (pc := 176) C d_Model_flowOf_176 rfl 6 rfl ?_
                refine j_icmp_ge (pc := 177) C (tgt := 185) d_Model_flowOf_177 (by decide) (fun c132 => ?_) (fun c132 => ?_)
                · refine j_iload_n (pc := 185) C d_Model_flowOf_185 rfl 6 rfl ?_
                  exact j_iret (pc := 186) C hr rfl () trivial [1, 0, 2] rfl (by decide) (by decide) (by decide) d_Model_flowOf_186
                · refine j_iload (pc := 180) C d_Model_flowOf_180 0 rfl ?_
                  refine j_goto (pc := 182) C (tgt := 186) d_Model_flowOf_182 (by decide) ?_
                  exact j_iret (pc := 186) C hr rfl () trivial [1, 0, 2] rfl (by decide) (by decide) (by decide) d_Model_flowOf_186
              · refine j_iconst (pc := 171) C (v := 0) d_Model_flowOf_171 (by decide) ?_
                refine j_istore (pc := 172) C (lv' := [(6, .int 0), (5, .int (v1 - r77)), (4, .int (nI (54 + (6 * j)))), (0, .ref mo), (1, .int (nI j)), (2, .int v1), (3, .int v2)]) d_Model_flowOf_172 (by decide) rfl ?_
                refine j_iload (pc := 174) C d_Model_flowOf_174 0 rfl ?_
                refine j_iload_n (pc := 176) C d_Model_flowOf_176 rfl 6 rfl ?_
                refine j_icmp_ge (pc := 177) C (tgt := 185) d_Model_flowOf_177 (by decide) (fun c133 => ?_) (fun c133 => ?_)
                · refine j_iload_n (pc := 185) C d_Model_flowOf_185 rfl 6 rfl ?_
                  exact j_iret (pc := 186) C hr rfl () trivial [1, 0, 2] rfl (by decide) (by decide) (by decide) d_Model_flowOf_186
                · refine j_iload (pc := 180) C d_Model_flowOf_180 0 rfl ?_
                  refine j_goto (pc := 182) C (tgt := 186) d_Model_flowOf_182 (by decide) ?_
                  exact j_iret (pc := 186) C hr rfl () trivial [1, 0, 2] rfl (by decide) (by decide) (by decide) d_Model_flowOf_186
        · refine j_iload (pc := 68) C d_Model_flowOf_68 0 rfl ?_
          refine j_aload_n (pc := 70) C d_Model_flowOf_70 rfl 3 rfl ?_
          refine j_get (pc := 71) C gf_Model_127 1 rfl rfl d_Model_flowOf_71 ?_
          refine j_iload (pc := 74) C d_Model_flowOf_74 2 rfl ?_
          refine j_iconst (pc := 76) C (v := 1) d_Model_flowOf_76 (by decide) ?_
          refine j_iadd (pc := 77) C (v := nI ((54 + (6 * j)) + 1)) d_Model_flowOf_77 (nI_add _ _) ?_
          refine j_iald (pc := 78) C 0 rfl (v := g46 ((54 + (6 * j)) + 1)) (vp_in_nI (by omega) (by decide)) (by rw [nI_clamp (by omega)]) d_Model_flowOf_78 ?_
          refine j_iadd (pc := 79) C (v := v78 + (g46 ((54 + (6 * j)) + 1))) d_Model_flowOf_79 rfl ?_
          refine j_anyI (fun v134 => ?_)
          refine j_istore (pc := 80) C (lv' := [(6, .int v134), (5, .int (v1 - r77)), (4, .int (nI (54 + (6 * j)))), (0, .ref mo), (1, .int (nI j)), (2, .int v1), (3, .int v2)]) d_Model_flowOf_80 (by decide) rfl ?_
          refine j_aload_n (pc := 82) C d_Model_flowOf_82 rfl 3 rfl ?_
          refine j_get (pc := 83) C gf_Model_127 1 rfl rfl d_Model_flowOf_83 ?_
          refine j_iload (pc := 86) C d_Model_flowOf_86 2 rfl ?_
          refine j_iald (pc := 88) C 0 rfl (v := g46 (54 + (6 * j))) (vp_in_nI (by omega) (by decide)) (by rw [nI_clamp (by omega)]) d_Model_flowOf_88 ?_
          refine j_iconst (pc := 89) C (v := 2) d_Model_flowOf_89 (by decide) ?_
          refine j_icmp_ne (pc := 90) C (tgt := 127) d_Model_flowOf_90 (by decide) (fun c135 => ?_) (fun c135 => ?_)
          · refine j_aload_n (pc := 127) C d_Model_flowOf_127 rfl 3 rfl ?_
            refine j_get (pc := 128) C gf_Model_127 1 rfl rfl d_Model_flowOf_128 ?_
            refine j_iload (pc := 131) C d_Model_flowOf_131 2 rfl ?_
            refine j_iald (pc := 133) C 0 rfl (v := g46 (54 + (6 * j))) (vp_in_nI (by omega) (by decide)) (by rw [nI_clamp (by omega)]) d_Model_flowOf_133 ?_
            refine j_iconst (pc := 134) C (v := 3) d_Model_flowOf_134 (by decide) ?_
            refine j_icmp_ne (pc := 135) C (tgt := 174) d_Model_flowOf_135 (by decide) (fun c136 => ?_) (fun c136 => ?_)
            · refine j_iload (pc := 174) C d_Model_flowOf_174 0 rfl ?_
              refine j_iload_n (pc := 176) C d_Model_flowOf_176 rfl 6 rfl ?_
              refine j_icmp_ge (pc := 177) C (tgt := 185) d_Model_flowOf_177 (by decide) (fun c137 => ?_) (fun c137 => ?_)
              · refine j_iload_n (pc := 185) C d_Model_flowOf_185 rfl 6 rfl ?_
                exact j_iret (pc := 186) C hr rfl () trivial [1, 0, 2] rfl (by decide) (by decide) (by decide) d_Model_flowOf_186
              · refine j_iload (pc := 180) C d_Model_flowOf_180 0 rfl ?_
                refine j_goto (pc := 182) C (tgt := 186) d_Model_flowOf_182 (by decide) ?_
                exact j_iret (pc := 186) C hr rfl () trivial [1, 0, 2] rfl (by decide) (by decide) (by decide) d_Model_flowOf_186
            · refine j_aload_n (pc := 138) C d_Model_flowOf_138 rfl 3 rfl ?_
              refine j_get (pc := 139) C gf_Model_158 1 rfl rfl d_Model_flowOf_139 ?_
              refine j_iconst (pc := 142) C (v := 0) d_Model_flowOf_142 (by decide) ?_
              refine j_iald (pc := 143) C 2 rfl (v := g62 0) (vin (by decide)) rfl d_Model_flowOf_143 ?_
              refine j_i2l (pc := 144) C (v := (g62 0).toInt64) d_Model_flowOf_144 rfl ?_
              refine j_aload_n (pc := 145) C d_Model_flowOf_145 rfl 3 rfl ?_
              refine j_get (pc := 146) C gf_Model_127 1 rfl rfl d_Model_flowOf_146 ?_
              refine j_iload (pc := 149) C d_Model_flowOf_149 2 rfl ?_
              refine j_iconst (pc := 151) C (v := 1) d_Model_flowOf_151 (by decide) ?_
              refine j_iadd (pc := 152) C (v := nI ((54 + (6 * j)) + 1)) d_Model_flowOf_152 (nI_add _ _) ?_
              refine j_iald (pc := 153) C 0 rfl (v := g46 ((54 + (6 * j)) + 1)) (vp_in_nI (by omega) (by decide)) (by rw [nI_clamp (by omega)]) d_Model_flowOf_153 ?_
              refine j_i2l (pc := 154) C (v := (g46 ((54 + (6 * j)) + 1)).toInt64) d_Model_flowOf_154 rfl ?_
              refine j_aload_n (pc := 155) C d_Model_flowOf_155 rfl 3 rfl ?_
              refine j_get (pc := 156) C gf_Model_127 1 rfl rfl d_Model_flowOf_156 ?_
              refine j_iload (pc := 159) C d_Model_flowOf_159 2 rfl ?_
              refine j_iconst (pc := 161) C (v := 2) d_Model_flowOf_161 (by decide) ?_
              refine j_iadd (pc := 162) C (v := nI ((54 + (6 * j)) + 2)) d_Model_flowOf_162 (nI_add _ _) ?_
              refine j_iald (pc := 163) C 0 rfl (v := g46 ((54 + (6 * j)) + 2)) (vp_in_nI (by omega) (by decide)) (by rw [nI_clamp (by omega)]) d_Model_flowOf_163 ?_
              refine j_i2l (pc := 164) C (v := (g46 ((54 + (6 * j)) + 2)).toInt64) d_Model_flowOf_164 rfl ?_
              refine j_callSi (pc := 165) C (c_isIn_any l D y ((g62 0).toInt64) ((g46 ((54 + (6 * j)) + 1)).toInt64) ((g46 ((54 + (6 * j)) + 2)).toInt64)) kw_Model_240 ks_Model_isIn ⟨by decide, by decide⟩ ⟨by decide, by decide⟩ (wr := [(ma 46, .inl (y 0, 108, .inl g46)), MB mo ma (nI t1) i2 i3 i4 i5 i6 i7 i8 i42 i49 i51 i53 i54 i59 i61 i64 i66 (nI t67) i76 i78, (ma 62, .inl (y 0, 63, .inl g62))]) [] [0, 1, 2] rfl rfl (by decide) (by decide) (by decide) (As := [.long ((g62 0).toInt64), .long ((g46 ((54 + (6 * j)) + 1)).toInt64), .long ((g46 ((54 + (6 * j)) + 2)).toInt64)]) (rest := []) rfl (nb rfl) rfl d_Model_flowOf_165 (fun r138 _ hr138 => ?_)
              have xh139 := hr138
              refine j_ws (ws' := [(ma 46, .inl (y 0, 108, .inl g46)), MB mo ma (nI t1) i2 i3 i4 i5 i6 i7 i8 i42 i49 i51 i53 i54 i59 i61 i64 i66 (nI t67) i76 i78, (ma 62, .inl (y 0, 63, .inl g62))]) rfl ?_
              refine j_if_eq (pc := 168) C (tgt := 174) d_Model_flowOf_168 (by decide) (fun c140 => ?_) (fun c140 => ?_)
              · refine j_iload (pc := 174) C d_Model_flowOf_174 0 rfl ?_
                refine j_iload_n (pc := 176) C d_Model_flowOf_176 rfl 6 rfl ?_
                refine j_icmp_ge (pc := 177) C (tgt := 185) d_Model_flowOf_177 (by decide) (fun c141 => ?_) (fun c141 => ?_)
                · refine j_iload_n (pc := 185) C d_Model_flowOf_185 rfl 6 rfl ?_
                  exact j_iret (pc := 186) C hr rfl () trivial [1, 0, 2] rfl (by decide) (by decide) (by decide) d_Model_flowOf_186
                · refine j_iload (pc := 180) C d_Model_flowOf_180 0 rfl ?_
                  refine j_goto (pc := 182) C (tgt := 186) d_Model_flowOf_182 (by decide) ?_
                  exact j_iret (pc := 186) C hr rfl () trivial [1, 0, 2] rfl (by decide) (by decide) (by decide) d_Model_flowOf_186
              · refine j_iconst (pc := 171) C (v := 0) d_Model_flowOf_171 (by decide) ?_
                refine j_istore (pc := 172) C (lv' := [(6, .int 0), (5, .int (v1 - r77)), (4, .int (nI (54 + (6 * j)))), (0, .ref mo), (1, .int (nI j)), (2, .int v1), (3, .int v2)]) d_Model_flowOf_172 (by decide) rfl ?_
                refine j_iload (pc := 174) C d_Model_flowOf_174 0 rfl ?_
                refine j_iload_n (pc := 176) C d_Model_flowOf_176 rfl 6 rfl ?_
                refine j_icmp_ge (pc := 177) C (tgt := 185) d_Model_flowOf_177 (by decide) (fun c142 => ?_) (fun c142 => ?_)
                · refine j_iload_n (pc := 185) C d_Model_flowOf_185 rfl 6 rfl ?_
                  exact j_iret (pc := 186) C hr rfl () trivial [1, 0, 2] rfl (by decide) (by decide) (by decide) d_Model_flowOf_186
                · refine j_iload (pc := 180) C d_Model_flowOf_180 0 rfl ?_
                  refine j_goto (pc := 182) C (tgt := 186) d_Model_flowOf_182 (by decide) ?_
                  exact j_iret (pc := 186) C hr rfl () trivial [1, 0, 2] rfl (by decide) (by decide) (by decide) d_Model_flowOf_186
          · refine j_iload (pc := 93) C d_Model_flowOf_93 1 rfl ?_
            refine j_aload_n (pc := 95) C d_Model_flowOf_95 rfl 3 rfl ?_
            refine j_get (pc := 96) C gf_Model_127 1 rfl rfl d_Model_flowOf_96 ?_
            refine j_iload (pc := 99) C d_Model_flowOf_99 2 rfl ?_
            refine j_iconst (pc := 101) C (v := 1) d_Model_flowOf_101 (by decide) ?_
            refine j_iadd (pc := 102) C (v := nI ((54 + (6 * j)) + 1)) d_Model_flowOf_102 (nI_add _ _) ?_
            refine j_iald (pc := 103) C 0 rfl (v := g46 ((54 + (6 * j)) + 1)) (vp_in_nI (by omega) (by decide)) (by rw [nI_clamp (by omega)]) d_Model_flowOf_103 ?_
            refine j_idiv (pc := 104) C (v := (v1 - r77) / (g46 ((54 + (6 * j)) + 1))) d_Model_flowOf_104 (hS j (by omega) c135) rfl ?_
            refine j_aload_n (pc := 105) C d_Model_flowOf_105 rfl 3 rfl ?_
            refine j_get (pc := 106) C gf_Model_127 1 rfl rfl d_Model_flowOf_106 ?_
            refine j_iload (pc := 109) C d_Model_flowOf_109 2 rfl ?_
            refine j_iconst (pc := 111) C (v := 1) d_Model_flowOf_111 (by decide) ?_
            refine j_iadd (pc := 112) C (v := nI ((54 + (6 * j)) + 1)) d_Model_flowOf_112 (nI_add _ _) ?_
            refine j_iald (pc := 113) C 0 rfl (v := g46 ((54 + (6 * j)) + 1)) (vp_in_nI (by omega) (by decide)) (by rw [nI_clamp (by omega)]) d_Model_flowOf_113 ?_
            refine j_imul (pc := 114) C (v := ((v1 - r77) / (g46 ((54 + (6 * j)) + 1))) * (g46 ((54 + (6 * j)) + 1))) d_Model_flowOf_114 rfl ?_
            refine j_anyI (fun v143 => ?_)
            refine j_aload_n (pc := 115) C d_Model_flowOf_115 rfl 3 rfl ?_
            refine j_get (pc := 116) C gf_Model_127 1 rfl rfl d_Model_flowOf_116 ?_
            refine j_iload (pc := 119) C d_Model_flowOf_119 2 rfl ?_
            refine j_iconst (pc := 121) C (v := 4) d_Model_flowOf_121 (by decide) ?_
            refine j_iadd (pc := 122) C (v := nI ((54 + (6 * j)) + 4)) d_Model_flowOf_122 (nI_add _ _) ?_
            refine j_iald (pc := 123) C 0 rfl (v := g46 ((54 + (6 * j)) + 4)) (vp_in_nI (by omega) (by decide)) (by rw [nI_clamp (by omega)]) d_Model_flowOf_123 ?_
            refine j_imul (pc := 124) C (v := v143 * (g46 ((54 + (6 * j)) + 4))) d_Model_flowOf_124 rfl ?_
            refine j_anyI (fun v144 => ?_)
            refine j_istore (pc := 125) C (lv' := [(6, .int v144), (5, .int (v1 - r77)), (4, .int (nI (54 + (6 * j)))), (0, .ref mo), (1, .int (nI j)), (2, .int v1), (3, .int v2)]) d_Model_flowOf_125 (by decide) rfl ?_
            refine j_aload_n (pc := 127) C d_Model_flowOf_127 rfl 3 rfl ?_
            refine j_get (pc := 128) C gf_Model_127 1 rfl rfl d_Model_flowOf_128 ?_
            refine j_iload (pc := 131) C d_Model_flowOf_131 2 rfl ?_
            refine j_iald (pc := 133) C 0 rfl (v := g46 (54 + (6 * j))) (vp_in_nI (by omega) (by decide)) (by rw [nI_clamp (by omega)]) d_Model_flowOf_133 ?_
            refine j_iconst (pc := 134) C (v := 3) d_Model_flowOf_134 (by decide) ?_
            refine j_icmp_ne (pc := 135) C (tgt := 174) d_Model_flowOf_135 (by decide) (fun c145 => ?_) (fun c145 => ?_)
            · refine j_iload (pc := 174) C d_Model_flowOf_174 0 rfl ?_
              refine j_iload_n (pc := 176) C d_Model_flowOf_176 rfl 6 rfl ?_
              refine j_icmp_ge (pc := 177) C (tgt := 185) d_Model_flowOf_177 (by decide) (fun c146 => ?_) (fun c146 => ?_)
              · refine j_iload_n (pc := 185) C d_Model_flowOf_185 rfl 6 rfl ?_
                exact j_iret (pc := 186) C hr rfl () trivial [1, 0, 2] rfl (by decide) (by decide) (by decide) d_Model_flowOf_186
              · refine j_iload (pc := 180) C d_Model_flowOf_180 0 rfl ?_
                refine j_goto (pc := 182) C (tgt := 186) d_Model_flowOf_182 (by decide) ?_
                exact j_iret (pc := 186) C hr rfl () trivial [1, 0, 2] rfl (by decide) (by decide) (by decide) d_Model_flowOf_186
            · refine j_aload_n (pc := 138) C d_Model_flowOf_138 rfl 3 rfl ?_
              refine j_get (pc := 139) C gf_Model_158 1 rfl rfl d_Model_flowOf_139 ?_
              refine j_iconst (pc := 142) C (v := 0) d_Model_flowOf_142 (by decide) ?_
              refine j_iald (pc := 143) C 2 rfl (v := g62 0) (vin (by decide)) rfl d_Model_flowOf_143 ?_
              refine j_i2l (pc := 144) C (v := (g62 0).toInt64) d_Model_flowOf_144 rfl ?_
              refine j_aload_n (pc := 145) C d_Model_flowOf_145 rfl 3 rfl ?_
              refine j_get (pc := 146) C gf_Model_127 1 rfl rfl d_Model_flowOf_146 ?_
              refine j_iload (pc := 149) C d_Model_flowOf_149 2 rfl ?_
              refine j_iconst (pc := 151) C (v := 1) d_Model_flowOf_151 (by decide) ?_
              refine j_iadd (pc := 152) C (v := nI ((54 + (6 * j)) + 1)) d_Model_flowOf_152 (nI_add _ _) ?_
              refine j_iald (pc := 153) C 0 rfl (v := g46 ((54 + (6 * j)) + 1)) (vp_in_nI (by omega) (by decide)) (by rw [nI_clamp (by omega)]) d_Model_flowOf_153 ?_
              refine j_i2l (pc := 154) C (v := (g46 ((54 + (6 * j)) + 1)).toInt64) d_Model_flowOf_154 rfl ?_
              refine j_aload_n (pc := 155) C d_Model_flowOf_155 rfl 3 rfl ?_
              refine j_get (pc := 156) C gf_Model_127 1 rfl rfl d_Model_flowOf_156 ?_
              refine j_iload (pc := 159) C d_Model_flowOf_159 2 rfl ?_
              refine j_iconst (pc := 161) C (v := 2) d_Model_flowOf_161 (by decide) ?_
              refine j_iadd (pc := 162) C (v := nI ((54 + (6 * j)) + 2)) d_Model_flowOf_162 (nI_add _ _) ?_
              refine j_iald (pc := 163) C 0 rfl (v := g46 ((54 + (6 * j)) + 2)) (vp_in_nI (by omega) (by decide)) (by rw [nI_clamp (by omega)]) d_Model_flowOf_163 ?_
              refine j_i2l (pc := 164) C (v := (g46 ((54 + (6 * j)) + 2)).toInt64) d_Model_flowOf_164 rfl ?_
              refine j_callSi (pc := 165) C (c_isIn_any l D y ((g62 0).toInt64) ((g46 ((54 + (6 * j)) + 1)).toInt64) ((g46 ((54 + (6 * j)) + 2)).toInt64)) kw_Model_240 ks_Model_isIn ⟨by decide, by decide⟩ ⟨by decide, by decide⟩ (wr := [(ma 46, .inl (y 0, 108, .inl g46)), MB mo ma (nI t1) i2 i3 i4 i5 i6 i7 i8 i42 i49 i51 i53 i54 i59 i61 i64 i66 (nI t67) i76 i78, (ma 62, .inl (y 0, 63, .inl g62))]) [] [0, 1, 2] rfl rfl (by decide) (by decide) (by decide) (As := [.long ((g62 0).toInt64), .long ((g46 ((54 + (6 * j)) + 1)).toInt64), .long ((g46 ((54 + (6 * j)) + 2)).toInt64)]) (rest := []) rfl (nb rfl) rfl d_Model_flowOf_165 (fun r147 _ hr147 => ?_)
              have xh148 := hr147
              refine j_ws (ws' := [(ma 46, .inl (y 0, 108, .inl g46)), MB mo ma (nI t1) i2 i3 i4 i5 i6 i7 i8 i42 i49 i51 i53 i54 i59 i61 i64 i66 (nI t67) i76 i78, (ma 62, .inl (y 0, 63, .inl g62))]) rfl ?_
              refine j_if_eq (pc := 168) C (tgt := 174) d_Model_flowOf_168 (by decide) (fun c149 => ?_) (fun c149 => ?_)
              · refine j_iload (pc := 174) C d_Model_flowOf_174 0 rfl ?_
                refine j_iload_n (pc := 176) C d_Model_flowOf_176 rfl 6 rfl ?_
                refine j_icmp_ge (pc := 177) C (tgt := 185) d_Model_flowOf_177 (by decide) (fun c150 => ?_) (fun c150 => ?_)
                · refine j_iload_n (pc := 185) C d_Model_flowOf_185 rfl 6 rfl ?_
                  exact j_iret (pc := 186) C hr rfl () trivial [1, 0, 2] rfl (by decide) (by decide) (by decide) d_Model_flowOf_186
                · refine j_iload (pc := 180) C d_Model_flowOf_180 0 rfl ?_
                  refine j_goto (pc := 182) C (tgt := 186) d_Model_flowOf_182 (by decide) ?_
                  exact j_iret (pc := 186) C hr rfl () trivial [1, 0, 2] rfl (by decide) (by decide) (by decide) d_Model_flowOf_186
              · refine j_iconst (pc := 171) C (v := 0) d_Model_flowOf_171 (by decide) ?_
                refine j_istore (pc := 172) C (lv' := [(6, .int 0), (5, .int (v1 - r77)), (4, .int (nI (54 + (6 * j)))), (0, .ref mo), (1, .int (nI j)), (2, .int v1), (3, .int v2)]) d_Model_flowOf_172 (by decide) rfl ?_
                refine j_iload (pc := 174) C d_Model_flowOf_174 0 rfl ?_
                refine j_iload_n (pc := 176) C d_Model_flowOf_176 rfl 6 rfl ?_
                refine j_icmp_ge (pc := 177) C (tgt := 185) d_Model_flowOf_177 (by decide) (fun c151 => ?_) (fun c151 => ?_)
                · refine j_iload_n (pc := 185) C d_Model_flowOf_185 rfl 6 rfl ?_
                  exact j_iret (pc := 186) C hr rfl () trivial [1, 0, 2] rfl (by decide) (by decide) (by decide) d_Model_flowOf_186
                · refine j_iload (pc := 180) C d_Model_flowOf_180 0 rfl ?_
                  refine j_goto (pc := 182) C (tgt := 186) d_Model_flowOf_182 (by decide) ?_
                  exact j_iret (pc := 186) C hr rfl () trivial [1, 0, 2] rfl (by decide) (by decide) (by decide) d_Model_flowOf_186
theorem d_Model_flowsNow_0 : decode prog_13_method_63_code 0 = .ok (.aload_n 0, 1) := by decide +kernel
theorem d_Model_flowsNow_1 : decode prog_13_method_63_code 1 = .ok (.invokevirtual 427, 3) := by decide +kernel
theorem kw_Model_427 : KW "NineBoardsModel" 427 ⟨"NineBoardsModel", "level", "()I"⟩ prog_13_method_57_code 1 (some .int) 0 := ⟨(mt_7 (List.mem_of_getElem? (i := 43) rfl) rfl), (mt_1 (List.mem_of_getElem? (i := 16) rfl) rfl), (mt_7 (List.mem_of_getElem? (i := 46) rfl) rfl), by decide +kernel⟩
theorem kv_Model_level : Cond.instanceMethod ⟨"NineBoardsModel", "level", "()I"⟩ ∈ TB ∧ Cond.selects "NineBoardsModel" ⟨"NineBoardsModel", "level", "()I"⟩ ⟨"NineBoardsModel", "level", "()I"⟩ ∈ TB := ⟨(mt_7 (List.mem_of_getElem? (i := 45) rfl) rfl), (ms_0 (List.mem_map.mpr ⟨(⟨"NineBoardsModel", "level", "()I"⟩, 79), List.mem_of_getElem? (i := 90) (by decide +kernel), rfl⟩) rfl)⟩
theorem d_Model_flowsNow_4 : decode prog_13_method_63_code 4 = .ok (.istore_n 1, 1) := by decide +kernel
theorem d_Model_flowsNow_5 : decode prog_13_method_63_code 5 = .ok (.aload_n 0, 1) := by decide +kernel
theorem d_Model_flowsNow_6 : decode prog_13_method_63_code 6 = .ok (.getfield 158, 3) := by decide +kernel
theorem d_Model_flowsNow_9 : decode prog_13_method_63_code 9 = .ok (.iconst 1, 1) := by decide +kernel
theorem d_Model_flowsNow_10 : decode prog_13_method_63_code 10 = .ok (.iaload, 1) := by decide +kernel
theorem d_Model_flowsNow_11 : decode prog_13_method_63_code 11 = .ok (.istore_n 2, 1) := by decide +kernel
theorem d_Model_flowsNow_12 : decode prog_13_method_63_code 12 = .ok (.iconst 0, 1) := by decide +kernel
theorem d_Model_flowsNow_13 : decode prog_13_method_63_code 13 = .ok (.istore_n 3, 1) := by decide +kernel
theorem d_Model_flowsNow_14 : decode prog_13_method_63_code 14 = .ok (.iload_n 3, 1) := by decide +kernel
theorem d_Model_flowsNow_15 : decode prog_13_method_63_code 15 = .ok (.aload_n 0, 1) := by decide +kernel
theorem d_Model_flowsNow_16 : decode prog_13_method_63_code 16 = .ok (.invokevirtual 341, 3) := by decide +kernel
theorem kw_Model_341 : KW "NineBoardsModel" 341 ⟨"NineBoardsModel", "gateMany", "()I"⟩ prog_13_method_54_code 1 (some .int) 0 := ⟨(mt_7 (List.mem_of_getElem? (i := 27) rfl) rfl), (mt_1 (List.mem_of_getElem? (i := 16) rfl) rfl), (mt_7 (List.mem_of_getElem? (i := 30) rfl) rfl), by decide +kernel⟩
theorem kv_Model_gateMany : Cond.instanceMethod ⟨"NineBoardsModel", "gateMany", "()I"⟩ ∈ TB ∧ Cond.selects "NineBoardsModel" ⟨"NineBoardsModel", "gateMany", "()I"⟩ ⟨"NineBoardsModel", "gateMany", "()I"⟩ ∈ TB := ⟨(mt_7 (List.mem_of_getElem? (i := 29) rfl) rfl), (ms_0 (List.mem_map.mpr ⟨(⟨"NineBoardsModel", "gateMany", "()I"⟩, 79), List.mem_of_getElem? (i := 88) (by decide +kernel), rfl⟩) rfl)⟩
theorem d_Model_flowsNow_19 : decode prog_13_method_63_code 19 = .ok (.if_icmp .ge 31, 3) := by decide +kernel
theorem d_Model_flowsNow_50 : decode prog_13_method_63_code 50 = .ok (.iload_n 2, 1) := by decide +kernel
theorem d_Model_flowsNow_51 : decode prog_13_method_63_code 51 = .ok (.ireturn, 1) := by decide +kernel
theorem d_Model_flowsNow_22 : decode prog_13_method_63_code 22 = .ok (.aload_n 0, 1) := by decide +kernel
theorem d_Model_flowsNow_23 : decode prog_13_method_63_code 23 = .ok (.getfield 161, 3) := by decide +kernel
theorem gf_Model_161 : GF "NineBoardsModel" 161 10 63 := ⟨_, _, _, rfl, ci_Model, by decide, (mt_5 (List.mem_of_getElem? (i := 151) rfl) rfl)⟩
theorem d_Model_flowsNow_26 : decode prog_13_method_63_code 26 = .ok (.iload_n 3, 1) := by decide +kernel
theorem d_Model_flowsNow_27 : decode prog_13_method_63_code 27 = .ok (.aload_n 0, 1) := by decide +kernel
theorem d_Model_flowsNow_28 : decode prog_13_method_63_code 28 = .ok (.iload_n 3, 1) := by decide +kernel
theorem d_Model_flowsNow_29 : decode prog_13_method_63_code 29 = .ok (.iload_n 1, 1) := by decide +kernel
theorem d_Model_flowsNow_30 : decode prog_13_method_63_code 30 = .ok (.iload_n 2, 1) := by decide +kernel
theorem d_Model_flowsNow_31 : decode prog_13_method_63_code 31 = .ok (.invokevirtual 430, 3) := by decide +kernel
theorem kw_Model_430 : KW "NineBoardsModel" 430 ⟨"NineBoardsModel", "flowOf", "(III)I"⟩ prog_13_method_62_code 7 (some .int) 3 := ⟨(mt_7 (List.mem_of_getElem? (i := 72) rfl) rfl), (mt_1 (List.mem_of_getElem? (i := 16) rfl) rfl), (mt_7 (List.mem_of_getElem? (i := 75) rfl) rfl), by decide +kernel⟩
theorem kv_Model_flowOf : Cond.instanceMethod ⟨"NineBoardsModel", "flowOf", "(III)I"⟩ ∈ TB ∧ Cond.selects "NineBoardsModel" ⟨"NineBoardsModel", "flowOf", "(III)I"⟩ ⟨"NineBoardsModel", "flowOf", "(III)I"⟩ ∈ TB := ⟨(mt_7 (List.mem_of_getElem? (i := 74) rfl) rfl), (ms_0 (List.mem_map.mpr ⟨(⟨"NineBoardsModel", "flowOf", "(III)I"⟩, 79), List.mem_of_getElem? (i := 95) (by decide +kernel), rfl⟩) rfl)⟩
theorem d_Model_flowsNow_34 : decode prog_13_method_63_code 34 = .ok (.iastore, 1) := by decide +kernel
theorem d_Model_flowsNow_35 : decode prog_13_method_63_code 35 = .ok (.iload_n 2, 1) := by decide +kernel
theorem d_Model_flowsNow_36 : decode prog_13_method_63_code 36 = .ok (.aload_n 0, 1) := by decide +kernel
theorem d_Model_flowsNow_37 : decode prog_13_method_63_code 37 = .ok (.getfield 161, 3) := by decide +kernel
theorem d_Model_flowsNow_40 : decode prog_13_method_63_code 40 = .ok (.iload_n 3, 1) := by decide +kernel
theorem d_Model_flowsNow_41 : decode prog_13_method_63_code 41 = .ok (.iaload, 1) := by decide +kernel
theorem d_Model_flowsNow_42 : decode prog_13_method_63_code 42 = .ok (.isub, 1) := by decide +kernel
theorem d_Model_flowsNow_43 : decode prog_13_method_63_code 43 = .ok (.istore_n 2, 1) := by decide +kernel
theorem d_Model_flowsNow_44 : decode prog_13_method_63_code 44 = .ok (.iinc 3 1, 3) := by decide +kernel
theorem d_Model_flowsNow_47 : decode prog_13_method_63_code 47 = .ok (.goto (-33), 3) := by decide +kernel
set_option maxHeartbeats 4000000 in
set_option maxRecDepth 100000 in
theorem c_M_flowsNow (l : Launch) (D : va_G) (y : Nat → ClassId) (mo : Nat) (ma : Nat → Nat) (t1 : Nat) (i2 : Int32) (i3 : Int32) (i4 : Int32) (i5 : Int32) (i6 : Int32) (i7 : Int32) (i8 : Int32) (i42 : Int32) (i49 : Int32) (i51 : Int32) (i53 : Int32) (i54 : Int32) (i59 : Int32) (i61 : Int32) (i64 : Int32) (i66 : Int32) (t67 : Nat) (i76 : Int64) (i78 : Int32) (g43 : Nat → Int32) (g45 : Nat → Int32) (g46 : Nat → Int32) (g62 : Nat → Int32) (g63 : Nat → Int32) (c0 : Nat) (hc0 : g43 4 = nI c0) (bc0 : c0 ≤ 9) (hL : ¬ g45 7 = 0) (hS : ∀ j, j < 9 → g46 (54 + 6 * j) = 2 → ¬ g46 (54 + 6 * j + 1) = 0) : CT l D y ⟨"NineBoardsModel", "flowsNow", "()I"⟩ prog_13_method_63_code 4 (some .int) ({ frames := 2, cells := 0, slots := 0, locals := 51 } : Room) [.ref mo] [MB mo ma (nI t1) i2 i3 i4 i5 i6 i7 i8 i42 i49 i51 i53 i54 i59 i61 i64 i66 (nI t67) i76 i78, (ma 43, .inl (y 0, 8, .inl g43)), (ma 45, .inl (y 0, 14, .inl g45)), (ma 46, .inl (y 0, 108, .inl g46)), (ma 62, .inl (y 0, 63, .inl g62)), (ma 63, .inl (y 0, 9, .inl g63))] (QI D [MB mo ma (nI t1) i2 i3 i4 i5 i6 i7 i8 i42 i49 i51 i53 i54 i59 i61 i64 i66 (nI t67) i76 i78, (ma 43, .inl (y 0, 8, .inl g43)), (ma 45, .inl (y 0, 14, .inl g45)), (ma 46, .inl (y 0, 108, .inl g46)), (ma 62, .inl (y 0, 63, .inl g62)), (ma 63, .inl (y 0, 9, .inl g63))] (fun (r : Int32) (u : (Nat → Int32)) => True) (fun u => [MB mo ma (nI t1) i2 i3 i4 i5 i6 i7 i8 i42 i49 i51 i53 i54 i59 i61 i64 i66 (nI t67) i76 i78, (ma 43, .inl (y 0, 8, .inl g43)), (ma 45, .inl (y 0, 14, .inl g45)), (ma 46, .inl (y 0, 108, .inl g46)), (ma 62, .inl (y 0, 63, .inl g62)), (ma 63, .inl (y 0, 9, .inl u))])) := by
  refine CT.of (by decide) (nb rfl) ?_
  intro p e s m args below meth c C hr
  refine j_lv (lv' := [(0, .ref mo)]) rfl ?_
  refine j_aload_n (pc := 0) C d_Model_flowsNow_0 rfl 0 rfl ?_
  refine j_callVi (pc := 1) C (c_M_level l D y mo ma t1 i2 i3 i4 i5 i6 i7 i8 i42 i49 i51 i53 i54 i59 i61 i64 i66 t67 i76 i78 g45 g62 hL) kw_Model_427 kv_Model_level 0 10 rfl rfl ⟨by decide, by decide⟩ ⟨by decide, by decide⟩ (wr := [(ma 43, .inl (y 0, 8, .inl g43)), (ma 46, .inl (y 0, 108, .inl g46)), (ma 63, .inl (y 0, 9, .inl g63))]) [0, 2, 4] [1, 3, 5] rfl rfl (by decide +kernel) (by decide +kernel) (by decide +kernel) (As := []) (rest := []) rfl (nb rfl) rfl d_Model_flowsNow_1 (fun r1 _ hr1 => ?_)
  refine j_ws (ws' := [(ma 43, .inl (y 0, 8, .inl g43)), (ma 46, .inl (y 0, 108, .inl g46)), (ma 63, .inl (y 0, 9, .inl g63)), MB mo ma (nI t1) i2 i3 i4 i5 i6 i7 i8 i42 i49 i51 i53 i54 i59 i61 i64 i66 (nI t67) i76 i78, (ma 45, .inl (y 0, 14, .inl g45)), (ma 62, .inl (y 0, 63, .inl g62))]) rfl ?_
  refine j_istore_n (pc := 4) C (lv' := [(1, .int r1), (0, .ref mo)]) d_Model_flowsNow_4 rfl (by decide) rfl ?_
  refine j_aload_n (pc := 5) C d_Model_flowsNow_5 rfl 1 rfl ?_
  refine j_get (pc := 6) C gf_Model_158 3 rfl rfl d_Model_flowsNow_6 ?_
  refine j_iconst (pc := 9) C (v := 1) d_Model_flowsNow_9 (by decide) ?_
  refine j_iald (pc := 10) C 5 rfl (v := g62 1) (vin (by decide)) rfl d_Model_flowsNow_10 ?_
  refine j_istore_n (pc := 11) C (lv' := [(2, .int (g62 1)), (1, .int r1), (0, .ref mo)]) d_Model_flowsNow_11 rfl (by decide) rfl ?_
  refine j_iconst (pc := 12) C (v := 0) d_Model_flowsNow_12 (by decide) ?_
  refine j_istore_n (pc := 13) C (lv' := [(3, .int 0), (2, .int (g62 1)), (1, .int r1), (0, .ref mo)]) d_Model_flowsNow_13 rfl (by decide) rfl ?_
  refine j_loop (α := Nat × Int32 × (Nat → Int32)) (fun a => c0 - a.1) (fun a => (a.1 ≤ c0)) (fun a => [(ma 43, .inl (y 0, 8, .inl g43)), (ma 46, .inl (y 0, 108, .inl g46)), (ma 63, .inl (y 0, 9, .inl a.2.2)), MB mo ma (nI t1) i2 i3 i4 i5 i6 i7 i8 i42 i49 i51 i53 i54 i59 i61 i64 i66 (nI t67) i76 i78, (ma 45, .inl (y 0, 14, .inl g45)), (ma 62, .inl (y 0, 63, .inl g62))]) (fun a => [(3, .int (nI a.1)), (2, .int a.2.1), (1, .int r1), (0, .ref mo)]) (0, g62 1, g63) rfl rfl (show 0 ≤ c0 by omega) ?_
  rintro ⟨iz, z6, z7⟩ hP12 ih13
  have hi__ := hP12
  have hi_ : iz ≤ c0 := hi__
  refine j_ws (ws' := [(ma 43, .inl (y 0, 8, .inl g43)), (ma 46, .inl (y 0, 108, .inl g46)), (ma 63, .inl (y 0, 9, .inl z7)), MB mo ma (nI t1) i2 i3 i4 i5 i6 i7 i8 i42 i49 i51 i53 i54 i59 i61 i64 i66 (nI t67) i76 i78, (ma 45, .inl (y 0, 14, .inl g45)), (ma 62, .inl (y 0, 63, .inl g62))]) rfl ?_
  refine j_lv (lv' := [(3, .int (nI iz)), (2, .int z6), (1, .int r1), (0, .ref mo)]) rfl ?_
  refine j_iload_n (pc := 14) C d_Model_flowsNow_14 rfl 0 rfl ?_
  refine j_aload_n (pc := 15) C d_Model_flowsNow_15 rfl 3 rfl ?_
  refine j_callVi (pc := 16) C (c_M_gateMany l D y mo ma t1 i2 i3 i4 i5 i6 i7 i8 i42 i49 i51 i53 i54 i59 i61 i64 i66 t67 i76 i78 g43 c0 hc0 bc0) kw_Model_341 kv_Model_gateMany 0 10 rfl rfl ⟨by decide, by decide⟩ ⟨by decide, by decide⟩ (wr := [(ma 46, .inl (y 0, 108, .inl g46)), (ma 63, .inl (y 0, 9, .inl z7)), (ma 45, .inl (y 0, 14, .inl g45)), (ma 62, .inl (y 0, 63, .inl g62))]) [3, 0] [1, 2, 4, 5] rfl rfl (by decide +kernel) (by decide +kernel) (by decide +kernel) (As := []) (rest := [.int (nI iz)]) rfl (nb rfl) rfl d_Model_flowsNow_16 (fun r14 _ hr14 => ?_)
  obtain rfl := hr14
  refine j_ws (ws' := [(ma 46, .inl (y 0, 108, .inl g46)), (ma 63, .inl (y 0, 9, .inl z7)), (ma 45, .inl (y 0, 14, .inl g45)), (ma 62, .inl (y 0, 63, .inl g62)), MB mo ma (nI t1) i2 i3 i4 i5 i6 i7 i8 i42 i49 i51 i53 i54 i59 i61 i64 i66 (nI t67) i76 i78, (ma 43, .inl (y 0, 8, .inl g43))]) rfl ?_
  by_cases c15 : c0 ≤ iz
  · refine j_icmp_geT (pc := 19) C (tgt := 50) d_Model_flowsNow_19 (by decide) (show nI c0 ≤ nI iz from nI_le (by omega) (by omega)) ?_
    refine j_iload_n (pc := 50) C d_Model_flowsNow_50 rfl 1 rfl ?_
    exact j_iret (pc := 51) C hr rfl z7 trivial [4, 5, 2, 0, 3, 1] rfl (by decide) (by decide) (by decide) d_Model_flowsNow_51
  · refine j_icmp_geF (pc := 19) C (tgt := 50) d_Model_flowsNow_19 (by decide) (show ¬ nI c0 ≤ nI iz from nI_ge (by omega) (by omega)) ?_
    refine j_aload_n (pc := 22) C d_Model_flowsNow_22 rfl 3 rfl ?_
    refine j_get (pc := 23) C gf_Model_161 4 rfl rfl d_Model_flowsNow_23 ?_
    refine j_iload_n (pc := 26) C d_Model_flowsNow_26 rfl 0 rfl ?_
    refine j_aload_n (pc := 27) C d_Model_flowsNow_27 rfl 3 rfl ?_
    refine j_iload_n (pc := 28) C d_Model_flowsNow_28 rfl 0 rfl ?_
    refine j_iload_n (pc := 29) C d_Model_flowsNow_29 rfl 2 rfl ?_
    refine j_iload_n (pc := 30) C d_Model_flowsNow_30 rfl 1 rfl ?_
    refine j_callVi (pc := 31) C (c_M_flowOf l D y mo ma t1 i2 i3 i4 i5 i6 i7 i8 i42 i49 i51 i53 i54 i59 i61 i64 i66 t67 i76 i78 g46 g62 iz r1 z6 (by omega) (by omega)) kw_Model_430 kv_Model_flowOf 0 10 rfl rfl ⟨by decide, by decide⟩ ⟨by decide, by decide⟩ (wr := [(ma 63, .inl (y 0, 9, .inl z7)), (ma 45, .inl (y 0, 14, .inl g45)), (ma 43, .inl (y 0, 8, .inl g43))]) [4, 0, 3] [1, 2, 5] rfl rfl (by decide +kernel) (by decide +kernel) (by decide +kernel) (As := [.int (nI iz), .int r1, .int z6]) (rest := [.int (nI iz), .ref (ma 63)]) rfl (nb rfl) rfl d_Model_flowsNow_31 (fun r16 _ hr16 => ?_)
    refine j_ws (ws' := [(ma 63, .inl (y 0, 9, .inl z7)), (ma 45, .inl (y 0, 14, .inl g45)), (ma 43, .inl (y 0, 8, .inl g43)), MB mo ma (nI t1) i2 i3 i4 i5 i6 i7 i8 i42 i49 i51 i53 i54 i59 i61 i64 i66 (nI t67) i76 i78, (ma 46, .inl (y 0, 108, .inl g46)), (ma 62, .inl (y 0, 63, .inl g62))]) rfl ?_
    refine j_iast (pc := 34) C 0 rfl (ws' := [(ma 63, .inl (y 0, 9, .inl (upd z7 iz r16))), (ma 45, .inl (y 0, 14, .inl g45)), (ma 43, .inl (y 0, 8, .inl g43)), MB mo ma (nI t1) i2 i3 i4 i5 i6 i7 i8 i42 i49 i51 i53 i54 i59 i61 i64 i66 (nI t67) i76 i78, (ma 46, .inl (y 0, 108, .inl g46)), (ma 62, .inl (y 0, 63, .inl g62))]) (vp_in_nI (by omega) (by decide)) (by rw [nI_clamp (by omega)]; rfl) d_Model_flowsNow_34 ?_
    refine j_anyW (fun f17 => [(ma 63, .inl (y 0, 9, .inl f17)), (ma 45, .inl (y 0, 14, .inl g45)), (ma 43, .inl (y 0, 8, .inl g43)), MB mo ma (nI t1) i2 i3 i4 i5 i6 i7 i8 i42 i49 i51 i53 i54 i59 i61 i64 i66 (nI t67) i76 i78, (ma 46, .inl (y 0, 108, .inl g46)), (ma 62, .inl (y 0, 63, .inl g62))]) (upd z7 iz r16) rfl (fun f17 => ?_)
    refine j_iload_n (pc := 35) C d_Model_flowsNow_35 rfl 1 rfl ?_
    refine j_aload_n (pc := 36) C d_Model_flowsNow_36 rfl 3 rfl ?_
    refine j_get (pc := 37) C gf_Model_161 3 rfl rfl d_Model_flowsNow_37 ?_
    refine j_iload_n (pc := 40) C d_Model_flowsNow_40 rfl 0 rfl ?_
    refine j_iald (pc := 41) C 0 rfl (v := f17 iz) (vp_in_nI (by omega) (by decide)) (by rw [nI_clamp (by omega)]) d_Model_flowsNow_41 ?_
    refine j_isub (pc := 42) C (v := z6 - (f17 iz)) d_Model_flowsNow_42 rfl ?_
    refine j_istore_n (pc := 43) C (lv' := [(2, .int (z6 - (f17 iz))), (3, .int (nI iz)), (1, .int r1), (0, .ref mo)]) d_Model_flowsNow_43 rfl (by decide) rfl ?_
    refine j_iinc (pc := 44) C (v := nI (iz + 1)) (lv' := [(3, .int (nI (iz + 1))), (2, .int (z6 - (f17 iz))), (1, .int r1), (0, .ref mo)]) d_Model_flowsNow_44 1 rfl (nI_add _ _) (by decide) rfl ?_
    refine j_goto (pc := 47) C (tgt := 14) d_Model_flowsNow_47 (by decide) ?_
    refine j_sub (ws' := [(ma 43, .inl (y 0, 8, .inl g43)), (ma 46, .inl (y 0, 108, .inl g46)), (ma 63, .inl (y 0, 9, .inl f17)), MB mo ma (nI t1) i2 i3 i4 i5 i6 i7 i8 i42 i49 i51 i53 i54 i59 i61 i64 i66 (nI t67) i76 i78, (ma 45, .inl (y 0, 14, .inl g45)), (ma 62, .inl (y 0, 63, .inl g62))]) [2, 4, 0, 3, 1, 5] rfl (by decide +kernel) ?_
    exact ih13 ((iz + 1), z6 - (f17 iz), f17) (show (iz + 1) ≤ c0 by omega) (show c0 - (iz + 1) < c0 - iz by omega)
