abbrev TIt (v : Int32) : Prop := v = 14 ∨ v = 15 ∨ v = 16 ∨ v = 25
abbrev SIt (v : Int32) : Prop := v = 1 ∨ v = 2 ∨ v = 3 ∨ v = 4 ∨ v = 20 ∨ v = 21 ∨ v = 22 ∨ v = 23 ∨ v = 24
abbrev MK (v : Int32) : Prop := 20 ≤ v ∧ v ≤ 24
def ib (v : Int32) : Nat := if v = 16 ∨ v = 20 ∨ v = 21 ∨ v = 22 ∨ v = 25 then 0 else 1
/-- how many of those that wait will join two into one -/
def cw (w : Nat → Int32) : Nat → Nat
  | 0 => 0
  | n + 1 => cw w n + ib (w n)
theorem cw_up {w : Nat → Int32} {v : Int32} {k : Nat} : ∀ {n}, n ≤ k → cw (upd w k v) n = cw w n := by
  intro n
  induction n with
  | zero => intro _; rfl
  | succ n ih =>
    intro h
    unfold cw
    rw [ih (by omega), pk_un (by omega)]
def ITm (w : Nat → Int32) (n : Nat) : Prop := ∀ k, k < n → TIt (w k)
def ISm (w : Nat → Int32) (b n : Nat) : Prop := ∀ k, b ≤ k → k < n → SIt (w k)
def NMk (w : Nat → Int32) (b n : Nat) : Prop := ∀ k, b ≤ k → k < n → ¬ MK (w k)
def TMk (w : Nat → Int32) (b n : Nat) (r : Int32) : Prop := ∃ k, b ≤ k ∧ k < n ∧ MK (w k) ∧ r = w k ∧ ∀ j, k < j → j < n → ¬ MK (w j)
theorem it_up {w : Nat → Int32} {b k : Nat} {v : Int32} (h : ITm w b) (hk : b ≤ k) : ITm (upd w k v) b := by
  intro j hj
  rw [pk_un (by omega)]
  exact h j hj
theorem is_up {w : Nat → Int32} {b n : Nat} {v : Int32} (h : ISm w b n) (hv : SIt v) : ISm (upd w n v) b (n + 1) := by
  intro j h1 h2
  by_cases e : j = n
  · subst e
    rw [pk_us]
    exact hv
  · rw [pk_un e]
    exact h j h1 (by omega)
theorem is_le {w : Nat → Int32} {b n m : Nat} (h : ISm w b n) (hm : m ≤ n) : ISm w b m := fun j h1 h2 => h j h1 (by omega)
theorem is_at {w : Nat → Int32} {b n k : Nat} {v : Int32} (h : ISm w b n) (hv : SIt v) : ISm (upd w k v) b n := by
  intro j h1 h2
  by_cases e : j = k
  · subst e
    rw [pk_us]
    exact hv
  · rw [pk_un e]
    exact h j h1 h2
theorem is_nil {w : Nat → Int32} {b : Nat} : ISm w b b := fun j h1 h2 => absurd h1 (by omega)
theorem it_le {w : Nat → Int32} {n m : Nat} (h : ITm w n) (hm : m ≤ n) : ITm w m := fun j h1 => h j (by omega)
theorem it_push {w : Nat → Int32} {n : Nat} {v : Int32} (h : ITm w n) (hv : TIt v) : ITm (upd w n v) (n + 1) := by
  intro j h2
  by_cases e : j = n
  · subst e
    rw [pk_us]
    exact hv
  · rw [pk_un e]
    exact h j (by omega)
theorem dp_up {f : Nat → Int32} {v : Int32} {s k : Nat} : ∀ {n}, s + n ≤ k → dp (upd f k v) s n = dp f s n := by
  intro n
  induction n with
  | zero => intro _; rfl
  | succ n ih =>
    intro h
    unfold dp
    rw [ih (by omega), pk_un (by omega)]
theorem dp_snoc {f : Nat → Int32} {v : Int32} {s n t t' : Nat} (h : dp f s n = some t) (hs : stepC v t = some t') : dp (upd f (s + n) v) s (n + 1) = some t' := by
  unfold dp
  rw [dp_up (Nat.le_refl _), h, pk_us]
  exact hs
/-- how the codes of a sum or a test stand while it is read: x more lie on the pile than will be joined by what waits -/
def RS (kq s0 : Nat) (f0 : Nat → Int32) (x : Nat) (b : Int32) (f w : Nat → Int32) (cd wn a : Nat) : Prop := (∀ i, (i < s0 ∨ 1600 ≤ i) → f i = f0 i) ∧ s0 ≤ cd ∧ cd + wn + kq ≤ a ∧ (b = 0 → cd + wn + kq + 1 ≤ a ∧ dp f s0 (cd - s0) = some (cw w wn + x))
section RSL
variable {kq k2 s0 x x' : Nat} {f0 f w w' : Nat → Int32} {b b' v : Int32} {cd wn wn' a a' n : Nat}
theorem rs_acc (h : RS kq s0 f0 x b f w cd wn a) : s0 ≤ cd ∧ cd + wn + kq ≤ a := ⟨h.2.1, h.2.2.1⟩
theorem rs_ac3 (h : RS kq s0 f0 x 0 f w cd wn a) : s0 ≤ cd ∧ cd + wn + kq + 1 ≤ a := ⟨h.2.1, (h.2.2.2 rfl).1⟩
theorem rs_at (h : RS kq s0 f0 x b f w cd wn a) (ha : a ≤ a') : RS kq s0 f0 x b f w cd wn a' := ⟨h.1, h.2.1, by have := h.2.2.1; omega, fun e => ⟨by have := (h.2.2.2 e).1; omega, (h.2.2.2 e).2⟩⟩
theorem rs_mono (h : RS kq s0 f0 x b f w cd wn a) (hm : b' = 0 → b = 0) : RS kq s0 f0 x b' f w cd wn a := ⟨h.1, h.2.1, h.2.2.1, fun e => h.2.2.2 (hm e)⟩
theorem rs_bad (h : RS kq s0 f0 x b f w cd wn a) (hb : ¬ b' = 0) : RS kq s0 f0 x' b' f w' cd wn a := ⟨h.1, h.2.1, h.2.2.1, fun e => absurd e hb⟩
theorem rs_bad1 (h : RS kq s0 f0 x 0 f w cd wn (a + 1)) (hb : ¬ b' = 0) : RS kq s0 f0 x' b' f w' cd wn a := ⟨h.1, h.2.1, by have := (h.2.2.2 rfl).1; omega, fun e => absurd e hb⟩
theorem rs_code (h : RS kq s0 f0 x 0 f w cd wn a) (hc : cd < 1600) (hn : cd + 1 + wn' + k2 ≤ a') (hs : b' = 0 → cd + 1 + wn' + k2 + 1 ≤ a' ∧ stepC v (cw w wn + x) = some (cw w' wn' + x')) : RS k2 s0 f0 x' b' (upd f cd v) w' (cd + 1) wn' a' := by
  obtain ⟨h1, h2, h3, h4⟩ := h
  obtain ⟨h5, h6⟩ := h4 rfl
  refine ⟨fun i hi => ?_, by omega, hn, fun e => ⟨(hs e).1, ?_⟩⟩
  · rw [pk_un (by omega)]
    exact h1 i hi
  · have := dp_snoc h6 (hs e).2
    rw [show s0 + (cd - s0) = cd by omega, show cd - s0 + 1 = cd + 1 - s0 by omega] at this
    exact this
theorem step_leaf {n : Nat} (h : 1000 ≤ v ∨ v = 17 ∨ v = 7 ∨ v = 8 ∨ v = 9) : stepC v n = some (n + 1) := by
  unfold stepC
  rcases h with h | h | h | h | h
  · rw [if_pos h]
  all_goals (subst h; rfl)
theorem step_bin {n : Nat} (h : v = 1 ∨ v = 2 ∨ v = 3 ∨ v = 4 ∨ v = 5 ∨ v = 6 ∨ v = 11 ∨ v = 12 ∨ v = 13 ∨ v = 14 ∨ v = 15) (hn : 2 ≤ n) : stepC v n = some (n - 1) := by
  unfold stepC
  rcases h with h | h | h | h | h | h | h | h | h | h | h <;> (subst h; rw [if_neg (by decide), if_neg (by decide), if_neg (by decide), if_neg (by decide), if_pos hn])
theorem step_not {n : Nat} (hn : 1 ≤ n) : stepC 16 n = some n := by
  unfold stepC
  rw [if_neg (by decide), if_neg (by decide), if_pos rfl, if_pos hn]
theorem rs_leaf (h : RS kq s0 f0 x 0 f w cd wn a) (hc : cd < 1600) (ha : a ≤ a') (hl : b' = 0 → a < a' ∧ (1000 ≤ v ∨ v = 17 ∨ v = 7 ∨ v = 8 ∨ v = 9)) : RS kq s0 f0 (x + 1) b' (upd f cd v) w (cd + 1) wn a' := by
  have h3 := rs_ac3 h
  refine rs_code h hc (by omega) (fun e => ⟨by have := (hl e).1; omega, ?_⟩)
  rw [step_leaf (hl e).2]
  rfl
theorem rs_drop (h : RS kq s0 f0 (x + 1) 0 f w cd wn a) (hc : cd < 1600) (hw : wn = n + 1) (hv : (w n = 1 ∨ w n = 2 ∨ w n = 3 ∨ w n = 4) ∨ (w n = 14 ∨ w n = 15 ∨ w n = 16)) : RS kq s0 f0 (x + 1) 0 (upd f cd (w n)) w (cd + 1) n a := by
  have h3 := rs_ac3 h
  subst hw
  refine rs_code h hc (by omega) (fun _ => ⟨by omega, ?_⟩)
  show stepC (w n) (cw w n + ib (w n) + (x + 1)) = _
  rcases hv with (e | e | e | e) | (e | e | e) <;> rw [e]
  · rw [step_bin (by decide) (by show 2 ≤ cw w n + 1 + (x + 1); omega)]; congr 1; show cw w n + 1 + (x + 1) - 1 = cw w n + (x + 1); omega
  · rw [step_bin (by decide) (by show 2 ≤ cw w n + 1 + (x + 1); omega)]; congr 1; show cw w n + 1 + (x + 1) - 1 = cw w n + (x + 1); omega
  · rw [step_bin (by decide) (by show 2 ≤ cw w n + 1 + (x + 1); omega)]; congr 1; show cw w n + 1 + (x + 1) - 1 = cw w n + (x + 1); omega
  · rw [step_bin (by decide) (by show 2 ≤ cw w n + 1 + (x + 1); omega)]; congr 1; show cw w n + 1 + (x + 1) - 1 = cw w n + (x + 1); omega
  · rw [step_bin (by decide) (by show 2 ≤ cw w n + 1 + (x + 1); omega)]; congr 1; show cw w n + 1 + (x + 1) - 1 = cw w n + (x + 1); omega
  · rw [step_bin (by decide) (by show 2 ≤ cw w n + 1 + (x + 1); omega)]; congr 1; show cw w n + 1 + (x + 1) - 1 = cw w n + (x + 1); omega
  · rw [step_not (by show 1 ≤ cw w n + 0 + (x + 1); omega)]; congr 1
theorem rs_shut (h : RS kq s0 f0 (x + 1) 0 f w cd wn a) (hc : cd < 1600) (hw : wn = n + 1) (hi : w n = 23 ∨ w n = 24) (hv : v = 5 ∨ v = 6) : RS kq s0 f0 (x + 1) 0 (upd f cd v) w (cd + 1) n a := by
  have h3 := rs_ac3 h
  subst hw
  refine rs_code h hc (by omega) (fun _ => ⟨by omega, ?_⟩)
  show stepC v (cw w n + ib (w n) + (x + 1)) = _
  have e : ib (w n) = 1 := by rcases hi with e | e <;> rw [e] <;> decide
  rw [e, step_bin (by rcases hv with e | e <;> rw [e] <;> decide) (by omega)]
  congr 1
  omega
theorem rs_pop (h : RS kq s0 f0 x 0 f w cd wn a) (hw : wn = n + 1) (hi : ib (w n) = 0) : RS kq s0 f0 x 0 f w cd n a := by
  subst hw
  obtain ⟨h1, h2, h3, h4⟩ := h
  obtain ⟨h5, h6⟩ := h4 rfl
  refine ⟨h1, h2, by omega, fun _ => ⟨by omega, ?_⟩⟩
  rw [h6]
  show some (cw w n + ib (w n) + x) = _
  rw [hi]
  rfl
theorem rs_push (h : RS kq s0 f0 x b f w cd wn a) (hv : ib v = 0) : RS kq s0 f0 x b f (upd w wn v) cd (wn + 1) (a + 1) := by
  obtain ⟨h1, h2, h3, h4⟩ := h
  refine ⟨h1, h2, by omega, fun e => ⟨by have := (h4 e).1; omega, ?_⟩⟩
  rw [(h4 e).2]
  show _ = some (cw (upd w wn v) wn + ib (upd w wn v wn) + x)
  rw [cw_up (Nat.le_refl _), pk_us, hv]
  rfl
theorem rs_op (h : RS kq s0 f0 (x + 1) 0 f w cd wn a) (hv : ib v = 1) (ha : a < a') : RS kq s0 f0 x 0 f (upd w wn v) cd (wn + 1) a' := by
  obtain ⟨h1, h2, h3, h4⟩ := h
  obtain ⟨h5, h6⟩ := h4 rfl
  refine ⟨h1, h2, by omega, fun _ => ⟨by omega, ?_⟩⟩
  rw [h6]
  show _ = some (cw (upd w wn v) wn + ib (upd w wn v wn) + x)
  rw [cw_up (Nat.le_refl _), pk_us, hv]
  congr 1
  omega
theorem rs_next (h : RS kq s0 f0 (x + 1) 0 f w cd wn a) (hw : wn = n + 1) (hi : ib (w n) = 0) (hv : ib v = 1) : RS kq s0 f0 x 0 f (upd w n v) cd wn a := by
  subst hw
  obtain ⟨h1, h2, h3, h4⟩ := h
  obtain ⟨h5, h6⟩ := h4 rfl
  refine ⟨h1, h2, h3, fun _ => ⟨h5, ?_⟩⟩
  rw [h6]
  show some (cw w n + ib (w n) + (x + 1)) = some (cw (upd w n v) n + ib (upd w n v n) + x)
  rw [cw_up (Nat.le_refl _), pk_us, hi, hv]
  congr 1
  omega
theorem rs_z (h : RS kq s0 f0 x b f w cd wn a) (e : b = 0) : RS kq s0 f0 x 0 f w cd wn a := e ▸ h
theorem rs_kup (h : RS kq s0 f0 x b f w cd wn a) (ha : a + 1 ≤ a') : RS (kq + 1) s0 f0 x b f w cd wn a' := ⟨h.1, h.2.1, by have := h.2.2.1; omega, fun e => ⟨by have := (h.2.2.2 e).1; omega, (h.2.2.2 e).2⟩⟩
/-- two of a pile are held against each other -/
theorem rs_held (h : RS (kq + 1) s0 f0 (x + 1 + 1) b f w cd wn a) (hc : cd < 1600) (hv : v = 11 ∨ v = 12 ∨ v = 13) : RS kq s0 f0 (x + 1) b (upd f cd v) w (cd + 1) wn a := by
  obtain ⟨h1, h2, h3, h4⟩ := h
  refine ⟨fun i hi => ?_, by omega, by omega, fun e => ⟨by have := (h4 e).1; omega, ?_⟩⟩
  · rw [pk_un (by omega)]
    exact h1 i hi
  · have h6 := (h4 e).2
    have := dp_snoc h6 (step_bin (v := v) (by rcases hv with e | e | e <;> rw [e] <;> decide) (by omega))
    rw [show s0 + (cd - s0) = cd by omega, show cd - s0 + 1 = cd + 1 - s0 by omega] at this
    rw [this]
    congr 1 <;> omega
end RSL
theorem si_nm {v : Int32} (h : SIt v) (hm : ¬ MK v) : v = 1 ∨ v = 2 ∨ v = 3 ∨ v = 4 := by
  rcases h with e | e | e | e | e | e | e | e | e
  · exact Or.inl e
  · exact Or.inr (Or.inl e)
  · exact Or.inr (Or.inr (Or.inl e))
  · exact Or.inr (Or.inr (Or.inr e))
  all_goals (subst e; exact absurd (by decide) hm)
theorem nm_dn {w : Nat → Int32} {k n : Nat} (h : NMk w k n) (hk : 1 ≤ k) (hm : ¬ MK (w (k - 1))) : NMk w (k - 1) n := by
  intro j h1 h2
  by_cases e : j = k - 1
  · rw [e]
    exact hm
  · exact h j (by omega) h2
theorem nm_nil {w : Nat → Int32} {n : Nat} : NMk w n n := fun j h1 h2 => absurd h1 (by omega)
theorem dn_b {k b : Nat} (h : k ≤ b) (hb : b ≤ 2000) : nI k - 1 < nI b := by
  rcases Nat.eq_zero_or_pos k with q | q
  · subst q
    exact m1_lt (by omega)
  · rw [show nI k - 1 = nI (k - 1) from nI_s1 q]
    exact nI_lt (by omega) (by omega)
theorem dn_nb {k b : Nat} (h : ¬ k ≤ b) (hb : k ≤ 2000) : ¬ nI k - 1 < nI b := by
  rw [show nI k - 1 = nI (k - 1) from nI_s1 (by omega)]
  exact nI_nlt (by omega) (by omega)
/-- the topmost mark stands where the dropping ends -/
theorem tm_top {w : Nat → Int32} {b n m : Nat} {r : Int32} (h : TMk w b n r) (hm : m = b ∨ MK (w (m - 1))) (hb : b ≤ m) (hn : m ≤ n) (hd : NMk w m n) : ∃ k, m = k + 1 ∧ b ≤ k ∧ w k = r := by
  obtain ⟨k, h1, h2, h3, h4, h5⟩ := h
  rcases Nat.lt_or_ge k m with q | q
  · refine ⟨m - 1, by omega, by omega, ?_⟩
    rcases Nat.lt_or_ge k (m - 1) with q2 | q2
    · rcases hm with e | e
      · omega
      · exact absurd e (h5 (m - 1) q2 (by omega))
    · rw [h4, show m - 1 = k by omega]
  · exact absurd h3 (hd k q h2)
def bz1 (b : Int32) : Nat := if b = 0 then 1 else 0
theorem bz_1 : bz1 0 = 1 := rfl
theorem bz_0 {b : Int32} (h : ¬ b = 0) : bz1 b = 0 := if_neg h
theorem bz_e {b : Int32} (h : b = 0) : bz1 b = 1 := if_pos h
theorem bz_le (b : Int32) : bz1 b ≤ 1 := by
  unfold bz1
  split <;> omega
theorem d_Model_code_0 : decode prog_13_method_31_code 0 = .ok (.aload_n 0, 1) := by decide +kernel
theorem d_Model_code_1 : decode prog_13_method_31_code 1 = .ok (.getfield 136, 3) := by decide +kernel
theorem d_Model_code_4 : decode prog_13_method_31_code 4 = .ok (.iconst 0, 1) := by decide +kernel
theorem d_Model_code_5 : decode prog_13_method_31_code 5 = .ok (.aload_n 0, 1) := by decide +kernel
theorem d_Model_code_6 : decode prog_13_method_31_code 6 = .ok (.getfield 289, 3) := by decide +kernel
theorem gf_Model_289 : GF "NineBoardsModel" 289 10 51 := ⟨_, _, _, rfl, ci_Model, by decide, (mt_5 (List.mem_of_getElem? (i := 139) rfl) rfl)⟩
theorem d_Model_code_9 : decode prog_13_method_31_code 9 = .ok (.iadd, 1) := by decide +kernel
theorem d_Model_code_10 : decode prog_13_method_31_code 10 = .ok (.iload_n 1, 1) := by decide +kernel
theorem d_Model_code_11 : decode prog_13_method_31_code 11 = .ok (.iastore, 1) := by decide +kernel
theorem d_Model_code_12 : decode prog_13_method_31_code 12 = .ok (.aload_n 0, 1) := by decide +kernel
theorem d_Model_code_13 : decode prog_13_method_31_code 13 = .ok (.dup, 1) := by decide +kernel
theorem d_Model_code_14 : decode prog_13_method_31_code 14 = .ok (.getfield 289, 3) := by decide +kernel
theorem d_Model_code_17 : decode prog_13_method_31_code 17 = .ok (.iconst 1, 1) := by decide +kernel
theorem d_Model_code_18 : decode prog_13_method_31_code 18 = .ok (.iadd, 1) := by decide +kernel
theorem d_Model_code_19 : decode prog_13_method_31_code 19 = .ok (.putfield 289, 3) := by decide +kernel
theorem pf_Model_289 : PF "NineBoardsModel" 289 10 51 (.int) false := ⟨_, _, _, ct_Model, rfl, ci_Model, by decide, (mt_5 (List.mem_of_getElem? (i := 139) rfl) rfl), cp_Model, cn_Model, rfl, by decide +kernel, (fun h => by cases h)⟩
theorem d_Model_code_22 : decode prog_13_method_31_code 22 = .ok (.return_, 1) := by decide +kernel
set_option maxHeartbeats 4000000 in
set_option maxRecDepth 100000 in
theorem c_M_code (l : Launch) (D : va_G) (y : Nat → ClassId) (mo : Nat) (ma : Nat → Nat) (t1 : Nat) (t2 : Nat) (t3 : Nat) (i4 : Int32) (i5 : Int32) (i6 : Int32) (i7 : Int32) (i8 : Int32) (i42 : Int32) (i49 : Int32) (cd : Nat) (wn : Nat) (i54 : Int32) (i59 : Int32) (i61 : Int32) (i64 : Int32) (i66 : Int32) (t67 : Nat) (i76 : Int64) (i78 : Int32) (g50 : Nat → Int32) (v : Int32) (hc : cd < 1600) : CT l D y ⟨"NineBoardsModel", "code", "(I)V"⟩ prog_13_method_31_code 2 none ({ frames := 0, cells := 0, slots := 0, locals := 0 } : Room) [.ref mo, .int v] [MB mo ma (nI t1) (nI t2) (nI t3) i4 i5 i6 i7 i8 i42 i49 (nI cd) (nI wn) i54 i59 i61 i64 i66 (nI t67) i76 i78, (ma 50, .inl (y 0, 3200, .inl g50))] (QV D [MB mo ma (nI t1) (nI t2) (nI t3) i4 i5 i6 i7 i8 i42 i49 (nI cd) (nI wn) i54 i59 i61 i64 i66 (nI t67) i76 i78, (ma 50, .inl (y 0, 3200, .inl g50))] (fun (_ : Unit) => True) (fun _ => [MB mo ma (nI t1) (nI t2) (nI t3) i4 i5 i6 i7 i8 i42 i49 (nI (cd + 1)) (nI wn) i54 i59 i61 i64 i66 (nI t67) i76 i78, (ma 50, .inl (y 0, 3200, .inl (upd g50 cd v)))])) := by
  refine CT.of (by decide) (nb rfl) ?_
  intro p e s m args below meth c C hr
  refine j_lv (lv' := [(0, .ref mo), (1, .int v)]) rfl ?_
  refine j_aload_n (pc := 0) C d_Model_code_0 rfl 0 rfl ?_
  refine j_get (pc := 1) C gf_Model_136 0 rfl rfl d_Model_code_1 ?_
  refine j_iconst (pc := 4) C (v := 0) d_Model_code_4 (by decide) ?_
  refine j_aload_n (pc := 5) C d_Model_code_5 rfl 0 rfl ?_
  refine j_get (pc := 6) C gf_Model_289 0 rfl rfl d_Model_code_6 ?_
  refine j_iadd (pc := 9) C (v := nI cd) d_Model_code_9 (Int32.zero_add _) ?_
  refine j_iload_n (pc := 10) C d_Model_code_10 rfl 1 rfl ?_
  refine j_iast (pc := 11) C 1 rfl (ws' := [MB mo ma (nI t1) (nI t2) (nI t3) i4 i5 i6 i7 i8 i42 i49 (nI cd) (nI wn) i54 i59 i61 i64 i66 (nI t67) i76 i78, (ma 50, .inl (y 0, 3200, .inl (upd g50 cd v)))]) (vp_in_nI (by omega) (by decide)) (by rw [nI_clamp (by omega)]; rfl) d_Model_code_11 ?_
  refine j_aload_n (pc := 12) C d_Model_code_12 rfl 0 rfl ?_
  refine j_dup (pc := 13) C d_Model_code_13 rfl ?_
  refine j_get (pc := 14) C gf_Model_289 0 rfl rfl d_Model_code_14 ?_
  refine j_iconst (pc := 17) C (v := 1) d_Model_code_17 (by decide) ?_
  refine j_iadd (pc := 18) C (v := nI (cd + 1)) d_Model_code_18 (nI_add _ _) ?_
  refine j_put (pc := 19) C pf_Model_289 0 (ws' := [MB mo ma (nI t1) (nI t2) (nI t3) i4 i5 i6 i7 i8 i42 i49 (nI (cd + 1)) (nI wn) i54 i59 i61 i64 i66 (nI t67) i76 i78, (ma 50, .inl (y 0, 3200, .inl (upd g50 cd v)))]) rfl rfl rfl (nl rfl) rfl d_Model_code_19 ?_
  exact j_vret (pc := 22) C hr () trivial [0, 1] rfl (by decide) (by decide) (by decide) d_Model_code_22
theorem d_Model_drops_0 : decode prog_13_method_34_code 0 = .ok (.aload_n 0, 1) := by decide +kernel
theorem d_Model_drops_1 : decode prog_13_method_34_code 1 = .ok (.dup, 1) := by decide +kernel
theorem d_Model_drops_2 : decode prog_13_method_34_code 2 = .ok (.getfield 292, 3) := by decide +kernel
theorem gf_Model_292 : GF "NineBoardsModel" 292 10 53 := ⟨_, _, _, rfl, ci_Model, by decide, (mt_5 (List.mem_of_getElem? (i := 141) rfl) rfl)⟩
theorem d_Model_drops_5 : decode prog_13_method_34_code 5 = .ok (.iconst 1, 1) := by decide +kernel
theorem d_Model_drops_6 : decode prog_13_method_34_code 6 = .ok (.isub, 1) := by decide +kernel
theorem d_Model_drops_7 : decode prog_13_method_34_code 7 = .ok (.putfield 292, 3) := by decide +kernel
theorem pf_Model_292 : PF "NineBoardsModel" 292 10 53 (.int) false := ⟨_, _, _, ct_Model, rfl, ci_Model, by decide, (mt_5 (List.mem_of_getElem? (i := 141) rfl) rfl), cp_Model, cn_Model, rfl, by decide +kernel, (fun h => by cases h)⟩
theorem d_Model_drops_10 : decode prog_13_method_34_code 10 = .ok (.aload_n 0, 1) := by decide +kernel
theorem d_Model_drops_11 : decode prog_13_method_34_code 11 = .ok (.aload_n 0, 1) := by decide +kernel
theorem d_Model_drops_12 : decode prog_13_method_34_code 12 = .ok (.getfield 139, 3) := by decide +kernel
theorem gf_Model_139 : GF "NineBoardsModel" 139 10 52 := ⟨_, _, _, rfl, ci_Model, by decide, (mt_5 (List.mem_of_getElem? (i := 140) rfl) rfl)⟩
theorem d_Model_drops_15 : decode prog_13_method_34_code 15 = .ok (.aload_n 0, 1) := by decide +kernel
theorem d_Model_drops_16 : decode prog_13_method_34_code 16 = .ok (.getfield 292, 3) := by decide +kernel
theorem d_Model_drops_19 : decode prog_13_method_34_code 19 = .ok (.iaload, 1) := by decide +kernel
theorem d_Model_drops_20 : decode prog_13_method_34_code 20 = .ok (.invokevirtual 344, 3) := by decide +kernel
theorem kw_Model_344 : KW "NineBoardsModel" 344 ⟨"NineBoardsModel", "code", "(I)V"⟩ prog_13_method_31_code 2 none 1 := ⟨(mt_6 (List.mem_of_getElem? (i := 211) rfl) rfl), (mt_1 (List.mem_of_getElem? (i := 16) rfl) rfl), (mt_6 (List.mem_of_getElem? (i := 214) rfl) rfl), by decide +kernel⟩
theorem kv_Model_code : Cond.instanceMethod ⟨"NineBoardsModel", "code", "(I)V"⟩ ∈ TB ∧ Cond.selects "NineBoardsModel" ⟨"NineBoardsModel", "code", "(I)V"⟩ ⟨"NineBoardsModel", "code", "(I)V"⟩ ∈ TB := ⟨(mt_6 (List.mem_of_getElem? (i := 213) rfl) rfl), (ms_0 (List.mem_map.mpr ⟨(⟨"NineBoardsModel", "code", "(I)V"⟩, 79), List.mem_of_getElem? (i := 74) (by decide +kernel), rfl⟩) rfl)⟩
theorem d_Model_drops_23 : decode prog_13_method_34_code 23 = .ok (.return_, 1) := by decide +kernel
set_option maxHeartbeats 4000000 in
set_option maxRecDepth 100000 in
theorem c_M_drops (l : Launch) (D : va_G) (y : Nat → ClassId) (mo : Nat) (ma : Nat → Nat) (t1 : Nat) (t2 : Nat) (t3 : Nat) (i4 : Int32) (i5 : Int32) (i6 : Int32) (i7 : Int32) (i8 : Int32) (i42 : Int32) (i49 : Int32) (cd : Nat) (wn : Nat) (i54 : Int32) (i59 : Int32) (i61 : Int32) (i64 : Int32) (i66 : Int32) (t67 : Nat) (i76 : Int64) (i78 : Int32) (g50 : Nat → Int32) (g52 : Nat → Int32) (hc : cd < 1600) (hw1 : 1 ≤ wn) (hw2 : wn ≤ 1700) : CT l D y ⟨"NineBoardsModel", "drops", "()V"⟩ prog_13_method_34_code 1 none ({ frames := 1, cells := 0, slots := 0, locals := 21 } : Room) [.ref mo] [MB mo ma (nI t1) (nI t2) (nI t3) i4 i5 i6 i7 i8 i42 i49 (nI cd) (nI wn) i54 i59 i61 i64 i66 (nI t67) i76 i78, (ma 50, .inl (y 0, 3200, .inl g50)), (ma 52, .inl (y 0, 1700, .inl g52))] (QV D [MB mo ma (nI t1) (nI t2) (nI t3) i4 i5 i6 i7 i8 i42 i49 (nI cd) (nI wn) i54 i59 i61 i64 i66 (nI t67) i76 i78, (ma 50, .inl (y 0, 3200, .inl g50)), (ma 52, .inl (y 0, 1700, .inl g52))] (fun (_ : Unit) => True) (fun _ => [MB mo ma (nI t1) (nI t2) (nI t3) i4 i5 i6 i7 i8 i42 i49 (nI (cd + 1)) (nI (wn - 1)) i54 i59 i61 i64 i66 (nI t67) i76 i78, (ma 50, .inl (y 0, 3200, .inl (upd g50 cd (g52 (wn - 1))))), (ma 52, .inl (y 0, 1700, .inl g52))])) := by
  refine CT.of (by decide) (nb rfl) ?_
  intro p e s m args below meth c C hr
  refine j_lv (lv' := [(0, .ref mo)]) rfl ?_
  refine j_aload_n (pc := 0) C d_Model_drops_0 rfl 0 rfl ?_
  refine j_dup (pc := 1) C d_Model_drops_1 rfl ?_
  refine j_get (pc := 2) C gf_Model_292 0 rfl rfl d_Model_drops_2 ?_
  refine j_iconst (pc := 5) C (v := 1) d_Model_drops_5 (by decide) ?_
  refine j_isub (pc := 6) C (v := nI (wn - 1)) d_Model_drops_6 (pk_sub (a := wn) (b := 1) (by omega)) ?_
  refine j_put (pc := 7) C pf_Model_292 0 (ws' := [MB mo ma (nI t1) (nI t2) (nI t3) i4 i5 i6 i7 i8 i42 i49 (nI cd) (nI (wn - 1)) i54 i59 i61 i64 i66 (nI t67) i76 i78, (ma 50, .inl (y 0, 3200, .inl g50)), (ma 52, .inl (y 0, 1700, .inl g52))]) rfl rfl rfl (nl rfl) rfl d_Model_drops_7 ?_
  refine j_aload_n (pc := 10) C d_Model_drops_10 rfl 0 rfl ?_
  refine j_aload_n (pc := 11) C d_Model_drops_11 rfl 0 rfl ?_
  refine j_get (pc := 12) C gf_Model_139 0 rfl rfl d_Model_drops_12 ?_
  refine j_aload_n (pc := 15) C d_Model_drops_15 rfl 0 rfl ?_
  refine j_get (pc := 16) C gf_Model_292 0 rfl rfl d_Model_drops_16 ?_
  refine j_iald (pc := 19) C 2 rfl (v := g52 (wn - 1)) (vp_in_nI (by omega) (by decide)) (by rw [nI_clamp (by omega)]) d_Model_drops_19 ?_
  refine j_callVv (pc := 20) C (c_M_code l D y mo ma t1 t2 t3 i4 i5 i6 i7 i8 i42 i49 cd (wn - 1) i54 i59 i61 i64 i66 t67 i76 i78 g50 (g52 (wn - 1)) hc) kw_Model_344 kv_Model_code 0 10 rfl rfl ⟨by decide, by decide⟩ ⟨by decide, by decide⟩ (wr := [(ma 52, .inl (y 0, 1700, .inl g52))]) [0, 1] [2] rfl rfl (by decide) (by decide) (by decide) (As := [.int (g52 (wn - 1))]) (rest := []) rfl (nb rfl) rfl d_Model_drops_20 (fun _ _ => ?_)
  refine j_ws (ws' := [(ma 52, .inl (y 0, 1700, .inl g52)), MB mo ma (nI t1) (nI t2) (nI t3) i4 i5 i6 i7 i8 i42 i49 (nI (cd + 1)) (nI (wn - 1)) i54 i59 i61 i64 i66 (nI t67) i76 i78, (ma 50, .inl (y 0, 3200, .inl (upd g50 cd (g52 (wn - 1)))))]) rfl ?_
  exact j_vret (pc := 23) C hr () trivial [1, 2, 0] rfl (by decide) (by decide) (by decide) d_Model_drops_23
theorem d_Model_opens_0 : decode prog_13_method_32_code 0 = .ok (.aload_n 0, 1) := by decide +kernel
theorem d_Model_opens_1 : decode prog_13_method_32_code 1 = .ok (.getfield 295, 3) := by decide +kernel
theorem gf_Model_295 : GF "NineBoardsModel" 295 10 54 := ⟨_, _, _, rfl, ci_Model, by decide, (mt_5 (List.mem_of_getElem? (i := 142) rfl) rfl)⟩
theorem d_Model_opens_4 : decode prog_13_method_32_code 4 = .ok (.bipush 6, 2) := by decide +kernel
theorem d_Model_opens_6 : decode prog_13_method_32_code 6 = .ok (.if_icmp .ne 10, 3) := by decide +kernel
theorem d_Model_opens_16 : decode prog_13_method_32_code 16 = .ok (.aload_n 0, 1) := by decide +kernel
theorem d_Model_opens_17 : decode prog_13_method_32_code 17 = .ok (.dup, 1) := by decide +kernel
theorem d_Model_opens_18 : decode prog_13_method_32_code 18 = .ok (.getfield 295, 3) := by decide +kernel
theorem d_Model_opens_21 : decode prog_13_method_32_code 21 = .ok (.iconst 1, 1) := by decide +kernel
theorem d_Model_opens_22 : decode prog_13_method_32_code 22 = .ok (.iadd, 1) := by decide +kernel
theorem d_Model_opens_23 : decode prog_13_method_32_code 23 = .ok (.putfield 295, 3) := by decide +kernel
theorem pf_Model_295 : PF "NineBoardsModel" 295 10 54 (.int) false := ⟨_, _, _, ct_Model, rfl, ci_Model, by decide, (mt_5 (List.mem_of_getElem? (i := 142) rfl) rfl), cp_Model, cn_Model, rfl, by decide +kernel, (fun h => by cases h)⟩
theorem d_Model_opens_26 : decode prog_13_method_32_code 26 = .ok (.aload_n 0, 1) := by decide +kernel
theorem d_Model_opens_27 : decode prog_13_method_32_code 27 = .ok (.getfield 139, 3) := by decide +kernel
theorem d_Model_opens_30 : decode prog_13_method_32_code 30 = .ok (.aload_n 0, 1) := by decide +kernel
theorem d_Model_opens_31 : decode prog_13_method_32_code 31 = .ok (.getfield 292, 3) := by decide +kernel
theorem d_Model_opens_34 : decode prog_13_method_32_code 34 = .ok (.iload_n 1, 1) := by decide +kernel
theorem d_Model_opens_35 : decode prog_13_method_32_code 35 = .ok (.iastore, 1) := by decide +kernel
theorem d_Model_opens_36 : decode prog_13_method_32_code 36 = .ok (.aload_n 0, 1) := by decide +kernel
theorem d_Model_opens_37 : decode prog_13_method_32_code 37 = .ok (.dup, 1) := by decide +kernel
theorem d_Model_opens_38 : decode prog_13_method_32_code 38 = .ok (.getfield 292, 3) := by decide +kernel
theorem d_Model_opens_41 : decode prog_13_method_32_code 41 = .ok (.iconst 1, 1) := by decide +kernel
theorem d_Model_opens_42 : decode prog_13_method_32_code 42 = .ok (.iadd, 1) := by decide +kernel
theorem d_Model_opens_43 : decode prog_13_method_32_code 43 = .ok (.putfield 292, 3) := by decide +kernel
theorem d_Model_opens_46 : decode prog_13_method_32_code 46 = .ok (.return_, 1) := by decide +kernel
theorem d_Model_opens_9 : decode prog_13_method_32_code 9 = .ok (.aload_n 0, 1) := by decide +kernel
theorem d_Model_opens_10 : decode prog_13_method_32_code 10 = .ok (.iconst 4, 1) := by decide +kernel
theorem d_Model_opens_11 : decode prog_13_method_32_code 11 = .ok (.iload_n 2, 1) := by decide +kernel
theorem d_Model_opens_12 : decode prog_13_method_32_code 12 = .ok (.invokevirtual 230, 3) := by decide +kernel
theorem d_Model_opens_15 : decode prog_13_method_32_code 15 = .ok (.return_, 1) := by decide +kernel
set_option maxHeartbeats 4000000 in
set_option maxRecDepth 100000 in
theorem c_M_opens (l : Launch) (D : va_G) (y : Nat → ClassId) (mo : Nat) (ma : Nat → Nat) (t1 : Nat) (t2 : Nat) (t3 : Nat) (i4 : Int32) (i5 : Int32) (i6 : Int32) (i7 : Int32) (i8 : Int32) (i42 : Int32) (i49 : Int32) (cd : Nat) (wn : Nat) (i54 : Int32) (bs : Nat) (i61 : Int32) (i64 : Int32) (i66 : Int32) (t67 : Nat) (i76 : Int64) (i78 : Int32) (g52 : Nat → Int32) (v1 : Int32) (v2 : Int32) (s0 : Nat) (xx : Nat) (kq : Nat) (f0 : Nat → Int32) (aa : Nat) (g50 : Nat → Int32) (hib : ib v1 = 0) (hwn : wn < 1700) (hR : RS kq s0 f0 xx i5 g50 g52 cd wn aa) (hsi : SIt v1) (hT : ITm g52 bs) (hS : ISm g52 bs wn) (hbw : bs ≤ wn) (hK : 1 ≤ kq) : CT l D y ⟨"NineBoardsModel", "opens", "(II)V"⟩ prog_13_method_32_code 3 none ({ frames := 1, cells := 0, slots := 0, locals := 22 } : Room) [.ref mo, .int v1, .int v2] [MB mo ma (nI t1) (nI t2) (nI t3) i4 i5 i6 i7 i8 i42 i49 (nI cd) (nI wn) i54 (nI bs) i61 i64 i66 (nI t67) i76 i78, (ma 52, .inl (y 0, 1700, .inl g52))] (QV D [MB mo ma (nI t1) (nI t2) (nI t3) i4 i5 i6 i7 i8 i42 i49 (nI cd) (nI wn) i54 (nI bs) i61 i64 i66 (nI t67) i76 i78, (ma 52, .inl (y 0, 1700, .inl g52))] (fun (u : Int32 × Int32 × Nat × Int32 × (Nat → Int32)) => wn ≤ u.2.2.1 ∧ u.2.2.1 ≤ wn + 1 ∧ (u.1 = 0 → i5 = 0) ∧ RS kq s0 f0 xx u.1 g50 u.2.2.2.2 cd u.2.2.1 (aa + 1) ∧ (i5 = 0 → ¬ u.1 = 0 → RS kq s0 f0 xx u.1 g50 u.2.2.2.2 cd u.2.2.1 aa) ∧ ITm u.2.2.2.2 bs ∧ ISm u.2.2.2.2 bs u.2.2.1) (fun u => [MB mo ma (nI t1) (nI t2) (nI t3) i4 u.1 u.2.1 i7 i8 i42 i49 (nI cd) (nI u.2.2.1) u.2.2.2.1 (nI bs) i61 i64 i66 (nI t67) i76 i78, (ma 52, .inl (y 0, 1700, .inl u.2.2.2.2))])) := by
  refine CT.of (by decide) (nb rfl) ?_
  intro p e s m args below meth c C hr
  refine j_lv (lv' := [(0, .ref mo), (1, .int v1), (2, .int v2)]) rfl ?_
  refine j_aload_n (pc := 0) C d_Model_opens_0 rfl 0 rfl ?_
  refine j_get (pc := 1) C gf_Model_295 0 rfl rfl d_Model_opens_1 ?_
  refine j_bipush (pc := 4) C (v := 6) d_Model_opens_4 (by decide) ?_
  refine j_icmp_ne (pc := 6) C (tgt := 16) d_Model_opens_6 (by decide) (fun c1 => ?_) (fun c1 => ?_)
  · refine j_aload_n (pc := 16) C d_Model_opens_16 rfl 0 rfl ?_
    refine j_dup (pc := 17) C d_Model_opens_17 rfl ?_
    refine j_get (pc := 18) C gf_Model_295 0 rfl rfl d_Model_opens_18 ?_
    refine j_iconst (pc := 21) C (v := 1) d_Model_opens_21 (by decide) ?_
    refine j_iadd (pc := 22) C (v := i54 + 1) d_Model_opens_22 rfl ?_
    refine j_put (pc := 23) C pf_Model_295 0 (ws' := [MB mo ma (nI t1) (nI t2) (nI t3) i4 i5 i6 i7 i8 i42 i49 (nI cd) (nI wn) (i54 + 1) (nI bs) i61 i64 i66 (nI t67) i76 i78, (ma 52, .inl (y 0, 1700, .inl g52))]) rfl rfl rfl (nl rfl) rfl d_Model_opens_23 ?_
    refine j_aload_n (pc := 26) C d_Model_opens_26 rfl 0 rfl ?_
    refine j_get (pc := 27) C gf_Model_139 0 rfl rfl d_Model_opens_27 ?_
    refine j_aload_n (pc := 30) C d_Model_opens_30 rfl 0 rfl ?_
    refine j_get (pc := 31) C gf_Model_292 0 rfl rfl d_Model_opens_31 ?_
    refine j_iload_n (pc := 34) C d_Model_opens_34 rfl 1 rfl ?_
    refine j_iast (pc := 35) C 1 rfl (ws' := [MB mo ma (nI t1) (nI t2) (nI t3) i4 i5 i6 i7 i8 i42 i49 (nI cd) (nI wn) (i54 + 1) (nI bs) i61 i64 i66 (nI t67) i76 i78, (ma 52, .inl (y 0, 1700, .inl (upd g52 wn v1)))]) (vp_in_nI (by omega) (by decide)) (by rw [nI_clamp (by omega)]; rfl) d_Model_opens_35 ?_
    refine j_aload_n (pc := 36) C d_Model_opens_36 rfl 0 rfl ?_
    refine j_dup (pc := 37) C d_Model_opens_37 rfl ?_
    refine j_get (pc := 38) C gf_Model_292 0 rfl rfl d_Model_opens_38 ?_
    refine j_iconst (pc := 41) C (v := 1) d_Model_opens_41 (by decide) ?_
    refine j_iadd (pc := 42) C (v := nI (wn + 1)) d_Model_opens_42 (nI_add _ _) ?_
    refine j_put (pc := 43) C pf_Model_292 0 (ws' := [MB mo ma (nI t1) (nI t2) (nI t3) i4 i5 i6 i7 i8 i42 i49 (nI cd) (nI (wn + 1)) (i54 + 1) (nI bs) i61 i64 i66 (nI t67) i76 i78, (ma 52, .inl (y 0, 1700, .inl (upd g52 wn v1)))]) rfl rfl rfl (nl rfl) rfl d_Model_opens_43 ?_
    exact j_vret (pc := 46) C hr (i5, i6, (wn + 1), i54 + 1, (upd g52 wn v1)) ⟨(Nat.le_succ _), (Nat.le_refl _), id, (rs_push hR hib), (fun e e2 => absurd e e2), (it_up hT hbw), (is_up hS hsi)⟩ [0, 1] rfl (by decide) (by decide) (by decide) d_Model_opens_46
  · refine j_aload_n (pc := 9) C d_Model_opens_9 rfl 0 rfl ?_
    refine j_iconst (pc := 10) C (v := 4) d_Model_opens_10 (by decide) ?_
    refine j_iload_n (pc := 11) C d_Model_opens_11 rfl 2 rfl ?_
    refine j_callVv (pc := 12) C (c_M_fail l D y mo ma t1 t2 t3 i4 i5 i6 i7 i8 i42 i49 (nI cd) (nI wn) i54 (nI bs) i61 i64 i66 t67 i76 i78 4 v2 (by decide)) kw_Model_230 kv_Model_fail 0 10 rfl rfl ⟨by decide, by decide⟩ ⟨by decide, by decide⟩ (wr := [(ma 52, .inl (y 0, 1700, .inl g52))]) [0] [1] rfl rfl (by decide) (by decide) (by decide) (As := [.int 4, .int v2]) (rest := []) rfl (nb rfl) rfl d_Model_opens_12 (fun u2 hu3 => ?_)
    have xh4 := hu3
    refine j_ws (ws' := [(ma 52, .inl (y 0, 1700, .inl g52)), MB mo ma (nI t1) (nI t2) (nI t3) i4 u2.1 u2.2 i7 i8 i42 i49 (nI cd) (nI wn) i54 (nI bs) i61 i64 i66 (nI t67) i76 i78]) rfl ?_
    exact j_vret (pc := 15) C hr (u2.1, u2.2, wn, i54, g52) ⟨(Nat.le_refl _), (Nat.le_succ _), (fun e => absurd e xh4), (rs_at (rs_bad hR xh4) (Nat.le_succ _)), (fun _ _ => rs_bad hR xh4), hT, (is_le hS (Nat.le_refl _))⟩ [1, 0] rfl (by decide) (by decide) (by decide) d_Model_opens_15
set_option maxHeartbeats 4000000 in
set_option maxRecDepth 100000 in
theorem c_M_opens_T (l : Launch) (D : va_G) (y : Nat → ClassId) (mo : Nat) (ma : Nat → Nat) (t1 : Nat) (t2 : Nat) (t3 : Nat) (i4 : Int32) (i5 : Int32) (i6 : Int32) (i7 : Int32) (i8 : Int32) (i42 : Int32) (i49 : Int32) (cd : Nat) (wn : Nat) (i54 : Int32) (i59 : Int32) (i61 : Int32) (i64 : Int32) (i66 : Int32) (t67 : Nat) (i76 : Int64) (i78 : Int32) (g52 : Nat → Int32) (v1 : Int32) (v2 : Int32) (s0 : Nat) (xx : Nat) (kq : Nat) (f0 : Nat → Int32) (aa : Nat) (g50 : Nat → Int32) (hib : ib v1 = 0) (hwn : wn < 1700) (hR : RS kq s0 f0 xx i5 g50 g52 cd wn aa) (hti : TIt v1) (hTT : ITm g52 wn) (hK : 1 ≤ kq) : CT l D y ⟨"NineBoardsModel", "opens", "(II)V"⟩ prog_13_method_32_code 3 none ({ frames := 1, cells := 0, slots := 0, locals := 22 } : Room) [.ref mo, .int v1, .int v2] [MB mo ma (nI t1) (nI t2) (nI t3) i4 i5 i6 i7 i8 i42 i49 (nI cd) (nI wn) i54 i59 i61 i64 i66 (nI t67) i76 i78, (ma 52, .inl (y 0, 1700, .inl g52))] (QV D [MB mo ma (nI t1) (nI t2) (nI t3) i4 i5 i6 i7 i8 i42 i49 (nI cd) (nI wn) i54 i59 i61 i64 i66 (nI t67) i76 i78, (ma 52, .inl (y 0, 1700, .inl g52))] (fun (u : Int32 × Int32 × Nat × Int32 × (Nat → Int32)) => wn ≤ u.2.2.1 ∧ u.2.2.1 ≤ wn + 1 ∧ (u.1 = 0 → i5 = 0) ∧ RS kq s0 f0 xx u.1 g50 u.2.2.2.2 cd u.2.2.1 (aa + 1) ∧ (i5 = 0 → ¬ u.1 = 0 → RS kq s0 f0 xx u.1 g50 u.2.2.2.2 cd u.2.2.1 aa) ∧ ITm u.2.2.2.2 u.2.2.1) (fun u => [MB mo ma (nI t1) (nI t2) (nI t3) i4 u.1 u.2.1 i7 i8 i42 i49 (nI cd) (nI u.2.2.1) u.2.2.2.1 i59 i61 i64 i66 (nI t67) i76 i78, (ma 52, .inl (y 0, 1700, .inl u.2.2.2.2))])) := by
  refine CT.of (by decide) (nb rfl) ?_
  intro p e s m args below meth c C hr
  refine j_lv (lv' := [(0, .ref mo), (1, .int v1), (2, .int v2)]) rfl ?_
  refine j_aload_n (pc := 0) C d_Model_opens_0 rfl 0 rfl ?_
  refine j_get (pc := 1) C gf_Model_295 0 rfl rfl d_Model_opens_1 ?_
  refine j_bipush (pc := 4) C (v := 6) d_Model_opens_4 (by decide) ?_
  refine j_icmp_ne (pc := 6) C (tgt := 16) d_Model_opens_6 (by decide) (fun c1 => ?_) (fun c1 => ?_)
  · refine j_aload_n (pc := 16) C d_Model_opens_16 rfl 0 rfl ?_
    refine j_dup (pc := 17) C d_Model_opens_17 rfl ?_
    refine j_get (pc := 18) C gf_Model_295 0 rfl rfl d_Model_opens_18 ?_
    refine j_iconst (pc := 21) C (v := 1) d_Model_opens_21 (by decide) ?_
    refine j_iadd (pc := 22) C (v := i54 + 1) d_Model_opens_22 rfl ?_
    refine j_put (pc := 23) C pf_Model_295 0 (ws' := [MB mo ma (nI t1) (nI t2) (nI t3) i4 i5 i6 i7 i8 i42 i49 (nI cd) (nI wn) (i54 + 1) i59 i61 i64 i66 (nI t67) i76 i78, (ma 52, .inl (y 0, 1700, .inl g52))]) rfl rfl rfl (nl rfl) rfl d_Model_opens_23 ?_
    refine j_aload_n (pc := 26) C d_Model_opens_26 rfl 0 rfl ?_
    refine j_get (pc := 27) C gf_Model_139 0 rfl rfl d_Model_opens_27 ?_
    refine j_aload_n (pc := 30) C d_Model_opens_30 rfl 0 rfl ?_
    refine j_get (pc := 31) C gf_Model_292 0 rfl rfl d_Model_opens_31 ?_
    refine j_iload_n (pc := 34) C d_Model_opens_34 rfl 1 rfl ?_
    refine j_iast (pc := 35) C 1 rfl (ws' := [MB mo ma (nI t1) (nI t2) (nI t3) i4 i5 i6 i7 i8 i42 i49 (nI cd) (nI wn) (i54 + 1) i59 i61 i64 i66 (nI t67) i76 i78, (ma 52, .inl (y 0, 1700, .inl (upd g52 wn v1)))]) (vp_in_nI (by omega) (by decide)) (by rw [nI_clamp (by omega)]; rfl) d_Model_opens_35 ?_
    refine j_aload_n (pc := 36) C d_Model_opens_36 rfl 0 rfl ?_
    refine j_dup (pc := 37) C d_Model_opens_37 rfl ?_
    refine j_get (pc := 38) C gf_Model_292 0 rfl rfl d_Model_opens_38 ?_
    refine j_iconst (pc := 41) C (v := 1) d_Model_opens_41 (by decide) ?_
    refine j_iadd (pc := 42) C (v := nI (wn + 1)) d_Model_opens_42 (nI_add _ _) ?_
    refine j_put (pc := 43) C pf_Model_292 0 (ws' := [MB mo ma (nI t1) (nI t2) (nI t3) i4 i5 i6 i7 i8 i42 i49 (nI cd) (nI (wn + 1)) (i54 + 1) i59 i61 i64 i66 (nI t67) i76 i78, (ma 52, .inl (y 0, 1700, .inl (upd g52 wn v1)))]) rfl rfl rfl (nl rfl) rfl d_Model_opens_43 ?_
    exact j_vret (pc := 46) C hr (i5, i6, (wn + 1), i54 + 1, (upd g52 wn v1)) ⟨(Nat.le_succ _), (Nat.le_refl _), id, (rs_push hR hib), (fun e e2 => absurd e e2), (it_push hTT hti)⟩ [0, 1] rfl (by decide) (by decide) (by decide) d_Model_opens_46
  · refine j_aload_n (pc := 9) C d_Model_opens_9 rfl 0 rfl ?_
    refine j_iconst (pc := 10) C (v := 4) d_Model_opens_10 (by decide) ?_
    refine j_iload_n (pc := 11) C d_Model_opens_11 rfl 2 rfl ?_
    refine j_callVv (pc := 12) C (c_M_fail l D y mo ma t1 t2 t3 i4 i5 i6 i7 i8 i42 i49 (nI cd) (nI wn) i54 i59 i61 i64 i66 t67 i76 i78 4 v2 (by decide)) kw_Model_230 kv_Model_fail 0 10 rfl rfl ⟨by decide, by decide⟩ ⟨by decide, by decide⟩ (wr := [(ma 52, .inl (y 0, 1700, .inl g52))]) [0] [1] rfl rfl (by decide) (by decide) (by decide) (As := [.int 4, .int v2]) (rest := []) rfl (nb rfl) rfl d_Model_opens_12 (fun u2 hu3 => ?_)
    have xh4 := hu3
    refine j_ws (ws' := [(ma 52, .inl (y 0, 1700, .inl g52)), MB mo ma (nI t1) (nI t2) (nI t3) i4 u2.1 u2.2 i7 i8 i42 i49 (nI cd) (nI wn) i54 i59 i61 i64 i66 (nI t67) i76 i78]) rfl ?_
    exact j_vret (pc := 15) C hr (u2.1, u2.2, wn, i54, g52) ⟨(Nat.le_refl _), (Nat.le_succ _), (fun e => absurd e xh4), (rs_at (rs_bad hR xh4) (Nat.le_succ _)), (fun _ _ => rs_bad hR xh4), hTT⟩ [1, 0] rfl (by decide) (by decide) (by decide) d_Model_opens_15
theorem d_Model_isOn_0 : decode prog_13_method_33_code 0 = .ok (.aload_n 0, 1) := by decide +kernel
theorem d_Model_isOn_1 : decode prog_13_method_33_code 1 = .ok (.getfield 292, 3) := by decide +kernel
theorem d_Model_isOn_4 : decode prog_13_method_33_code 4 = .ok (.ifCond .le 22, 3) := by decide +kernel
theorem d_Model_isOn_26 : decode prog_13_method_33_code 26 = .ok (.iconst 0, 1) := by decide +kernel
theorem d_Model_isOn_27 : decode prog_13_method_33_code 27 = .ok (.ireturn, 1) := by decide +kernel
theorem d_Model_isOn_7 : decode prog_13_method_33_code 7 = .ok (.aload_n 0, 1) := by decide +kernel
theorem d_Model_isOn_8 : decode prog_13_method_33_code 8 = .ok (.getfield 139, 3) := by decide +kernel
theorem d_Model_isOn_11 : decode prog_13_method_33_code 11 = .ok (.aload_n 0, 1) := by decide +kernel
theorem d_Model_isOn_12 : decode prog_13_method_33_code 12 = .ok (.getfield 292, 3) := by decide +kernel
theorem d_Model_isOn_15 : decode prog_13_method_33_code 15 = .ok (.iconst 1, 1) := by decide +kernel
theorem d_Model_isOn_16 : decode prog_13_method_33_code 16 = .ok (.isub, 1) := by decide +kernel
theorem d_Model_isOn_17 : decode prog_13_method_33_code 17 = .ok (.iaload, 1) := by decide +kernel
theorem d_Model_isOn_18 : decode prog_13_method_33_code 18 = .ok (.iload_n 1, 1) := by decide +kernel
theorem d_Model_isOn_19 : decode prog_13_method_33_code 19 = .ok (.if_icmp .ne 7, 3) := by decide +kernel
theorem d_Model_isOn_22 : decode prog_13_method_33_code 22 = .ok (.iconst 1, 1) := by decide +kernel
theorem d_Model_isOn_23 : decode prog_13_method_33_code 23 = .ok (.goto 4, 3) := by decide +kernel
set_option maxHeartbeats 4000000 in
set_option maxRecDepth 100000 in
theorem c_M_isOn (l : Launch) (D : va_G) (y : Nat → ClassId) (mo : Nat) (ma : Nat → Nat) (t1 : Nat) (t2 : Nat) (t3 : Nat) (i4 : Int32) (i5 : Int32) (i6 : Int32) (i7 : Int32) (i8 : Int32) (i42 : Int32) (i49 : Int32) (i51 : Int32) (wn : Nat) (i54 : Int32) (i59 : Int32) (i61 : Int32) (i64 : Int32) (i66 : Int32) (t67 : Nat) (i76 : Int64) (i78 : Int32) (g52 : Nat → Int32) (v : Int32) (hw : wn ≤ 1700) : CT l D y ⟨"NineBoardsModel", "isOn", "(I)Z"⟩ prog_13_method_33_code 2 (some .boolean) ({ frames := 0, cells := 0, slots := 0, locals := 0 } : Room) [.ref mo, .int v] [MB mo ma (nI t1) (nI t2) (nI t3) i4 i5 i6 i7 i8 i42 i49 i51 (nI wn) i54 i59 i61 i64 i66 (nI t67) i76 i78, (ma 52, .inl (y 0, 1700, .inl g52))] (QI D [MB mo ma (nI t1) (nI t2) (nI t3) i4 i5 i6 i7 i8 i42 i49 i51 (nI wn) i54 i59 i61 i64 i66 (nI t67) i76 i78, (ma 52, .inl (y 0, 1700, .inl g52))] (fun (r : Int32) (u : Unit) => ((r = 0 ∧ (wn = 0 ∨ ¬ g52 (wn - 1) = v)) ∨ (r = 1 ∧ 1 ≤ wn ∧ g52 (wn - 1) = v))) (fun _ => [MB mo ma (nI t1) (nI t2) (nI t3) i4 i5 i6 i7 i8 i42 i49 i51 (nI wn) i54 i59 i61 i64 i66 (nI t67) i76 i78, (ma 52, .inl (y 0, 1700, .inl g52))])) := by
  refine CT.of (by decide) (nb rfl) ?_
  intro p e s m args below meth c C hr
  refine j_lv (lv' := [(0, .ref mo), (1, .int v)]) rfl ?_
  refine j_aload_n (pc := 0) C d_Model_isOn_0 rfl 0 rfl ?_
  refine j_get (pc := 1) C gf_Model_292 0 rfl rfl d_Model_isOn_1 ?_
  by_cases c1 : wn ≤ 0
  · refine j_if_leT (pc := 4) C (tgt := 26) d_Model_isOn_4 (by decide) (show nI wn ≤ nI 0 from nI_le (by omega) (by omega)) ?_
    refine j_iconst (pc := 26) C (v := 0) d_Model_isOn_26 (by decide) ?_
    exact j_iret (pc := 27) C hr (by decide) () (Or.inl ⟨rfl, Or.inl (by omega)⟩) [0, 1] rfl (by decide) (by decide) (by decide) d_Model_isOn_27
  · refine j_if_leF (pc := 4) C (tgt := 26) d_Model_isOn_4 (by decide) (show ¬ nI wn ≤ nI 0 from nI_ge (by omega) (by omega)) ?_
    refine j_aload_n (pc := 7) C d_Model_isOn_7 rfl 0 rfl ?_
    refine j_get (pc := 8) C gf_Model_139 0 rfl rfl d_Model_isOn_8 ?_
    refine j_aload_n (pc := 11) C d_Model_isOn_11 rfl 0 rfl ?_
    refine j_get (pc := 12) C gf_Model_292 0 rfl rfl d_Model_isOn_12 ?_
    refine j_iconst (pc := 15) C (v := 1) d_Model_isOn_15 (by decide) ?_
    refine j_isub (pc := 16) C (v := nI (wn - 1)) d_Model_isOn_16 (pk_sub (a := wn) (b := 1) (by omega)) ?_
    refine j_iald (pc := 17) C 1 rfl (v := g52 (wn - 1)) (vp_in_nI (by omega) (by decide)) (by rw [nI_clamp (by omega)]) d_Model_isOn_17 ?_
    refine j_iload_n (pc := 18) C d_Model_isOn_18 rfl 1 rfl ?_
    refine j_icmp_ne (pc := 19) C (tgt := 26) d_Model_isOn_19 (by decide) (fun c2 => ?_) (fun c2 => ?_)
    · refine j_iconst (pc := 26) C (v := 0) d_Model_isOn_26 (by decide) ?_
      exact j_iret (pc := 27) C hr (by decide) () (Or.inl ⟨rfl, Or.inr c2⟩) [0, 1] rfl (by decide) (by decide) (by decide) d_Model_isOn_27
    · refine j_iconst (pc := 22) C (v := 1) d_Model_isOn_22 (by decide) ?_
      refine j_goto (pc := 23) C (tgt := 27) d_Model_isOn_23 (by decide) ?_
      exact j_iret (pc := 27) C hr (by decide) () (Or.inr ⟨rfl, by omega, c2⟩) [0, 1] rfl (by decide) (by decide) (by decide) d_Model_isOn_27
theorem d_Model_isMark_0 : decode prog_13_method_35_code 0 = .ok (.iload_n 1, 1) := by decide +kernel
theorem d_Model_isMark_1 : decode prog_13_method_35_code 1 = .ok (.bipush 20, 2) := by decide +kernel
theorem d_Model_isMark_3 : decode prog_13_method_35_code 3 = .ok (.if_icmp .lt 13, 3) := by decide +kernel
theorem d_Model_isMark_16 : decode prog_13_method_35_code 16 = .ok (.iconst 0, 1) := by decide +kernel
theorem d_Model_isMark_17 : decode prog_13_method_35_code 17 = .ok (.ireturn, 1) := by decide +kernel
theorem d_Model_isMark_6 : decode prog_13_method_35_code 6 = .ok (.iload_n 1, 1) := by decide +kernel
theorem d_Model_isMark_7 : decode prog_13_method_35_code 7 = .ok (.bipush 24, 2) := by decide +kernel
theorem d_Model_isMark_9 : decode prog_13_method_35_code 9 = .ok (.if_icmp .gt 7, 3) := by decide +kernel
theorem d_Model_isMark_12 : decode prog_13_method_35_code 12 = .ok (.iconst 1, 1) := by decide +kernel
theorem d_Model_isMark_13 : decode prog_13_method_35_code 13 = .ok (.goto 4, 3) := by decide +kernel
set_option maxHeartbeats 4000000 in
set_option maxRecDepth 100000 in
theorem c_M_isMark (l : Launch) (D : va_G) (y : Nat → ClassId) (mo : Nat) (ma : Nat → Nat) (t1 : Nat) (t2 : Nat) (t3 : Nat) (i4 : Int32) (i5 : Int32) (i6 : Int32) (i7 : Int32) (i8 : Int32) (i42 : Int32) (i49 : Int32) (i51 : Int32) (i53 : Int32) (i54 : Int32) (i59 : Int32) (i61 : Int32) (i64 : Int32) (i66 : Int32) (t67 : Nat) (i76 : Int64) (i78 : Int32) (v : Int32)  : CT l D y ⟨"NineBoardsModel", "isMark", "(I)Z"⟩ prog_13_method_35_code 2 (some .boolean) ({ frames := 0, cells := 0, slots := 0, locals := 0 } : Room) [.ref mo, .int v] [MB mo ma (nI t1) (nI t2) (nI t3) i4 i5 i6 i7 i8 i42 i49 i51 i53 i54 i59 i61 i64 i66 (nI t67) i76 i78] (QI D [MB mo ma (nI t1) (nI t2) (nI t3) i4 i5 i6 i7 i8 i42 i49 i51 i53 i54 i59 i61 i64 i66 (nI t67) i76 i78] (fun (r : Int32) (u : Unit) => ((r = 0 ∧ ¬ MK v) ∨ (r = 1 ∧ MK v))) (fun _ => [MB mo ma (nI t1) (nI t2) (nI t3) i4 i5 i6 i7 i8 i42 i49 i51 i53 i54 i59 i61 i64 i66 (nI t67) i76 i78])) := by
  refine CT.of (by decide) (nb rfl) ?_
  intro p e s m args below meth c C hr
  refine j_lv (lv' := [(0, .ref mo), (1, .int v)]) rfl ?_
  refine j_iload_n (pc := 0) C d_Model_isMark_0 rfl 1 rfl ?_
  refine j_bipush (pc := 1) C (v := 20) d_Model_isMark_1 (by decide) ?_
  refine j_icmp_lt (pc := 3) C (tgt := 16) d_Model_isMark_3 (by decide) (fun c1 => ?_) (fun c1 => ?_)
  · refine j_iconst (pc := 16) C (v := 0) d_Model_isMark_16 (by decide) ?_
    exact j_iret (pc := 17) C hr (by decide) () (Or.inl ⟨rfl, fun e => absurd e.1 (Int32.not_le.mpr c1)⟩) [0] rfl (by decide) (by decide) (by decide) d_Model_isMark_17
  · refine j_iload_n (pc := 6) C d_Model_isMark_6 rfl 1 rfl ?_
    refine j_bipush (pc := 7) C (v := 24) d_Model_isMark_7 (by decide) ?_
    refine j_icmp_gt (pc := 9) C (tgt := 16) d_Model_isMark_9 (by decide) (fun c2 => ?_) (fun c2 => ?_)
    · refine j_iconst (pc := 16) C (v := 0) d_Model_isMark_16 (by decide) ?_
      exact j_iret (pc := 17) C hr (by decide) () (Or.inl ⟨rfl, fun e => absurd e.2 (Int32.not_le.mpr c2)⟩) [0] rfl (by decide) (by decide) (by decide) d_Model_isMark_17
    · refine j_iconst (pc := 12) C (v := 1) d_Model_isMark_12 (by decide) ?_
      refine j_goto (pc := 13) C (tgt := 17) d_Model_isMark_13 (by decide) ?_
      exact j_iret (pc := 17) C hr (by decide) () (Or.inr ⟨rfl, Int32.not_lt.mp c1, Int32.not_lt.mp c2⟩) [0] rfl (by decide) (by decide) (by decide) d_Model_isMark_17
theorem d_Model_mark_0 : decode prog_13_method_36_code 0 = .ok (.aload_n 0, 1) := by decide +kernel
theorem d_Model_mark_1 : decode prog_13_method_36_code 1 = .ok (.getfield 292, 3) := by decide +kernel
theorem d_Model_mark_4 : decode prog_13_method_36_code 4 = .ok (.iconst 1, 1) := by decide +kernel
theorem d_Model_mark_5 : decode prog_13_method_36_code 5 = .ok (.isub, 1) := by decide +kernel
theorem d_Model_mark_6 : decode prog_13_method_36_code 6 = .ok (.istore_n 1, 1) := by decide +kernel
theorem d_Model_mark_7 : decode prog_13_method_36_code 7 = .ok (.iload_n 1, 1) := by decide +kernel
theorem d_Model_mark_8 : decode prog_13_method_36_code 8 = .ok (.aload_n 0, 1) := by decide +kernel
theorem d_Model_mark_9 : decode prog_13_method_36_code 9 = .ok (.getfield 298, 3) := by decide +kernel
theorem gf_Model_298 : GF "NineBoardsModel" 298 10 59 := ⟨_, _, _, rfl, ci_Model, by decide, (mt_5 (List.mem_of_getElem? (i := 147) rfl) rfl)⟩
theorem d_Model_mark_12 : decode prog_13_method_36_code 12 = .ok (.if_icmp .lt 22, 3) := by decide +kernel
theorem d_Model_mark_34 : decode prog_13_method_36_code 34 = .ok (.iload_n 1, 1) := by decide +kernel
theorem d_Model_mark_35 : decode prog_13_method_36_code 35 = .ok (.aload_n 0, 1) := by decide +kernel
theorem d_Model_mark_36 : decode prog_13_method_36_code 36 = .ok (.getfield 298, 3) := by decide +kernel
theorem d_Model_mark_39 : decode prog_13_method_36_code 39 = .ok (.if_icmp .lt 12, 3) := by decide +kernel
theorem d_Model_mark_51 : decode prog_13_method_36_code 51 = .ok (.iconst (-1), 1) := by decide +kernel
theorem d_Model_mark_52 : decode prog_13_method_36_code 52 = .ok (.ireturn, 1) := by decide +kernel
theorem d_Model_mark_15 : decode prog_13_method_36_code 15 = .ok (.aload_n 0, 1) := by decide +kernel
theorem d_Model_mark_16 : decode prog_13_method_36_code 16 = .ok (.aload_n 0, 1) := by decide +kernel
theorem d_Model_mark_17 : decode prog_13_method_36_code 17 = .ok (.getfield 139, 3) := by decide +kernel
theorem d_Model_mark_20 : decode prog_13_method_36_code 20 = .ok (.iload_n 1, 1) := by decide +kernel
theorem d_Model_mark_21 : decode prog_13_method_36_code 21 = .ok (.iaload, 1) := by decide +kernel
theorem d_Model_mark_22 : decode prog_13_method_36_code 22 = .ok (.invokevirtual 347, 3) := by decide +kernel
theorem kw_Model_347 : KW "NineBoardsModel" 347 ⟨"NineBoardsModel", "isMark", "(I)Z"⟩ prog_13_method_35_code 2 (some .boolean) 1 := ⟨(mt_6 (List.mem_of_getElem? (i := 223) rfl) rfl), (mt_1 (List.mem_of_getElem? (i := 16) rfl) rfl), (mt_6 (List.mem_of_getElem? (i := 226) rfl) rfl), by decide +kernel⟩
theorem kv_Model_isMark : Cond.instanceMethod ⟨"NineBoardsModel", "isMark", "(I)Z"⟩ ∈ TB ∧ Cond.selects "NineBoardsModel" ⟨"NineBoardsModel", "isMark", "(I)Z"⟩ ⟨"NineBoardsModel", "isMark", "(I)Z"⟩ ∈ TB := ⟨(mt_6 (List.mem_of_getElem? (i := 225) rfl) rfl), (ms_0 (List.mem_map.mpr ⟨(⟨"NineBoardsModel", "isMark", "(I)Z"⟩, 79), List.mem_of_getElem? (i := 77) (by decide +kernel), rfl⟩) rfl)⟩
theorem d_Model_mark_25 : decode prog_13_method_36_code 25 = .ok (.ifCond .ne 9, 3) := by decide +kernel
theorem d_Model_mark_28 : decode prog_13_method_36_code 28 = .ok (.iinc 1 (-1), 3) := by decide +kernel
theorem d_Model_mark_31 : decode prog_13_method_36_code 31 = .ok (.goto (-24), 3) := by decide +kernel
theorem d_Model_mark_42 : decode prog_13_method_36_code 42 = .ok (.aload_n 0, 1) := by decide +kernel
theorem d_Model_mark_43 : decode prog_13_method_36_code 43 = .ok (.getfield 139, 3) := by decide +kernel
theorem d_Model_mark_46 : decode prog_13_method_36_code 46 = .ok (.iload_n 1, 1) := by decide +kernel
theorem d_Model_mark_47 : decode prog_13_method_36_code 47 = .ok (.iaload, 1) := by decide +kernel
theorem d_Model_mark_48 : decode prog_13_method_36_code 48 = .ok (.goto 4, 3) := by decide +kernel
set_option maxHeartbeats 4000000 in
set_option maxRecDepth 100000 in
theorem c_M_mark (l : Launch) (D : va_G) (y : Nat → ClassId) (mo : Nat) (ma : Nat → Nat) (t1 : Nat) (t2 : Nat) (t3 : Nat) (i4 : Int32) (i5 : Int32) (i6 : Int32) (i7 : Int32) (i8 : Int32) (i42 : Int32) (i49 : Int32) (i51 : Int32) (wn : Nat) (i54 : Int32) (bs : Nat) (i61 : Int32) (i64 : Int32) (i66 : Int32) (t67 : Nat) (i76 : Int64) (i78 : Int32) (g52 : Nat → Int32) (hbw : bs ≤ wn) (hw : wn ≤ 1700) : CT l D y ⟨"NineBoardsModel", "mark", "()I"⟩ prog_13_method_36_code 2 (some .int) ({ frames := 1, cells := 0, slots := 0, locals := 21 } : Room) [.ref mo] [MB mo ma (nI t1) (nI t2) (nI t3) i4 i5 i6 i7 i8 i42 i49 i51 (nI wn) i54 (nI bs) i61 i64 i66 (nI t67) i76 i78, (ma 52, .inl (y 0, 1700, .inl g52))] (QI D [MB mo ma (nI t1) (nI t2) (nI t3) i4 i5 i6 i7 i8 i42 i49 i51 (nI wn) i54 (nI bs) i61 i64 i66 (nI t67) i76 i78, (ma 52, .inl (y 0, 1700, .inl g52))] (fun (r : Int32) (u : Unit) => ((r = -1 ∧ NMk g52 bs wn) ∨ TMk g52 bs wn r)) (fun _ => [MB mo ma (nI t1) (nI t2) (nI t3) i4 i5 i6 i7 i8 i42 i49 i51 (nI wn) i54 (nI bs) i61 i64 i66 (nI t67) i76 i78, (ma 52, .inl (y 0, 1700, .inl g52))])) := by
  refine CT.of (by decide) (nb rfl) ?_
  intro p e s m args below meth c C hr
  refine j_lv (lv' := [(0, .ref mo)]) rfl ?_
  refine j_aload_n (pc := 0) C d_Model_mark_0 rfl 0 rfl ?_
  refine j_get (pc := 1) C gf_Model_292 0 rfl rfl d_Model_mark_1 ?_
  refine j_iconst (pc := 4) C (v := 1) d_Model_mark_4 (by decide) ?_
  refine j_isub (pc := 5) C (v := nI wn - 1) d_Model_mark_5 rfl ?_
  refine j_istore_n (pc := 6) C (lv' := [(1, .int (nI wn - 1)), (0, .ref mo)]) d_Model_mark_6 rfl (by decide) rfl ?_
  refine j_loop (α := Int32 × Nat) (fun a => a.2) (fun a => (a.2 ≤ wn) ∧ (bs ≤ a.2) ∧ (a.1 = nI a.2 - 1) ∧ (NMk g52 a.2 wn)) (fun a => [MB mo ma (nI t1) (nI t2) (nI t3) i4 i5 i6 i7 i8 i42 i49 i51 (nI wn) i54 (nI bs) i61 i64 i66 (nI t67) i76 i78, (ma 52, .inl (y 0, 1700, .inl g52))]) (fun a => [(1, .int a.1), (0, .ref mo)]) (nI wn - 1, wn) rfl rfl ⟨(show wn ≤ wn by omega), hbw, rfl, nm_nil⟩ ?_
  rintro ⟨kv, kz⟩ hP6 ih7
  obtain ⟨hk__, hkb__, hkv__, hm__⟩ := hP6
  have hk_ : kz ≤ wn := hk__
  have hkb_ : bs ≤ kz := hkb__
  have hkv_ : kv = nI kz - 1 := hkv__
  have hm_ : NMk g52 kz wn := hm__
  refine j_ws (ws' := [MB mo ma (nI t1) (nI t2) (nI t3) i4 i5 i6 i7 i8 i42 i49 i51 (nI wn) i54 (nI bs) i61 i64 i66 (nI t67) i76 i78, (ma 52, .inl (y 0, 1700, .inl g52))]) rfl ?_
  refine j_lv (lv' := [(1, .int kv), (0, .ref mo)]) rfl ?_
  refine j_iload_n (pc := 7) C d_Model_mark_7 rfl 0 rfl ?_
  refine j_aload_n (pc := 8) C d_Model_mark_8 rfl 1 rfl ?_
  refine j_get (pc := 9) C gf_Model_298 0 rfl rfl d_Model_mark_9 ?_
  by_cases c8 : kz ≤ bs
  · refine j_icmp_ltT (pc := 12) C (tgt := 34) d_Model_mark_12 (by decide) (by rw [hkv_]; exact dn_b (by omega) (by omega)) ?_
    refine j_iload_n (pc := 34) C d_Model_mark_34 rfl 0 rfl ?_
    refine j_aload_n (pc := 35) C d_Model_mark_35 rfl 1 rfl ?_
    refine j_get (pc := 36) C gf_Model_298 0 rfl rfl d_Model_mark_36 ?_
    refine j_icmp_ltT (pc := 39) C (tgt := 51) d_Model_mark_39 (by decide) (by rw [hkv_]; exact dn_b (by omega) (by omega)) ?_
    refine j_iconst (pc := 51) C (v := (-1)) d_Model_mark_51 (by decide) ?_
    exact j_iret (pc := 52) C hr rfl () (Or.inl ⟨rfl, show NMk g52 bs wn by rw [show bs = kz by omega]; exact hm_⟩) [0, 1] rfl (by decide) (by decide) (by decide) d_Model_mark_52
  · refine j_icmp_ltF (pc := 12) C (tgt := 34) d_Model_mark_12 (by decide) (by rw [hkv_]; exact dn_nb (by omega) (by omega)) ?_
    refine j_lv (lv' := [(1, .int (nI (kz - 1))), (0, .ref mo)]) (by rw [hkv_, nI_s1 (by omega)]) ?_
    refine j_aload_n (pc := 15) C d_Model_mark_15 rfl 1 rfl ?_
    refine j_aload_n (pc := 16) C d_Model_mark_16 rfl 1 rfl ?_
    refine j_get (pc := 17) C gf_Model_139 0 rfl rfl d_Model_mark_17 ?_
    refine j_iload_n (pc := 20) C d_Model_mark_20 rfl 0 rfl ?_
    refine j_iald (pc := 21) C 1 rfl (v := g52 (kz - 1)) (vp_in_nI (by omega) (by decide)) (by rw [nI_clamp (by omega)]) d_Model_mark_21 ?_
    refine j_callVi (pc := 22) C (c_M_isMark l D y mo ma t1 t2 t3 i4 i5 i6 i7 i8 i42 i49 i51 (nI wn) i54 (nI bs) i61 i64 i66 t67 i76 i78 (g52 (kz - 1))) kw_Model_347 kv_Model_isMark 0 10 rfl rfl ⟨by decide, by decide⟩ ⟨by decide, by decide⟩ (wr := [(ma 52, .inl (y 0, 1700, .inl g52))]) [0] [1] rfl rfl (by decide) (by decide) (by decide) (As := [.int (g52 (kz - 1))]) (rest := []) rfl (nb rfl) rfl d_Model_mark_22 (fun r9 _ hr9 => ?_)
    refine j_ws (ws' := [(ma 52, .inl (y 0, 1700, .inl g52)), MB mo ma (nI t1) (nI t2) (nI t3) i4 i5 i6 i7 i8 i42 i49 i51 (nI wn) i54 (nI bs) i61 i64 i66 (nI t67) i76 i78]) rfl ?_
    rcases hr9 with ⟨rfl, xh11⟩ | ⟨rfl, xh12⟩
    · refine j_if_neF (pc := 25) C (tgt := 34) d_Model_mark_25 (by decide) (by decide) ?_
      refine j_iinc (pc := 28) C (v := (nI (kz - 1)) + (-1)) (lv' := [(1, .int ((nI (kz - 1)) + (-1))), (0, .ref mo)]) d_Model_mark_28 0 rfl rfl (by decide) rfl ?_
      refine j_goto (pc := 31) C (tgt := 7) d_Model_mark_31 (by decide) ?_
      refine j_sub (ws' := [MB mo ma (nI t1) (nI t2) (nI t3) i4 i5 i6 i7 i8 i42 i49 i51 (nI wn) i54 (nI bs) i61 i64 i66 (nI t67) i76 i78, (ma 52, .inl (y 0, 1700, .inl g52))]) [1, 0] rfl (by decide) ?_
      exact ih7 ((nI (kz - 1)) + (-1), kz - 1) ⟨(show (kz - 1) ≤ wn by omega), (show bs ≤ (kz - 1) by omega), (show ((nI (kz - 1)) + (-1)) = nI (kz - 1) - 1 from m1s _), (nm_dn hm_ (by omega) xh11)⟩ (show (kz - 1) < kz by omega)
    · refine j_if_neT (pc := 25) C (tgt := 34) d_Model_mark_25 (by decide) (by decide) ?_
      refine j_iload_n (pc := 34) C d_Model_mark_34 rfl 0 rfl ?_
      refine j_aload_n (pc := 35) C d_Model_mark_35 rfl 1 rfl ?_
      refine j_get (pc := 36) C gf_Model_298 1 rfl rfl d_Model_mark_36 ?_
      refine j_icmp_ltF (pc := 39) C (tgt := 51) d_Model_mark_39 (by decide) (nI_nlt (by omega) (by omega)) ?_
      refine j_aload_n (pc := 42) C d_Model_mark_42 rfl 1 rfl ?_
      refine j_get (pc := 43) C gf_Model_139 1 rfl rfl d_Model_mark_43 ?_
      refine j_iload_n (pc := 46) C d_Model_mark_46 rfl 0 rfl ?_
      refine j_iald (pc := 47) C 0 rfl (v := g52 (kz - 1)) (vp_in_nI (by omega) (by decide)) (by rw [nI_clamp (by omega)]) d_Model_mark_47 ?_
      refine j_goto (pc := 48) C (tgt := 52) d_Model_mark_48 (by decide) ?_
      exact j_iret (pc := 52) C hr rfl () (Or.inr ⟨kz - 1, by omega, by omega, xh12, rfl, fun j h1 h2 => hm_ j (by omega) h2⟩) [1, 0] rfl (by decide) (by decide) (by decide) d_Model_mark_52
