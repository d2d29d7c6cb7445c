abbrev TIt (v : Int32) : Prop := v = 14 ∨ v = 15 ∨ v = 16 ∨ v = 25
abbrev SIt (v : Int32) : Prop := v = 1 ∨ v = 2 ∨ v = 3 ∨ v = 4 ∨ v = 20 ∨ v = 21 ∨ v = 22 ∨ v = 23 ∨ v = 24
abbrev MK (v : Int32) : Prop := 20 ≤ v ∧ v ≤ 24
def ib (v : Int32) : Nat := if v = 16 ∨ v = 20 ∨ v = 21 ∨ v = 22 ∨ v = 25 then 0 else 1
/-- how many of those that wait will join two into one -/
def cw (w : Nat → Int32) : Nat → Nat
  | 0 => 0
  | n + 1 => cw w n + ib (w n)
theorem cw_up {w : Nat → Int32} {v : Int32} {k : Nat} : ∀ {n}, n ≤ k → cw (upd w k v) n = cw w n := by
  intro n
  induction n with
  | zero => intro _; rfl
  | succ n ih =>
    intro h
    unfold cw
    rw [ih (by omega), pk_un (by omega)]
def ITm (w : Nat → Int32) (n : Nat) : Prop := ∀ k, k < n → TIt (w k)
def ISm (w : Nat → Int32) (b n : Nat) : Prop := ∀ k, b ≤ k → k < n → SIt (w k)
def NMk (w : Nat → Int32) (b n : Nat) : Prop := ∀ k, b ≤ k → k < n → ¬ MK (w k)
theorem it_up {w : Nat → Int32} {b k : Nat} {v : Int32} (h : ITm w b) (hk : b ≤ k) : ITm (upd w k v) b := by
  intro j hj
  rw [pk_un (by omega)]
  exact h j hj
theorem is_up {w : Nat → Int32} {b n : Nat} {v : Int32} (h : ISm w b n) (hv : SIt v) : ISm (upd w n v) b (n + 1) := by
  intro j h1 h2
  by_cases e : j = n
  · subst e
    rw [pk_us]
    exact hv
  · rw [pk_un e]
    exact h j h1 (by omega)
theorem is_le {w : Nat → Int32} {b n m : Nat} (h : ISm w b n) (hm : m ≤ n) : ISm w b m := fun j h1 h2 => h j h1 (by omega)
theorem is_at {w : Nat → Int32} {b n k : Nat} {v : Int32} (h : ISm w b n) (hv : SIt v) : ISm (upd w k v) b n := by
  intro j h1 h2
  by_cases e : j = k
  · subst e
    rw [pk_us]
    exact hv
  · rw [pk_un e]
    exact h j h1 h2
theorem is_nil {w : Nat → Int32} {b : Nat} : ISm w b b := fun j h1 h2 => absurd h1 (by omega)
theorem it_le {w : Nat → Int32} {n m : Nat} (h : ITm w n) (hm : m ≤ n) : ITm w m := fun j h1 => h j (by omega)
theorem it_push {w : Nat → Int32} {n : Nat} {v : Int32} (h : ITm w n) (hv : TIt v) : ITm (upd w n v) (n + 1) := by
  intro j h2
  by_cases e : j = n
  · subst e
    rw [pk_us]
    exact hv
  · rw [pk_un e]
    exact h j (by omega)
theorem dp_up {f : Nat → Int32} {v : Int32} {s k : Nat} : ∀ {n}, s + n ≤ k → dp (upd f k v) s n = dp f s n := by
  intro n
  induction n with
  | zero => intro _; rfl
  | succ n ih =>
    intro h
    unfold dp
    rw [ih (by omega), pk_un (by omega)]
theorem dp_snoc {f : Nat → Int32} {v : Int32} {s n t t' : Nat} (h : dp f s n = some t) (hs : stepC v t = some t') : dp (upd f (s + n) v) s (n + 1) = some t' := by
  unfold dp
  rw [dp_up (Nat.le_refl _), h, pk_us]
  exact hs
/-- how the codes of a sum or a test stand while it is read: x more lie on the pile than will be joined by what waits -/
def RS (kq s0 : Nat) (f0 : Nat → Int32) (x : Nat) (b : Int32) (f w : Nat → Int32) (cd wn a : Nat) : Prop := (∀ i, (i < s0 ∨ 1600 ≤ i) → f i = f0 i) ∧ s0 ≤ cd ∧ cd + wn + kq ≤ a ∧ (b = 0 → cd + wn + kq + 1 ≤ a ∧ dp f s0 (cd - s0) = some (cw w wn + x))
section RSL
variable {kq k2 s0 x x' : Nat} {f0 f w w' : Nat → Int32} {b b' v : Int32} {cd wn wn' a a' n : Nat}
theorem rs_acc (h : RS kq s0 f0 x b f w cd wn a) : s0 ≤ cd ∧ cd + wn + kq ≤ a := ⟨h.2.1, h.2.2.1⟩
theorem rs_ac3 (h : RS kq s0 f0 x 0 f w cd wn a) : s0 ≤ cd ∧ cd + wn + kq + 1 ≤ a := ⟨h.2.1, (h.2.2.2 rfl).1⟩
theorem rs_at (h : RS kq s0 f0 x b f w cd wn a) (ha : a ≤ a') : RS kq s0 f0 x b f w cd wn a' := ⟨h.1, h.2.1, by have := h.2.2.1; omega, fun e => ⟨by have := (h.2.2.2 e).1; omega, (h.2.2.2 e).2⟩⟩
theorem rs_mono (h : RS kq s0 f0 x b f w cd wn a) (hm : b' = 0 → b = 0) : RS kq s0 f0 x b' f w cd wn a := ⟨h.1, h.2.1, h.2.2.1, fun e => h.2.2.2 (hm e)⟩
theorem rs_bad (h : RS kq s0 f0 x b f w cd wn a) (hb : ¬ b' = 0) : RS kq s0 f0 x' b' f w' cd wn a := ⟨h.1, h.2.1, h.2.2.1, fun e => absurd e hb⟩
theorem rs_code (h : RS kq s0 f0 x 0 f w cd wn a) (hc : cd < 1600) (hn : cd + 1 + wn' + k2 ≤ a') (hs : b' = 0 → cd + 1 + wn' + k2 + 1 ≤ a' ∧ stepC v (cw w wn + x) = some (cw w' wn' + x')) : RS k2 s0 f0 x' b' (upd f cd v) w' (cd + 1) wn' a' := by
  obtain ⟨h1, h2, h3, h4⟩ := h
  obtain ⟨h5, h6⟩ := h4 rfl
  refine ⟨fun i hi => ?_, by omega, hn, fun e => ⟨(hs e).1, ?_⟩⟩
  · rw [pk_un (by omega)]
    exact h1 i hi
  · have := dp_snoc h6 (hs e).2
    rw [show s0 + (cd - s0) = cd by omega, show cd - s0 + 1 = cd + 1 - s0 by omega] at this
    exact this
theorem step_leaf {n : Nat} (h : 1000 ≤ v ∨ v = 17 ∨ v = 7 ∨ v = 8 ∨ v = 9) : stepC v n = some (n + 1) := by
  unfold stepC
  rcases h with h | h | h | h | h
  · rw [if_pos h]
  all_goals (subst h; rfl)
theorem step_bin {n : Nat} (h : v = 1 ∨ v = 2 ∨ v = 3 ∨ v = 4 ∨ v = 5 ∨ v = 6 ∨ v = 11 ∨ v = 12 ∨ v = 13 ∨ v = 14 ∨ v = 15) (hn : 2 ≤ n) : stepC v n = some (n - 1) := by
  unfold stepC
  rcases h with h | h | h | h | h | h | h | h | h | h | h <;> (subst h; rw [if_neg (by decide), if_neg (by decide), if_neg (by decide), if_neg (by decide), if_pos hn])
theorem step_not {n : Nat} (hn : 1 ≤ n) : stepC 16 n = some n := by
  unfold stepC
  rw [if_neg (by decide), if_neg (by decide), if_pos rfl, if_pos hn]
theorem rs_leaf (h : RS kq s0 f0 x 0 f w cd wn a) (hc : cd < 1600) (ha : a ≤ a') (hl : b' = 0 → a < a' ∧ (1000 ≤ v ∨ v = 17 ∨ v = 7 ∨ v = 8 ∨ v = 9)) : RS kq s0 f0 (x + 1) b' (upd f cd v) w (cd + 1) wn a' := by
  have h3 := rs_ac3 h
  refine rs_code h hc (by omega) (fun e => ⟨by have := (hl e).1; omega, ?_⟩)
  rw [step_leaf (hl e).2]
  rfl
theorem rs_drop (h : RS kq s0 f0 (x + 1) 0 f w cd wn a) (hc : cd < 1600) (hw : wn = n + 1) (hv : (w n = 1 ∨ w n = 2 ∨ w n = 3 ∨ w n = 4) ∨ (w n = 14 ∨ w n = 15 ∨ w n = 16)) : RS kq s0 f0 (x + 1) 0 (upd f cd (w n)) w (cd + 1) n a := by
  have h3 := rs_ac3 h
  subst hw
  refine rs_code h hc (by omega) (fun _ => ⟨by omega, ?_⟩)
  show stepC (w n) (cw w n + ib (w n) + (x + 1)) = _
  rcases hv with (e | e | e | e) | (e | e | e) <;> rw [e]
  · rw [step_bin (by decide) (by show 2 ≤ cw w n + 1 + (x + 1); omega)]; congr 1; show cw w n + 1 + (x + 1) - 1 = cw w n + (x + 1); omega
  · rw [step_bin (by decide) (by show 2 ≤ cw w n + 1 + (x + 1); omega)]; congr 1; show cw w n + 1 + (x + 1) - 1 = cw w n + (x + 1); omega
  · rw [step_bin (by decide) (by show 2 ≤ cw w n + 1 + (x + 1); omega)]; congr 1; show cw w n + 1 + (x + 1) - 1 = cw w n + (x + 1); omega
  · rw [step_bin (by decide) (by show 2 ≤ cw w n + 1 + (x + 1); omega)]; congr 1; show cw w n + 1 + (x + 1) - 1 = cw w n + (x + 1); omega
  · rw [step_bin (by decide) (by show 2 ≤ cw w n + 1 + (x + 1); omega)]; congr 1; show cw w n + 1 + (x + 1) - 1 = cw w n + (x + 1); omega
  · rw [step_bin (by decide) (by show 2 ≤ cw w n + 1 + (x + 1); omega)]; congr 1; show cw w n + 1 + (x + 1) - 1 = cw w n + (x + 1); omega
  · rw [step_not (by show 1 ≤ cw w n + 0 + (x + 1); omega)]; congr 1
theorem rs_shut (h : RS kq s0 f0 (x + 1) 0 f w cd wn a) (hc : cd < 1600) (hw : wn = n + 1) (hi : w n = 23 ∨ w n = 24) (hv : v = 5 ∨ v = 6) : RS kq s0 f0 (x + 1) 0 (upd f cd v) w (cd + 1) n a := by
  have h3 := rs_ac3 h
  subst hw
  refine rs_code h hc (by omega) (fun _ => ⟨by omega, ?_⟩)
  show stepC v (cw w n + ib (w n) + (x + 1)) = _
  have e : ib (w n) = 1 := by rcases hi with e | e <;> rw [e] <;> decide
  rw [e, step_bin (by rcases hv with e | e <;> rw [e] <;> decide) (by omega)]
  congr 1
  omega
theorem rs_pop (h : RS kq s0 f0 x 0 f w cd wn a) (hw : wn = n + 1) (hi : ib (w n) = 0) : RS kq s0 f0 x 0 f w cd n a := by
  subst hw
  obtain ⟨h1, h2, h3, h4⟩ := h
  obtain ⟨h5, h6⟩ := h4 rfl
  refine ⟨h1, h2, by omega, fun _ => ⟨by omega, ?_⟩⟩
  rw [h6]
  show some (cw w n + ib (w n) + x) = _
  rw [hi]
  rfl
theorem rs_push (h : RS kq s0 f0 x b f w cd wn a) (hv : ib v = 0) : RS kq s0 f0 x b f (upd w wn v) cd (wn + 1) (a + 1) := by
  obtain ⟨h1, h2, h3, h4⟩ := h
  refine ⟨h1, h2, by omega, fun e => ⟨by have := (h4 e).1; omega, ?_⟩⟩
  rw [(h4 e).2]
  show _ = some (cw (upd w wn v) wn + ib (upd w wn v wn) + x)
  rw [cw_up (Nat.le_refl _), pk_us, hv]
  rfl
theorem rs_op (h : RS kq s0 f0 (x + 1) 0 f w cd wn a) (hv : ib v = 1) (ha : a < a') : RS kq s0 f0 x 0 f (upd w wn v) cd (wn + 1) a' := by
  obtain ⟨h1, h2, h3, h4⟩ := h
  obtain ⟨h5, h6⟩ := h4 rfl
  refine ⟨h1, h2, by omega, fun _ => ⟨by omega, ?_⟩⟩
  rw [h6]
  show _ = some (cw (upd w wn v) wn + ib (upd w wn v wn) + x)
  rw [cw_up (Nat.le_refl _), pk_us, hv]
  congr 1
  omega
theorem rs_next (h : RS kq s0 f0 (x + 1) 0 f w cd wn a) (hw : wn = n + 1) (hi : ib (w n) = 0) (hv : ib v = 1) : RS kq s0 f0 x 0 f (upd w n v) cd wn a := by
  subst hw
  obtain ⟨h1, h2, h3, h4⟩ := h
  obtain ⟨h5, h6⟩ := h4 rfl
  refine ⟨h1, h2, h3, fun _ => ⟨h5, ?_⟩⟩
  rw [h6]
  show some (cw w n + ib (w n) + (x + 1)) = some (cw (upd w n v) n + ib (upd w n v n) + x)
  rw [cw_up (Nat.le_refl _), pk_us, hi, hv]
  congr 1
  omega
theorem rs_z (h : RS kq s0 f0 x b f w cd wn a) (e : b = 0) : RS kq s0 f0 x 0 f w cd wn a := e ▸ h
theorem rs_kup (h : RS kq s0 f0 x b f w cd wn a) (ha : a + 1 ≤ a') : RS (kq + 1) s0 f0 x b f w cd wn a' := ⟨h.1, h.2.1, by have := h.2.2.1; omega, fun e => ⟨by have := (h.2.2.2 e).1; omega, (h.2.2.2 e).2⟩⟩
/-- two of a pile are held against each other -/
theorem rs_held (h : RS (kq + 1) s0 f0 (x + 1 + 1) b f w cd wn a) (hc : cd < 1600) (hv : v = 11 ∨ v = 12 ∨ v = 13) : RS kq s0 f0 (x + 1) b (upd f cd v) w (cd + 1) wn a := by
  obtain ⟨h1, h2, h3, h4⟩ := h
  refine ⟨fun i hi => ?_, by omega, by omega, fun e => ⟨by have := (h4 e).1; omega, ?_⟩⟩
  · rw [pk_un (by omega)]
    exact h1 i hi
  · have h6 := (h4 e).2
    have := dp_snoc h6 (step_bin (v := v) (by rcases hv with e | e | e <;> rw [e] <;> decide) (by omega))
    rw [show s0 + (cd - s0) = cd by omega, show cd - s0 + 1 = cd + 1 - s0 by omega] at this
    rw [this]
    congr 1 <;> omega
end RSL
theorem si_nm {v : Int32} (h : SIt v) (hm : ¬ MK v) : v = 1 ∨ v = 2 ∨ v = 3 ∨ v = 4 := by
  rcases h with e | e | e | e | e | e | e | e | e
  · exact Or.inl e
  · exact Or.inr (Or.inl e)
  · exact Or.inr (Or.inr (Or.inl e))
  · exact Or.inr (Or.inr (Or.inr e))
  all_goals (subst e; exact absurd (by decide) hm)
theorem nm_dn {w : Nat → Int32} {k n : Nat} (h : NMk w k n) (hk : 1 ≤ k) (hm : ¬ MK (w (k - 1))) : NMk w (k - 1) n := by
  intro j h1 h2
  by_cases e : j = k - 1
  · rw [e]
    exact hm
  · exact h j (by omega) h2
theorem nm_nil {w : Nat → Int32} {n : Nat} : NMk w n n := fun j h1 h2 => absurd h1 (by omega)
theorem dn_b {k b : Nat} (h : k ≤ b) (hb : b ≤ 2000) : nI k - 1 < nI b := by
  rcases Nat.eq_zero_or_pos k with q | q
  · subst q
    exact m1_lt (by omega)
  · rw [show nI k - 1 = nI (k - 1) from nI_s1 q]
    exact nI_lt (by omega) (by omega)
theorem dn_nb {k b : Nat} (h : ¬ k ≤ b) (hb : k ≤ 2000) : ¬ nI k - 1 < nI b := by
  rw [show nI k - 1 = nI (k - 1) from nI_s1 (by omega)]
  exact nI_nlt (by omega) (by omega)
def bz1 (b : Int32) : Nat := if b = 0 then 1 else 0
theorem bz_1 : bz1 0 = 1 := rfl
theorem bz_0 {b : Int32} (h : ¬ b = 0) : bz1 b = 0 := if_neg h
theorem bz_e {b : Int32} (h : b = 0) : bz1 b = 1 := if_pos h
theorem bz_le (b : Int32) : bz1 b ≤ 1 := by
  unfold bz1
  split <;> omega
/-! what waits, as a pile; codes, as a row -/
def WB : List Nat → (Nat → Int32) → Nat → Nat → Prop
  | [], _, b, n => n = b
  | v :: S, w, b, n => b < n ∧ w (n - 1) = nI v ∧ v < 30 ∧ WB S w b (n - 1)
def CD (cs : List Nat) (f : Nat → Int32) (c : Nat) : Prop := c = cs.length ∧ ∀ j, j < cs.length → f j = nI (cs.getD j 0) ∧ cs.getD j 0 < 20000
def mkI (S : List Nat) : Int32 := if mkf S = 0 then -1 else nI (mkf S)
theorem wb_len {S : List Nat} {w : Nat → Int32} {b n : Nat} (h : WB S w b n) : n = b + S.length := by
  induction S generalizing n with
  | nil => exact h
  | cons v S ih =>
    have := ih h.2.2.2
    have := h.1
    rw [List.length_cons]
    omega
theorem wb_le {S : List Nat} {w : Nat → Int32} {b n : Nat} (h : WB S w b n) : b ≤ n := by
  have := wb_len h
  omega
theorem wb_up {S : List Nat} {w : Nat → Int32} {b n k : Nat} {x : Int32} (h : WB S w b n) (hk : n ≤ k) : WB S (upd w k x) b n := by
  induction S generalizing n with
  | nil => exact h
  | cons v S ih =>
    obtain ⟨h1, h2, h3, h4⟩ := h
    exact ⟨h1, by rw [pk_un (by omega)]; exact h2, h3, ih h4 (by omega)⟩
theorem wb_push {S : List Nat} {w : Nat → Int32} {b n v : Nat} (h : WB S w b n) (hv : v < 30) : WB (v :: S) (upd w n (nI v)) b (n + 1) := by
  have := wb_le h
  refine ⟨by omega, ?_, hv, ?_⟩
  · rw [Nat.add_sub_cancel, pk_us]
  · rw [Nat.add_sub_cancel]
    exact wb_up h (Nat.le_refl _)
theorem wb_top {S : List Nat} {w : Nat → Int32} {b n : Nat} (h : WB S w b n) (hn : b < n) : ∃ v S', S = v :: S' ∧ w (n - 1) = nI v ∧ v < 30 ∧ WB S' w b (n - 1) := by
  cases S with
  | nil =>
    have : n = b := h
    omega
  | cons v S => exact ⟨v, S, rfl, h.2.1, h.2.2.1, h.2.2.2⟩
theorem wb_nil {S : List Nat} {w : Nat → Int32} {b n : Nat} (h : WB S w b n) (hn : n = b) : S = [] := by
  cases S with
  | nil => rfl
  | cons v S =>
    have := h.1
    omega
theorem wb_pop {S : List Nat} {v : Nat} {w : Nat → Int32} {b n : Nat} (h : WB (v :: S) w b n) : WB S w b (n - 1) := h.2.2.2
theorem wb_next {S : List Nat} {m v : Nat} {w : Nat → Int32} {b n : Nat} (h : WB (m :: S) w b n) (hv : v < 30) : WB (v :: S) (upd w (n - 1) (nI v)) b n := by
  obtain ⟨h1, h2, h3, h4⟩ := h
  exact ⟨h1, pk_us, hv, wb_up h4 (Nat.le_refl _)⟩
theorem cd_put {cs : List Nat} {f : Nat → Int32} {c v : Nat} {x : Int32} (h : CD cs f c) (hc : c < 1600) (hx : x = nI v) (hv : v < 20000) : CD (putS v cs) (upd f c x) (c + 1) := by
  obtain ⟨h1, h2⟩ := h
  subst h1
  unfold putS
  rw [if_pos hc]
  refine ⟨by rw [List.length_append, List.length_singleton], fun j hj => ?_⟩
  rw [List.length_append, List.length_singleton] at hj
  by_cases e : j = cs.length
  · rw [e, pk_us, hx, List.getD_eq_getElem?_getD, List.getElem?_append_right (Nat.le_refl _), Nat.sub_self]
    exact ⟨rfl, hv⟩
  · rw [pk_un e, List.getD_eq_getElem?_getD, List.getElem?_append_left (by omega), ← List.getD_eq_getElem?_getD]
    exact h2 j (by omega)
theorem mk_iff {v : Nat} (hv : v < 30) : MK (nI v) ↔ mkB v = true := by
  have h : ∀ v, v < 30 → (MK (nI v) ↔ mkB v = true) := by decide
  exact h v hv
theorem mkf_y {v : Nat} {S : List Nat} (h : mkB v = true) : mkf (v :: S) = v := if_pos h
theorem mkf_n {v : Nat} {S : List Nat} (h : ¬ mkB v = true) : mkf (v :: S) = mkf S := if_neg h
theorem mkf_le {S : List Nat} : mkf S ≤ 24 ∧ (mkf S = 0 ∨ 20 ≤ mkf S) := by
  induction S with
  | nil => exact ⟨Nat.zero_le _, Or.inl rfl⟩
  | cons v S ih =>
    unfold mkf
    split
    · rename_i h
      have := of_decide_eq_true h
      omega
    · exact ih
theorem mkI_0 {S : List Nat} (h : mkf S = 0) : mkI S = -1 := if_pos h
theorem mkI_y {S : List Nat} {v : Nat} (h : mkf S = v) (h2 : mkB v = true) : mkI S = nI v := by
  have := of_decide_eq_true h2
  unfold mkI
  rw [h, if_neg (by omega)]
theorem mkI_iff {S : List Nat} {c : Nat} (hc : 20 ≤ c) (hc2 : c ≤ 24) : mkI S = nI c ↔ mkf S = c := by
  have := mkf_le (S := S)
  unfold mkI
  split
  · rename_i h
    constructor
    · intro e
      exact absurd e.symm (nI_nm1 (by omega))
    · intro e
      omega
  · exact nI_eq (by omega) (by omega)
theorem mkI_m1 {S : List Nat} : mkI S = -1 ↔ mkf S = 0 := by
  have := mkf_le (S := S)
  unfold mkI
  split
  · rename_i h
    exact ⟨fun _ => h, fun _ => rfl⟩
  · rename_i h
    exact ⟨fun e => absurd e (nI_nm1 (by omega)), fun e => absurd e h⟩
theorem nmk_iff {v : Nat} : nMk v = true ↔ ¬ mkB v = true := by
  unfold nMk mkB
  rw [decide_eq_true_iff, decide_eq_true_iff]
  omega
theorem drp_go {p : Nat → Bool} {v : Nat} {S cs : List Nat} (h : p v = true) : drp p (v :: S) cs = drp p S (putS v cs) := if_pos h
theorem drp_hd {p : Nat → Bool} {v : Nat} {S cs : List Nat} (h : ¬ p v = true) : drp p (v :: S) cs = (v :: S, cs) := if_neg h
/-- a pile dropped down to its mark -/
theorem drp_m {S cs : List Nat} (h : ¬ mkf S = 0) : ∃ C, (drp nMk S cs).1 = mkf S :: C := by
  induction S generalizing cs with
  | nil => exact absurd rfl h
  | cons v S ih =>
    by_cases c : mkB v = true
    · rw [drp_hd (fun e => nmk_iff.mp e c), mkf_y c]
      exact ⟨S, rfl⟩
    · rw [mkf_n c] at h ⊢
      rw [drp_go (nmk_iff.mpr c)]
      exact ih h
/-- what doesn't lie on top -/
theorem on_no {S : List Nat} {w : Nat → Int32} {b n c : Nat} (h : WB S w b n) (hn : n = 0 ∨ ¬ w (n - 1) = nI c) : ∀ v, S.head? = some v → ¬ v = c := by
  intro v hv e
  cases S with
  | nil => cases hv
  | cons u S =>
    have hu : u = v := Option.some.inj hv
    obtain ⟨h1, h2, _, _⟩ := h
    rcases hn with q | q
    · omega
    · exact q (by rw [h2, hu, e])
theorem on_yes {v : Nat} {x : Int32} {c : Nat} (h : x = nI v) (hv : v < 30) (hc : c < 30) (e : x = nI c) : v = c := (nI_eq (by omega) (by omega)).mp (h.symm.trans e)
theorem drp_no {p : Nat → Bool} {S cs : List Nat} (h : ∀ v, S.head? = some v → ¬ p v = true) : drp p S cs = (S, cs) := drp_stop h cs
theorem mo_no {v : Nat} (h3 : ¬ v = 3) (h4 : ¬ v = 4) : ¬ isMo v = true := by
  unfold isMo
  rw [decide_eq_true_iff]
  omega
theorem ao_no {v : Nat} (h1 : ¬ v = 1) (h2 : ¬ v = 2) (h3 : ¬ v = 3) (h4 : ¬ v = 4) : ¬ isAo v = true := by
  unfold isAo
  rw [decide_eq_true_iff]
  omega
theorem n_no {v : Nat} (h : ¬ v = 14) : ¬ isN v = true := by
  unfold isN
  rw [decide_eq_true_iff]
  omega
theorem do_no {v : Nat} (h : ¬ v = 14) (h2 : ¬ v = 15) : ¬ isDO v = true := by
  unfold isDO
  rw [decide_eq_true_iff]
  omega
theorem sq_no {v : Nat} (h : v = 25) : ¬ nSq v = true := by
  unfold nSq
  rw [decide_eq_true_iff]
  omega
theorem wb_nm {S : List Nat} {w : Nat → Int32} {b n : Nat} (h : WB S w b n) (hm : mkf S = 0) : NMk w b n := by
  induction S generalizing n with
  | nil =>
    have e : n = b := h
    intro j h1 h2
    omega
  | cons v S ih =>
    obtain ⟨h1, h2, h3, h4⟩ := h
    have c : ¬ mkB v = true := fun c => by
      rw [mkf_y c] at hm
      have := of_decide_eq_true c
      omega
    rw [mkf_n c] at hm
    intro j hj hj2
    by_cases e : j = n - 1
    · rw [e, h2]
      exact fun q => c ((mk_iff h3).mp q)
    · exact ih h4 hm j hj (by omega)
theorem wb_cast {S S2 : List Nat} {w : Nat → Int32} {b n : Nat} (h : WB S w b n) (e : S = S2) : WB S2 w b n := e ▸ h
def opb (v : Nat) : Nat := if v = 16 ∨ (20 ≤ v ∧ v ≤ 25) then 1 else 0
/-- how many of a pile are open -/
def opn : List Nat → Nat
  | [] => 0
  | v :: S => opb v + opn S
theorem opn_drp {p : Nat → Bool} {S cs : List Nat} : opn (drp p S cs).1 ≤ opn S := by
  induction S generalizing cs with
  | nil => exact Nat.le_refl _
  | cons v S ih =>
    by_cases c : p v = true
    · rw [drp_go c]
      exact Nat.le_trans ih (Nat.le_add_left _ _)
    · rw [drp_hd c]
      exact Nat.le_refl _
theorem opb_1 {v : Nat} (h : v = 16 ∨ (20 ≤ v ∧ v ≤ 25)) : opb v = 1 := if_pos h
theorem opb_le (v : Nat) : opb v ≤ 1 := by
  unfold opb
  split <;> omega
theorem opn_hd {S : List Nat} {v o : Nat} (h : opn (v :: S) ≤ o) (hv : v = 16 ∨ (20 ≤ v ∧ v ≤ 25)) : 1 ≤ o ∧ opn S ≤ o - 1 := by
  have : opn (v :: S) = opb v + opn S := rfl
  rw [opb_1 hv] at this
  omega
theorem opn_tl {S : List Nat} {v o : Nat} (h : opn (v :: S) ≤ o) : opn S ≤ o := by
  have : opn (v :: S) = opb v + opn S := rfl
  omega
theorem opn_push {S : List Nat} {v o : Nat} (h : opn S ≤ o) : opn (v :: S) ≤ o + 1 := by
  have : opn (v :: S) = opb v + opn S := rfl
  have := opb_le v
  omega
theorem opn_op {S : List Nat} {v o : Nat} (h : opn S ≤ o) (hv : ¬ (v = 16 ∨ (20 ≤ v ∧ v ≤ 25))) : opn (v :: S) ≤ o := by
  have e : opn (v :: S) = opb v + opn S := rfl
  have e2 : opb v = 0 := if_neg hv
  omega
theorem opn_d2 {p : Nat → Bool} {S cs S2 c2 : List Nat} {o : Nat} (h : opn S ≤ o) (e : drp p S cs = (S2, c2)) : opn S2 ≤ o := by
  have := opn_drp (p := p) (S := S) (cs := cs)
  rw [e] at this
  exact Nat.le_trans this h
theorem opn_mk {S : List Nat} {cs S2 c2 : List Nat} {m o : Nat} (h : opn S ≤ o) (e : drp nMk S cs = (m :: S2, c2)) (hm : 20 ≤ m ∧ m ≤ 25) : 1 ≤ o ∧ opn S2 ≤ o - 1 := opn_hd (opn_d2 h e) (Or.inr hm)
theorem opn_nx {S : List Nat} {m o : Nat} (h : opn (m :: S) ≤ o) (hm : m = 21 ∨ m = 22) : opn ((m + 2) :: S) ≤ o := by
  rcases hm with rfl | rfl <;> exact h
section SM
variable {tx : Nat → Nat} {k : Nat} {x y : PS} {cs c' S' : List Nat} {o o' e : Nat}
/-- the last step of a sum's part: a number, as the pile reads it -/
theorem sP_el {S : List Nat} (h0 : x.1 = 0) (a : ¬ issS tx k 40 x = true) (b : ¬ iswS tx k 31 x = true) (c : ¬ iswS tx k 32 x = true) (d : ¬ iswS tx k 28 x = true) (f : ¬ iswS tx k 29 x = true) (g : ¬ iswS tx k 30 x = true) : stepP tx k x cs S o = (1, (rnS tx k 0 9999 x, putS (1000 + rnV tx k 0 9999 x) cs, S, o)) := by
  unfold stepP
  rw [if_neg (nn h0), if_neg a, if_neg (fun q => q.elim b c), if_neg d, if_neg f, if_neg g]
theorem sA_no2 {S : List Nat} (h0 : x.1 = 0) (a : ¬ (issS tx k 41 x = true ∧ (mkf S = 20 ∨ mkf S = 23 ∨ mkf S = 24))) (b : ¬ issS tx k 42 x = true) (c : ¬ issS tx k 47 x = true) (d : ¬ issS tx k 43 x = true) (f : ¬ issS tx k 45 x = true) (h : ¬ (mkf S = 21 ∨ mkf S = 22)) (hz : ¬ mkf S = 0) : stepA tx k x cs S o = (2, (failS 1 (stS tx k x) x, cs, S, o)) := by
  unfold stepA
  rw [if_neg (nn h0), if_neg a, if_neg (fun q => q.elim b c), if_neg (fun q => q.elim d f), if_neg h, if_neg hz]
theorem sA_en2 {S : List Nat} (h0 : x.1 = 0) (a : ¬ (issS tx k 41 x = true ∧ (mkf S = 20 ∨ mkf S = 23 ∨ mkf S = 24))) (b : ¬ issS tx k 42 x = true) (c : ¬ issS tx k 47 x = true) (d : ¬ issS tx k 43 x = true) (f : ¬ issS tx k 45 x = true) (hz : mkf S = 0) : stepA tx k x cs S o = (2, (x, cs, S, o)) := by
  unfold stepA
  rw [if_neg (nn h0), if_neg a, if_neg (fun q => q.elim b c), if_neg (fun q => q.elim d f), if_neg (by omega), if_pos hz]
theorem sA_cm {S : List Nat} (h0 : x.1 = 0) (b : ¬ issS tx k 42 x = true) (c : ¬ issS tx k 47 x = true) (d : ¬ issS tx k 43 x = true) (f : ¬ issS tx k 45 x = true) (h : mkf S = 21 ∨ mkf S = 22) : stepA tx k x cs S o = if issS tx k 44 x = true then (0, (advS tx k x, (drp nMk S cs).2, (mkf S + 2) :: (drp nMk S cs).1.tail, o)) else (2, (failS 1 (stS tx k x) x, cs, S, o)) := by
  unfold stepA
  rw [if_neg (nn h0), if_neg (fun q => by have := q.2; omega), if_neg (fun q => q.elim b c), if_neg (fun q => q.elim d f), if_pos h]
theorem ao_mk0 {P : List Nat} (h : ∀ v ∈ P, isAo v = true) : mkf P = 0 := by
  have := mkf_app h []
  rw [List.append_nil] at this
  exact this
theorem sm_alive (hk : k ≤ 1600) (ho : o + e = 6) (hx : x.1 = 0) (hp : x.2.2.1 ≤ k) (h : Rch tx k (0, (x, cs, [], o)) (2, (y, c', S', o'))) (hy : y.1 = 0) : (sumE tx k e (x, cs)).1 = y ∧ (sumE tx k e (x, cs)).2 = emt S' c' ∧ o' = o := by
  obtain ⟨a, b⟩ := sumE_ok hk e o ho x cs [] hx hp (fun v hv => by cases hv)
  by_cases z : (sumE tx k e (x, cs)).1.1 = 0
  · obtain ⟨cs2, P, R, hP, hc, o1, o2, _, _⟩ := a z
    rw [List.append_nil] at R
    have E := Rch.un h (R.tr (Rch.st ((stA _ _ _ _).trans (sA_en z o1 o2 (ao_mk0 hP))) (Rch.rf _))) rfl rfl
    have e1 : y = (sumE tx k e (x, cs)).1 := congrArg (fun q => q.2.1) E
    have e2 : c' = cs2 := congrArg (fun q => q.2.2.1) E
    have e3 : S' = P := congrArg (fun q => q.2.2.2.1) E
    have e4 : o' = o := congrArg (fun q => q.2.2.2.2) E
    exact ⟨e1.symm, by rw [hc, e2, e3], e4⟩
  · obtain ⟨cs2, S2, o2, R⟩ := b z
    have E := Rch.un h R rfl rfl
    have e1 : y = (sumE tx k e (x, cs)).1 := congrArg (fun q => q.2.1) E
    rw [e1] at hy
    exact absurd hy z
theorem sm_dead (hk : k ≤ 1600) (ho : o + e = 6) (hx : x.1 = 0) (hp : x.2.2.1 ≤ k) (h : ∃ c' S' o', Rch tx k (0, (x, cs, [], o)) (2, (y, c', S', o'))) (hy : ¬ y.1 = 0) : (sumE tx k e (x, cs)).1 = y := by
  obtain ⟨c', S', o', h⟩ := h
  obtain ⟨a, b⟩ := sumE_ok hk e o ho x cs [] hx hp (fun v hv => by cases hv)
  by_cases z : (sumE tx k e (x, cs)).1.1 = 0
  · obtain ⟨cs2, P, R, hP, hc, o1, o2, _, _⟩ := a z
    rw [List.append_nil] at R
    have E := Rch.un h (R.tr (Rch.st ((stA _ _ _ _).trans (sA_en z o1 o2 (ao_mk0 hP))) (Rch.rf _))) rfl rfl
    have e1 : y = (sumE tx k e (x, cs)).1 := congrArg (fun q => q.2.1) E
    rw [e1] at hy
    exact absurd z hy
  · obtain ⟨cs2, S2, o2, R⟩ := b z
    exact (congrArg (fun q : Nat × MX => q.2.1) (Rch.un h R rfl rfl)).symm
theorem rr_le {a : Nat} {en bd bp : Int32} (h : RR tx k x a en bd bp) (h0 : x.1 = 0) : x.2.2.1 ≤ k := by
  have := (rr_al h h0).2.1
  have := h.2.2.1
  omega
/-- tests, as their pile reads them -/
theorem sG_en2 {W : List Nat} (h0 : x.1 = 0) (b : ¬ iswS tx k 25 x = true) (c : ¬ iswS tx k 24 x = true) (h : ¬ 25 ∈ W) : stepG tx k x cs W o = (2, (x, cs, W, o)) := by
  unfold stepG
  rw [if_neg (nn h0), if_neg (fun q => h q.2), if_neg b, if_neg c, if_neg h]
theorem sG_no2 {W : List Nat} (h0 : x.1 = 0) (a : ¬ issS tx k 93 x = true) (b : ¬ iswS tx k 25 x = true) (c : ¬ iswS tx k 24 x = true) (h : 25 ∈ W) : stepG tx k x cs W o = (2, (failS 1 (stS tx k x) x, cs, W, o)) := by
  unfold stepG
  rw [if_neg (nn h0), if_neg (fun q => a q.1), if_neg b, if_neg c, if_pos h]
theorem sG_93 {W : List Nat} (h0 : x.1 = 0) (a : issS tx k 93 x = true) (h : 25 ∈ W) : stepG tx k x cs W o = (1, (advS tx k x, (dnN (drp nSq W cs).1.tail (drp nSq W cs).2 (o - 1)).2.1, (dnN (drp nSq W cs).1.tail (drp nSq W cs).2 (o - 1)).1, (dnN (drp nSq W cs).1.tail (drp nSq W cs).2 (o - 1)).2.2)) := by
  unfold stepG
  rw [if_neg (nn h0), if_pos ⟨a, h⟩]
theorem sT_91 {W : List Nat} (n : issS tx k 91 x = true) : stepT tx k x cs W o = if o = 6 then (2, (failS 4 (stS tx k x) x, cs, W, o)) else (0, (advS tx k x, cs, 25 :: W, o + 1)) := by
  unfold stepT
  rw [if_neg (nn (iss_al n)), if_pos n]
theorem sT_26 {W : List Nat} (n : iswS tx k 26 x = true) : stepT tx k x cs W o = if o = 6 then (2, (failS 4 (stS tx k x) x, cs, W, o)) else (0, (advS tx k x, cs, 16 :: W, o + 1)) := by
  unfold stepT
  rw [if_neg (nn (isw_al n)), if_neg (fun g => iss_w g n), if_pos n]
theorem sT_el {W : List Nat} (h0 : x.1 = 0) (a : ¬ issS tx k 91 x = true) (b : ¬ iswS tx k 26 x = true) : stepT tx k x cs W o = if ¬ (fact0 tx k (6 - o) (x, cs)).1.1 = 0 then (2, ((fact0 tx k (6 - o) (x, cs)).1, cs, W, o)) else (1, ((fact0 tx k (6 - o) (x, cs)).1, (dnN W (fact0 tx k (6 - o) (x, cs)).2 o).2.1, (dnN W (fact0 tx k (6 - o) (x, cs)).2 o).1, (dnN W (fact0 tx k (6 - o) (x, cs)).2 o).2.2)) := by
  unfold stepT
  rw [if_neg (nn h0), if_neg a, if_neg b]
theorem do_25 {P : List Nat} (h : ∀ v ∈ P, isDO v = true) : ¬ 25 ∈ P := fun q => by
  have := of_decide_eq_true (h 25 q)
  omega
theorem ts_alive (hk : k ≤ 1600) (ho : o + e = 6) (hx : x.1 = 0) (hp : x.2.2.1 ≤ k) (h : Rcb tx k (0, (x, cs, [], o)) (2, (y, c', S', o'))) (hy : y.1 = 0) : (testF tx k (factE tx k e) (x, cs)).1 = y ∧ (testF tx k (factE tx k e) (x, cs)).2 = emt S' c' := by
  obtain ⟨a, b⟩ := test_ok hk (fact_ok hk e o ho) (fact_d e) x cs [] hx hp (fun v hv => by cases hv)
  by_cases z : (testF tx k (factE tx k e) (x, cs)).1.1 = 0
  · obtain ⟨cs2, P, R, hP, hc, ⟨o1, o2⟩, _, _⟩ := a z
    rw [List.append_nil] at R
    have E := Rcb.un h (R.tr (Rcb.st ((stG _ _ _ _).trans (sG_en2 z (fun g => absurd ((opD_1 g).symm.trans o1) (by decide)) (fun g => absurd ((opO_1 g).symm.trans o2) (by decide)) (do_25 hP))) (Rcb.rf _))) rfl rfl
    have e1 : y = (testF tx k (factE tx k e) (x, cs)).1 := congrArg (fun q => q.2.1) E
    have e2 : c' = cs2 := congrArg (fun q => q.2.2.1) E
    have e3 : S' = P := congrArg (fun q => q.2.2.2.1) E
    exact ⟨e1.symm, by rw [hc, e2, e3]⟩
  · obtain ⟨cs2, S2, o2, R⟩ := b z
    have E := Rcb.un h R rfl rfl
    have e1 : y = (testF tx k (factE tx k e) (x, cs)).1 := congrArg (fun q => q.2.1) E
    rw [e1] at hy
    exact absurd hy z
theorem ts_dead (hk : k ≤ 1600) (ho : o + e = 6) (hx : x.1 = 0) (hp : x.2.2.1 ≤ k) (h : ∃ c' S' o', Rcb tx k (0, (x, cs, [], o)) (2, (y, c', S', o'))) (hy : ¬ y.1 = 0) : (testF tx k (factE tx k e) (x, cs)).1 = y := by
  obtain ⟨c', S', o', h⟩ := h
  obtain ⟨a, b⟩ := test_ok hk (fact_ok hk e o ho) (fact_d e) x cs [] hx hp (fun v hv => by cases hv)
  by_cases z : (testF tx k (factE tx k e) (x, cs)).1.1 = 0
  · obtain ⟨cs2, P, R, hP, hc, ⟨o1, o2⟩, _, _⟩ := a z
    rw [List.append_nil] at R
    have E := Rcb.un h (R.tr (Rcb.st ((stG _ _ _ _).trans (sG_en2 z (fun g => absurd ((opD_1 g).symm.trans o1) (by decide)) (fun g => absurd ((opO_1 g).symm.trans o2) (by decide)) (do_25 hP))) (Rcb.rf _))) rfl rfl
    have e1 : y = (testF tx k (factE tx k e) (x, cs)).1 := congrArg (fun q => q.2.1) E
    rw [e1] at hy
    exact absurd z hy
  · obtain ⟨cs2, S2, o2, R⟩ := b z
    exact (congrArg (fun q : Nat × MX => q.2.1) (Rcb.un h R rfl rfl)).symm
end SM
theorem wb_fr {S : List Nat} {w w' : Nat → Int32} {b n : Nat} (h : WB S w b n) (hf : ∀ j, j < n → w' j = w j) : WB S w' b n := by
  induction S generalizing n with
  | nil => exact h
  | cons v S ih =>
    obtain ⟨h1, h2, h3, h4⟩ := h
    exact ⟨h1, (hf _ (by omega)).trans h2, h3, ih h4 (fun j hj => hf j (by omega))⟩
theorem d_Model_code_0 : decode prog_13_method_31_code 0 = .ok (.aload_n 0, 1) := by decide +kernel
theorem d_Model_code_1 : decode prog_13_method_31_code 1 = .ok (.getfield 136, 3) := by decide +kernel
theorem d_Model_code_4 : decode prog_13_method_31_code 4 = .ok (.iconst 0, 1) := by decide +kernel
theorem d_Model_code_5 : decode prog_13_method_31_code 5 = .ok (.aload_n 0, 1) := by decide +kernel
theorem d_Model_code_6 : decode prog_13_method_31_code 6 = .ok (.getfield 289, 3) := by decide +kernel
theorem gf_Model_289 : GF "NineBoardsModel" 289 10 51 := ⟨_, _, _, rfl, ci_Model, by decide, (mt_5 (List.mem_of_getElem? (i := 139) rfl) rfl)⟩
theorem d_Model_code_9 : decode prog_13_method_31_code 9 = .ok (.iadd, 1) := by decide +kernel
theorem d_Model_code_10 : decode prog_13_method_31_code 10 = .ok (.iload_n 1, 1) := by decide +kernel
theorem d_Model_code_11 : decode prog_13_method_31_code 11 = .ok (.iastore, 1) := by decide +kernel
theorem d_Model_code_12 : decode prog_13_method_31_code 12 = .ok (.aload_n 0, 1) := by decide +kernel
theorem d_Model_code_13 : decode prog_13_method_31_code 13 = .ok (.dup, 1) := by decide +kernel
theorem d_Model_code_14 : decode prog_13_method_31_code 14 = .ok (.getfield 289, 3) := by decide +kernel
theorem d_Model_code_17 : decode prog_13_method_31_code 17 = .ok (.iconst 1, 1) := by decide +kernel
theorem d_Model_code_18 : decode prog_13_method_31_code 18 = .ok (.iadd, 1) := by decide +kernel
theorem d_Model_code_19 : decode prog_13_method_31_code 19 = .ok (.putfield 289, 3) := by decide +kernel
theorem pf_Model_289 : PF "NineBoardsModel" 289 10 51 (.int) false := ⟨_, _, _, ct_Model, rfl, ci_Model, by decide, (mt_5 (List.mem_of_getElem? (i := 139) rfl) rfl), cp_Model, cn_Model, rfl, by decide +kernel, (fun h => by cases h)⟩
theorem d_Model_code_22 : decode prog_13_method_31_code 22 = .ok (.return_, 1) := by decide +kernel
set_option maxHeartbeats 4000000 in
set_option maxRecDepth 100000 in
theorem c_M_code (l : Launch) (D : va_G) (y : Nat → ClassId) (mo : Nat) (ma : Nat → Nat) (t1 : Nat) (t2 : Nat) (t3 : Nat) (i4 : Int32) (i5 : Int32) (i6 : Int32) (i7 : Int32) (i8 : Int32) (i42 : Int32) (i49 : Int32) (cd : Nat) (wn : Nat) (i54 : Int32) (i59 : Int32) (i61 : Int32) (i64 : Int32) (i66 : Int32) (t67 : Nat) (i76 : Int64) (i78 : Int32) (g50 : Nat → Int32) (v : Int32) (hc : cd < 1600) : CT l D y ⟨"NineBoardsModel", "code", "(I)V"⟩ prog_13_method_31_code 2 none ({ frames := 0, cells := 0, slots := 0, locals := 0 } : Room) [.ref mo, .int v] [MB mo ma (nI t1) (nI t2) (nI t3) i4 i5 i6 i7 i8 i42 i49 (nI cd) (nI wn) i54 i59 i61 i64 i66 (nI t67) i76 i78, (ma 50, .inl (y 0, 3200, .inl g50))] (QV D [MB mo ma (nI t1) (nI t2) (nI t3) i4 i5 i6 i7 i8 i42 i49 (nI cd) (nI wn) i54 i59 i61 i64 i66 (nI t67) i76 i78, (ma 50, .inl (y 0, 3200, .inl g50))] (fun (_ : Unit) => True) (fun _ => [MB mo ma (nI t1) (nI t2) (nI t3) i4 i5 i6 i7 i8 i42 i49 (nI (cd + 1)) (nI wn) i54 i59 i61 i64 i66 (nI t67) i76 i78, (ma 50, .inl (y 0, 3200, .inl (upd g50 cd v)))])) := by
  refine CT.of (by decide) (nb rfl) ?_
  intro p e s m args below meth c C hr
  refine j_lv (lv' := [(0, .ref mo), (1, .int v)]) rfl ?_
  refine j_aload_n (pc := 0) C d_Model_code_0 rfl 0 rfl ?_
  refine j_get (pc := 1) C gf_Model_136 0 rfl rfl d_Model_code_1 ?_
  refine j_iconst (pc := 4) C (v := 0) d_Model_code_4 (by decide) ?_
  refine j_aload_n (pc := 5) C d_Model_code_5 rfl 0 rfl ?_
  refine j_get (pc := 6) C gf_Model_289 0 rfl rfl d_Model_code_6 ?_
  refine j_iadd (pc := 9) C (v := nI cd) d_Model_code_9 (Int32.zero_add _) ?_
  refine j_iload_n (pc := 10) C d_Model_code_10 rfl 1 rfl ?_
  refine j_iast (pc := 11) C 1 rfl (ws' := [MB mo ma (nI t1) (nI t2) (nI t3) i4 i5 i6 i7 i8 i42 i49 (nI cd) (nI wn) i54 i59 i61 i64 i66 (nI t67) i76 i78, (ma 50, .inl (y 0, 3200, .inl (upd g50 cd v)))]) (vp_in_nI (by omega) (by decide)) (by rw [nI_clamp (by omega)]; rfl) d_Model_code_11 ?_
  refine j_aload_n (pc := 12) C d_Model_code_12 rfl 0 rfl ?_
  refine j_dup (pc := 13) C d_Model_code_13 rfl ?_
  refine j_get (pc := 14) C gf_Model_289 0 rfl rfl d_Model_code_14 ?_
  refine j_iconst (pc := 17) C (v := 1) d_Model_code_17 (by decide) ?_
  refine j_iadd (pc := 18) C (v := nI (cd + 1)) d_Model_code_18 (nI_add _ _) ?_
  refine j_put (pc := 19) C pf_Model_289 0 (ws' := [MB mo ma (nI t1) (nI t2) (nI t3) i4 i5 i6 i7 i8 i42 i49 (nI (cd + 1)) (nI wn) i54 i59 i61 i64 i66 (nI t67) i76 i78, (ma 50, .inl (y 0, 3200, .inl (upd g50 cd v)))]) rfl rfl rfl (nl rfl) rfl d_Model_code_19 ?_
  exact j_vret (pc := 22) C hr () trivial [0, 1] rfl (by decide) (by decide) (by decide) d_Model_code_22
theorem d_Model_drops_0 : decode prog_13_method_34_code 0 = .ok (.aload_n 0, 1) := by decide +kernel
theorem d_Model_drops_1 : decode prog_13_method_34_code 1 = .ok (.dup, 1) := by decide +kernel
theorem d_Model_drops_2 : decode prog_13_method_34_code 2 = .ok (.getfield 292, 3) := by decide +kernel
theorem gf_Model_292 : GF "NineBoardsModel" 292 10 53 := ⟨_, _, _, rfl, ci_Model, by decide, (mt_5 (List.mem_of_getElem? (i := 141) rfl) rfl)⟩
theorem d_Model_drops_5 : decode prog_13_method_34_code 5 = .ok (.iconst 1, 1) := by decide +kernel
theorem d_Model_drops_6 : decode prog_13_method_34_code 6 = .ok (.isub, 1) := by decide +kernel
theorem d_Model_drops_7 : decode prog_13_method_34_code 7 = .ok (.putfield 292, 3) := by decide +kernel
theorem pf_Model_292 : PF "NineBoardsModel" 292 10 53 (.int) false := ⟨_, _, _, ct_Model, rfl, ci_Model, by decide, (mt_5 (List.mem_of_getElem? (i := 141) rfl) rfl), cp_Model, cn_Model, rfl, by decide +kernel, (fun h => by cases h)⟩
theorem d_Model_drops_10 : decode prog_13_method_34_code 10 = .ok (.aload_n 0, 1) := by decide +kernel
theorem d_Model_drops_11 : decode prog_13_method_34_code 11 = .ok (.aload_n 0, 1) := by decide +kernel
theorem d_Model_drops_12 : decode prog_13_method_34_code 12 = .ok (.getfield 139, 3) := by decide +kernel
theorem gf_Model_139 : GF "NineBoardsModel" 139 10 52 := ⟨_, _, _, rfl, ci_Model, by decide, (mt_5 (List.mem_of_getElem? (i := 140) rfl) rfl)⟩
theorem d_Model_drops_15 : decode prog_13_method_34_code 15 = .ok (.aload_n 0, 1) := by decide +kernel
theorem d_Model_drops_16 : decode prog_13_method_34_code 16 = .ok (.getfield 292, 3) := by decide +kernel
theorem d_Model_drops_19 : decode prog_13_method_34_code 19 = .ok (.iaload, 1) := by decide +kernel
theorem d_Model_drops_20 : decode prog_13_method_34_code 20 = .ok (.invokevirtual 344, 3) := by decide +kernel
theorem kw_Model_344 : KW "NineBoardsModel" 344 ⟨"NineBoardsModel", "code", "(I)V"⟩ prog_13_method_31_code 2 none 1 := ⟨(mt_6 (List.mem_of_getElem? (i := 211) rfl) rfl), (mt_1 (List.mem_of_getElem? (i := 16) rfl) rfl), (mt_6 (List.mem_of_getElem? (i := 214) rfl) rfl), by decide +kernel⟩
theorem kv_Model_code : Cond.instanceMethod ⟨"NineBoardsModel", "code", "(I)V"⟩ ∈ TB ∧ Cond.selects "NineBoardsModel" ⟨"NineBoardsModel", "code", "(I)V"⟩ ⟨"NineBoardsModel", "code", "(I)V"⟩ ∈ TB := ⟨(mt_6 (List.mem_of_getElem? (i := 213) rfl) rfl), (ms_0 (List.mem_map.mpr ⟨(⟨"NineBoardsModel", "code", "(I)V"⟩, 79), List.mem_of_getElem? (i := 74) (by decide +kernel), rfl⟩) rfl)⟩
theorem d_Model_drops_23 : decode prog_13_method_34_code 23 = .ok (.return_, 1) := by decide +kernel
set_option maxHeartbeats 4000000 in
set_option maxRecDepth 100000 in
theorem c_M_drops (l : Launch) (D : va_G) (y : Nat → ClassId) (mo : Nat) (ma : Nat → Nat) (t1 : Nat) (t2 : Nat) (t3 : Nat) (i4 : Int32) (i5 : Int32) (i6 : Int32) (i7 : Int32) (i8 : Int32) (i42 : Int32) (i49 : Int32) (cd : Nat) (wn : Nat) (i54 : Int32) (i59 : Int32) (i61 : Int32) (i64 : Int32) (i66 : Int32) (t67 : Nat) (i76 : Int64) (i78 : Int32) (g50 : Nat → Int32) (g52 : Nat → Int32) (hc : cd < 1600) (hw1 : 1 ≤ wn) (hw2 : wn ≤ 1700) : CT l D y ⟨"NineBoardsModel", "drops", "()V"⟩ prog_13_method_34_code 1 none ({ frames := 1, cells := 0, slots := 0, locals := 21 } : Room) [.ref mo] [MB mo ma (nI t1) (nI t2) (nI t3) i4 i5 i6 i7 i8 i42 i49 (nI cd) (nI wn) i54 i59 i61 i64 i66 (nI t67) i76 i78, (ma 50, .inl (y 0, 3200, .inl g50)), (ma 52, .inl (y 0, 1700, .inl g52))] (QV D [MB mo ma (nI t1) (nI t2) (nI t3) i4 i5 i6 i7 i8 i42 i49 (nI cd) (nI wn) i54 i59 i61 i64 i66 (nI t67) i76 i78, (ma 50, .inl (y 0, 3200, .inl g50)), (ma 52, .inl (y 0, 1700, .inl g52))] (fun (_ : Unit) => True) (fun _ => [MB mo ma (nI t1) (nI t2) (nI t3) i4 i5 i6 i7 i8 i42 i49 (nI (cd + 1)) (nI (wn - 1)) i54 i59 i61 i64 i66 (nI t67) i76 i78, (ma 50, .inl (y 0, 3200, .inl (upd g50 cd (g52 (wn - 1))))), (ma 52, .inl (y 0, 1700, .inl g52))])) := by
  refine CT.of (by decide) (nb rfl) ?_
  intro p e s m args below meth c C hr
  refine j_lv (lv' := [(0, .ref mo)]) rfl ?_
  refine j_aload_n (pc := 0) C d_Model_drops_0 rfl 0 rfl ?_
  refine j_dup (pc := 1) C d_Model_drops_1 rfl ?_
  refine j_get (pc := 2) C gf_Model_292 0 rfl rfl d_Model_drops_2 ?_
  refine j_iconst (pc := 5) C (v := 1) d_Model_drops_5 (by decide) ?_
  refine j_isub (pc := 6) C (v := nI (wn - 1)) d_Model_drops_6 (pk_sub (a := wn) (b := 1) (by omega)) ?_
  refine j_put (pc := 7) C pf_Model_292 0 (ws' := [MB mo ma (nI t1) (nI t2) (nI t3) i4 i5 i6 i7 i8 i42 i49 (nI cd) (nI (wn - 1)) i54 i59 i61 i64 i66 (nI t67) i76 i78, (ma 50, .inl (y 0, 3200, .inl g50)), (ma 52, .inl (y 0, 1700, .inl g52))]) rfl rfl rfl (nl rfl) rfl d_Model_drops_7 ?_
  refine j_aload_n (pc := 10) C d_Model_drops_10 rfl 0 rfl ?_
  refine j_aload_n (pc := 11) C d_Model_drops_11 rfl 0 rfl ?_
  refine j_get (pc := 12) C gf_Model_139 0 rfl rfl d_Model_drops_12 ?_
  refine j_aload_n (pc := 15) C d_Model_drops_15 rfl 0 rfl ?_
  refine j_get (pc := 16) C gf_Model_292 0 rfl rfl d_Model_drops_16 ?_
  refine j_iald (pc := 19) C 2 rfl (v := g52 (wn - 1)) (vp_in_nI (by omega) (by decide)) (by rw [nI_clamp (by omega)]) d_Model_drops_19 ?_
  refine j_callVv (pc := 20) C (c_M_code l D y mo ma t1 t2 t3 i4 i5 i6 i7 i8 i42 i49 cd (wn - 1) i54 i59 i61 i64 i66 t67 i76 i78 g50 (g52 (wn - 1)) hc) kw_Model_344 kv_Model_code 0 10 rfl rfl ⟨by decide, by decide⟩ ⟨by decide, by decide⟩ (wr := [(ma 52, .inl (y 0, 1700, .inl g52))]) [0, 1] [2] rfl rfl (by decide) (by decide) (by decide) (As := [.int (g52 (wn - 1))]) (rest := []) rfl (nb rfl) rfl d_Model_drops_20 (fun _ _ => ?_)
  refine j_ws (ws' := [(ma 52, .inl (y 0, 1700, .inl g52)), MB mo ma (nI t1) (nI t2) (nI t3) i4 i5 i6 i7 i8 i42 i49 (nI (cd + 1)) (nI (wn - 1)) i54 i59 i61 i64 i66 (nI t67) i76 i78, (ma 50, .inl (y 0, 3200, .inl (upd g50 cd (g52 (wn - 1)))))]) rfl ?_
  exact j_vret (pc := 23) C hr () trivial [1, 2, 0] rfl (by decide) (by decide) (by decide) d_Model_drops_23
theorem d_Model_opens_0 : decode prog_13_method_32_code 0 = .ok (.aload_n 0, 1) := by decide +kernel
theorem d_Model_opens_1 : decode prog_13_method_32_code 1 = .ok (.getfield 295, 3) := by decide +kernel
theorem gf_Model_295 : GF "NineBoardsModel" 295 10 54 := ⟨_, _, _, rfl, ci_Model, by decide, (mt_5 (List.mem_of_getElem? (i := 142) rfl) rfl)⟩
theorem d_Model_opens_4 : decode prog_13_method_32_code 4 = .ok (.bipush 6, 2) := by decide +kernel
theorem d_Model_opens_6 : decode prog_13_method_32_code 6 = .ok (.if_icmp .ne 10, 3) := by decide +kernel
theorem d_Model_opens_16 : decode prog_13_method_32_code 16 = .ok (.aload_n 0, 1) := by decide +kernel
theorem d_Model_opens_17 : decode prog_13_method_32_code 17 = .ok (.dup, 1) := by decide +kernel
theorem d_Model_opens_18 : decode prog_13_method_32_code 18 = .ok (.getfield 295, 3) := by decide +kernel
theorem d_Model_opens_21 : decode prog_13_method_32_code 21 = .ok (.iconst 1, 1) := by decide +kernel
theorem d_Model_opens_22 : decode prog_13_method_32_code 22 = .ok (.iadd, 1) := by decide +kernel
theorem d_Model_opens_23 : decode prog_13_method_32_code 23 = .ok (.putfield 295, 3) := by decide +kernel
theorem pf_Model_295 : PF "NineBoardsModel" 295 10 54 (.int) false := ⟨_, _, _, ct_Model, rfl, ci_Model, by decide, (mt_5 (List.mem_of_getElem? (i := 142) rfl) rfl), cp_Model, cn_Model, rfl, by decide +kernel, (fun h => by cases h)⟩
theorem d_Model_opens_26 : decode prog_13_method_32_code 26 = .ok (.aload_n 0, 1) := by decide +kernel
theorem d_Model_opens_27 : decode prog_13_method_32_code 27 = .ok (.getfield 139, 3) := by decide +kernel
theorem d_Model_opens_30 : decode prog_13_method_32_code 30 = .ok (.aload_n 0, 1) := by decide +kernel
theorem d_Model_opens_31 : decode prog_13_method_32_code 31 = .ok (.getfield 292, 3) := by decide +kernel
theorem d_Model_opens_34 : decode prog_13_method_32_code 34 = .ok (.iload_n 1, 1) := by decide +kernel
theorem d_Model_opens_35 : decode prog_13_method_32_code 35 = .ok (.iastore, 1) := by decide +kernel
theorem d_Model_opens_36 : decode prog_13_method_32_code 36 = .ok (.aload_n 0, 1) := by decide +kernel
theorem d_Model_opens_37 : decode prog_13_method_32_code 37 = .ok (.dup, 1) := by decide +kernel
theorem d_Model_opens_38 : decode prog_13_method_32_code 38 = .ok (.getfield 292, 3) := by decide +kernel
theorem d_Model_opens_41 : decode prog_13_method_32_code 41 = .ok (.iconst 1, 1) := by decide +kernel
theorem d_Model_opens_42 : decode prog_13_method_32_code 42 = .ok (.iadd, 1) := by decide +kernel
theorem d_Model_opens_43 : decode prog_13_method_32_code 43 = .ok (.putfield 292, 3) := by decide +kernel
theorem d_Model_opens_46 : decode prog_13_method_32_code 46 = .ok (.return_, 1) := by decide +kernel
set_option maxHeartbeats 4000000 in
set_option maxRecDepth 100000 in
theorem c_M_opens_Y (l : Launch) (D : va_G) (y : Nat → ClassId) (mo : Nat) (ma : Nat → Nat) (t1 : Nat) (t2 : Nat) (t3 : Nat) (i4 : Int32) (i5 : Int32) (i6 : Int32) (i7 : Int32) (i8 : Int32) (i42 : Int32) (i49 : Int32) (cd : Nat) (wn : Nat) (oo : Nat) (i59 : Int32) (i61 : Int32) (i64 : Int32) (i66 : Int32) (t67 : Nat) (i76 : Int64) (i78 : Int32) (g52 : Nat → Int32) (v1 : Int32) (v2 : Int32) (ho5 : ¬ oo = 6) (ho6 : oo ≤ 6) (hwn : wn < 1700) : CT l D y ⟨"NineBoardsModel", "opens", "(II)V"⟩ prog_13_method_32_code 3 none ({ frames := 0, cells := 0, slots := 0, locals := 0 } : Room) [.ref mo, .int v1, .int v2] [MB mo ma (nI t1) (nI t2) (nI t3) i4 i5 i6 i7 i8 i42 i49 (nI cd) (nI wn) (nI oo) i59 i61 i64 i66 (nI t67) i76 i78, (ma 52, .inl (y 0, 1700, .inl g52))] (QV D [MB mo ma (nI t1) (nI t2) (nI t3) i4 i5 i6 i7 i8 i42 i49 (nI cd) (nI wn) (nI oo) i59 i61 i64 i66 (nI t67) i76 i78, (ma 52, .inl (y 0, 1700, .inl g52))] (fun (_ : Unit) => True) (fun _ => [MB mo ma (nI t1) (nI t2) (nI t3) i4 i5 i6 i7 i8 i42 i49 (nI cd) (nI (wn + 1)) (nI (oo + 1)) i59 i61 i64 i66 (nI t67) i76 i78, (ma 52, .inl (y 0, 1700, .inl (upd g52 wn v1)))])) := by
  refine CT.of (by decide) (nb rfl) ?_
  intro p e s m args below meth c C hr
  refine j_lv (lv' := [(0, .ref mo), (1, .int v1), (2, .int v2)]) rfl ?_
  refine j_aload_n (pc := 0) C d_Model_opens_0 rfl 0 rfl ?_
  refine j_get (pc := 1) C gf_Model_295 0 rfl rfl d_Model_opens_1 ?_
  refine j_bipush (pc := 4) C (v := 6) d_Model_opens_4 (by decide) ?_
  refine j_icmp_neT (pc := 6) C (tgt := 16) d_Model_opens_6 (by decide) (show ¬ nI oo = nI 6 from fun e => absurd ((nI_eq (by omega) (by omega)).mp e) (by omega)) ?_
  refine j_aload_n (pc := 16) C d_Model_opens_16 rfl 0 rfl ?_
  refine j_dup (pc := 17) C d_Model_opens_17 rfl ?_
  refine j_get (pc := 18) C gf_Model_295 0 rfl rfl d_Model_opens_18 ?_
  refine j_iconst (pc := 21) C (v := 1) d_Model_opens_21 (by decide) ?_
  refine j_iadd (pc := 22) C (v := nI (oo + 1)) d_Model_opens_22 (nI_add _ _) ?_
  refine j_put (pc := 23) C pf_Model_295 0 (ws' := [MB mo ma (nI t1) (nI t2) (nI t3) i4 i5 i6 i7 i8 i42 i49 (nI cd) (nI wn) (nI (oo + 1)) i59 i61 i64 i66 (nI t67) i76 i78, (ma 52, .inl (y 0, 1700, .inl g52))]) rfl rfl rfl (nl rfl) rfl d_Model_opens_23 ?_
  refine j_aload_n (pc := 26) C d_Model_opens_26 rfl 0 rfl ?_
  refine j_get (pc := 27) C gf_Model_139 0 rfl rfl d_Model_opens_27 ?_
  refine j_aload_n (pc := 30) C d_Model_opens_30 rfl 0 rfl ?_
  refine j_get (pc := 31) C gf_Model_292 0 rfl rfl d_Model_opens_31 ?_
  refine j_iload_n (pc := 34) C d_Model_opens_34 rfl 1 rfl ?_
  refine j_iast (pc := 35) C 1 rfl (ws' := [MB mo ma (nI t1) (nI t2) (nI t3) i4 i5 i6 i7 i8 i42 i49 (nI cd) (nI wn) (nI (oo + 1)) i59 i61 i64 i66 (nI t67) i76 i78, (ma 52, .inl (y 0, 1700, .inl (upd g52 wn v1)))]) (vp_in_nI (by omega) (by decide)) (by rw [nI_clamp (by omega)]; rfl) d_Model_opens_35 ?_
  refine j_aload_n (pc := 36) C d_Model_opens_36 rfl 0 rfl ?_
  refine j_dup (pc := 37) C d_Model_opens_37 rfl ?_
  refine j_get (pc := 38) C gf_Model_292 0 rfl rfl d_Model_opens_38 ?_
  refine j_iconst (pc := 41) C (v := 1) d_Model_opens_41 (by decide) ?_
  refine j_iadd (pc := 42) C (v := nI (wn + 1)) d_Model_opens_42 (nI_add _ _) ?_
  refine j_put (pc := 43) C pf_Model_292 0 (ws' := [MB mo ma (nI t1) (nI t2) (nI t3) i4 i5 i6 i7 i8 i42 i49 (nI cd) (nI (wn + 1)) (nI (oo + 1)) i59 i61 i64 i66 (nI t67) i76 i78, (ma 52, .inl (y 0, 1700, .inl (upd g52 wn v1)))]) rfl rfl rfl (nl rfl) rfl d_Model_opens_43 ?_
  exact j_vret (pc := 46) C hr () trivial [0, 1] rfl (by decide) (by decide) (by decide) d_Model_opens_46
theorem d_Model_opens_9 : decode prog_13_method_32_code 9 = .ok (.aload_n 0, 1) := by decide +kernel
theorem d_Model_opens_10 : decode prog_13_method_32_code 10 = .ok (.iconst 4, 1) := by decide +kernel
theorem d_Model_opens_11 : decode prog_13_method_32_code 11 = .ok (.iload_n 2, 1) := by decide +kernel
theorem d_Model_opens_12 : decode prog_13_method_32_code 12 = .ok (.invokevirtual 230, 3) := by decide +kernel
theorem d_Model_opens_15 : decode prog_13_method_32_code 15 = .ok (.return_, 1) := by decide +kernel
set_option maxHeartbeats 4000000 in
set_option maxRecDepth 100000 in
theorem c_M_opens_N (l : Launch) (D : va_G) (y : Nat → ClassId) (mo : Nat) (ma : Nat → Nat) (t1 : Nat) (t2 : Nat) (t3 : Nat) (i4 : Int32) (i5 : Int32) (i6 : Int32) (i7 : Int32) (i8 : Int32) (i42 : Int32) (i49 : Int32) (i51 : Int32) (wn : Nat) (oo : Nat) (i59 : Int32) (i61 : Int32) (i64 : Int32) (i66 : Int32) (t67 : Nat) (i76 : Int64) (i78 : Int32) (g52 : Nat → Int32) (v1 : Int32) (pp : Nat) (gs : PS) (tx : Nat → Nat) (ho5 : oo = 6) (hgs : gs.1 = 0) (hak : t2 ≤ t3) (hz : i5 = 0) : CT l D y ⟨"NineBoardsModel", "opens", "(II)V"⟩ prog_13_method_32_code 3 none ({ frames := 1, cells := 0, slots := 0, locals := 22 } : Room) [.ref mo, .int v1, .int (nI pp)] [MB mo ma (nI t1) (nI t2) (nI t3) i4 i5 i6 i7 i8 i42 i49 i51 (nI wn) (nI oo) i59 i61 i64 i66 (nI t67) i76 i78, (ma 52, .inl (y 0, 1700, .inl g52))] (QV D [MB mo ma (nI t1) (nI t2) (nI t3) i4 i5 i6 i7 i8 i42 i49 i51 (nI wn) (nI oo) i59 i61 i64 i66 (nI t67) i76 i78, (ma 52, .inl (y 0, 1700, .inl g52))] (fun (u : Int32 × Int32) => ¬ u.1 = 0 ∧ RR tx t3 (failS 4 pp gs) t2 i4 u.1 u.2) (fun u => [MB mo ma (nI t1) (nI t2) (nI t3) i4 u.1 u.2 i7 i8 i42 i49 i51 (nI wn) (nI oo) i59 i61 i64 i66 (nI t67) i76 i78, (ma 52, .inl (y 0, 1700, .inl g52))])) := by
  refine CT.of (by decide) (nb rfl) ?_
  intro p e s m args below meth c C hr
  refine j_lv (lv' := [(0, .ref mo), (1, .int v1), (2, .int (nI pp))]) rfl ?_
  refine j_aload_n (pc := 0) C d_Model_opens_0 rfl 0 rfl ?_
  refine j_get (pc := 1) C gf_Model_295 0 rfl rfl d_Model_opens_1 ?_
  refine j_bipush (pc := 4) C (v := 6) d_Model_opens_4 (by decide) ?_
  refine j_icmp_neF (pc := 6) C (tgt := 16) d_Model_opens_6 (by decide) (show nI oo = nI 6 from (nI_eq (by omega) (by omega)).mpr (by omega)) ?_
  refine j_aload_n (pc := 9) C d_Model_opens_9 rfl 0 rfl ?_
  refine j_iconst (pc := 10) C (v := 4) d_Model_opens_10 (by decide) ?_
  refine j_iload_n (pc := 11) C d_Model_opens_11 rfl 2 rfl ?_
  refine j_callVv (pc := 12) C (c_M_fail_4 l D y mo ma t1 t2 t3 i4 i5 i6 i7 i8 i42 i49 i51 (nI wn) (nI oo) i59 i61 i64 i66 t67 i76 i78 pp gs tx hgs hak hz) kw_Model_230 kv_Model_fail 0 10 rfl rfl ⟨by decide, by decide⟩ ⟨by decide, by decide⟩ (wr := [(ma 52, .inl (y 0, 1700, .inl g52))]) [0] [1] rfl rfl (by decide) (by decide) (by decide) (As := [.int 4, .int (nI pp)]) (rest := []) rfl (nb rfl) rfl d_Model_opens_12 (fun u1 hu2 => ?_)
  obtain ⟨xh3, xh4⟩ := hu2
  refine j_ws (ws' := [(ma 52, .inl (y 0, 1700, .inl g52)), MB mo ma (nI t1) (nI t2) (nI t3) i4 u1.1 u1.2 i7 i8 i42 i49 i51 (nI wn) (nI oo) i59 i61 i64 i66 (nI t67) i76 i78]) rfl ?_
  exact j_vret (pc := 15) C hr (u1.1, u1.2) ⟨xh3, xh4⟩ [1, 0] rfl (by decide) (by decide) (by decide) d_Model_opens_15
theorem d_Model_isOn_0 : decode prog_13_method_33_code 0 = .ok (.aload_n 0, 1) := by decide +kernel
theorem d_Model_isOn_1 : decode prog_13_method_33_code 1 = .ok (.getfield 292, 3) := by decide +kernel
theorem d_Model_isOn_4 : decode prog_13_method_33_code 4 = .ok (.ifCond .le 22, 3) := by decide +kernel
theorem d_Model_isOn_26 : decode prog_13_method_33_code 26 = .ok (.iconst 0, 1) := by decide +kernel
theorem d_Model_isOn_27 : decode prog_13_method_33_code 27 = .ok (.ireturn, 1) := by decide +kernel
theorem d_Model_isOn_7 : decode prog_13_method_33_code 7 = .ok (.aload_n 0, 1) := by decide +kernel
theorem d_Model_isOn_8 : decode prog_13_method_33_code 8 = .ok (.getfield 139, 3) := by decide +kernel
theorem d_Model_isOn_11 : decode prog_13_method_33_code 11 = .ok (.aload_n 0, 1) := by decide +kernel
theorem d_Model_isOn_12 : decode prog_13_method_33_code 12 = .ok (.getfield 292, 3) := by decide +kernel
theorem d_Model_isOn_15 : decode prog_13_method_33_code 15 = .ok (.iconst 1, 1) := by decide +kernel
theorem d_Model_isOn_16 : decode prog_13_method_33_code 16 = .ok (.isub, 1) := by decide +kernel
theorem d_Model_isOn_17 : decode prog_13_method_33_code 17 = .ok (.iaload, 1) := by decide +kernel
theorem d_Model_isOn_18 : decode prog_13_method_33_code 18 = .ok (.iload_n 1, 1) := by decide +kernel
theorem d_Model_isOn_19 : decode prog_13_method_33_code 19 = .ok (.if_icmp .ne 7, 3) := by decide +kernel
theorem d_Model_isOn_22 : decode prog_13_method_33_code 22 = .ok (.iconst 1, 1) := by decide +kernel
theorem d_Model_isOn_23 : decode prog_13_method_33_code 23 = .ok (.goto 4, 3) := by decide +kernel
set_option maxHeartbeats 4000000 in
set_option maxRecDepth 100000 in
theorem c_M_isOn (l : Launch) (D : va_G) (y : Nat → ClassId) (mo : Nat) (ma : Nat → Nat) (t1 : Nat) (t2 : Nat) (t3 : Nat) (i4 : Int32) (i5 : Int32) (i6 : Int32) (i7 : Int32) (i8 : Int32) (i42 : Int32) (i49 : Int32) (i51 : Int32) (wn : Nat) (i54 : Int32) (i59 : Int32) (i61 : Int32) (i64 : Int32) (i66 : Int32) (t67 : Nat) (i76 : Int64) (i78 : Int32) (g52 : Nat → Int32) (v : Int32) (hw : wn ≤ 1700) : CT l D y ⟨"NineBoardsModel", "isOn", "(I)Z"⟩ prog_13_method_33_code 2 (some .boolean) ({ frames := 0, cells := 0, slots := 0, locals := 0 } : Room) [.ref mo, .int v] [MB mo ma (nI t1) (nI t2) (nI t3) i4 i5 i6 i7 i8 i42 i49 i51 (nI wn) i54 i59 i61 i64 i66 (nI t67) i76 i78, (ma 52, .inl (y 0, 1700, .inl g52))] (QI D [MB mo ma (nI t1) (nI t2) (nI t3) i4 i5 i6 i7 i8 i42 i49 i51 (nI wn) i54 i59 i61 i64 i66 (nI t67) i76 i78, (ma 52, .inl (y 0, 1700, .inl g52))] (fun (r : Int32) (u : Unit) => ((r = 0 ∧ (wn = 0 ∨ ¬ g52 (wn - 1) = v)) ∨ (r = 1 ∧ 1 ≤ wn ∧ g52 (wn - 1) = v))) (fun _ => [MB mo ma (nI t1) (nI t2) (nI t3) i4 i5 i6 i7 i8 i42 i49 i51 (nI wn) i54 i59 i61 i64 i66 (nI t67) i76 i78, (ma 52, .inl (y 0, 1700, .inl g52))])) := by
  refine CT.of (by decide) (nb rfl) ?_
  intro p e s m args below meth c C hr
  refine j_lv (lv' := [(0, .ref mo), (1, .int v)]) rfl ?_
  refine j_aload_n (pc := 0) C d_Model_isOn_0 rfl 0 rfl ?_
  refine j_get (pc := 1) C gf_Model_292 0 rfl rfl d_Model_isOn_1 ?_
  by_cases c1 : wn ≤ 0
  · refine j_if_leT (pc := 4) C (tgt := 26) d_Model_isOn_4 (by decide) (show nI wn ≤ nI 0 from nI_le (by omega) (by omega)) ?_
    refine j_iconst (pc := 26) C (v := 0) d_Model_isOn_26 (by decide) ?_
    exact j_iret (pc := 27) C hr (by decide) () (Or.inl ⟨rfl, Or.inl (by omega)⟩) [0, 1] rfl (by decide) (by decide) (by decide) d_Model_isOn_27
  · refine j_if_leF (pc := 4) C (tgt := 26) d_Model_isOn_4 (by decide) (show ¬ nI wn ≤ nI 0 from nI_ge (by omega) (by omega)) ?_
    refine j_aload_n (pc := 7) C d_Model_isOn_7 rfl 0 rfl ?_
    refine j_get (pc := 8) C gf_Model_139 0 rfl rfl d_Model_isOn_8 ?_
    refine j_aload_n (pc := 11) C d_Model_isOn_11 rfl 0 rfl ?_
    refine j_get (pc := 12) C gf_Model_292 0 rfl rfl d_Model_isOn_12 ?_
    refine j_iconst (pc := 15) C (v := 1) d_Model_isOn_15 (by decide) ?_
    refine j_isub (pc := 16) C (v := nI (wn - 1)) d_Model_isOn_16 (pk_sub (a := wn) (b := 1) (by omega)) ?_
    refine j_iald (pc := 17) C 1 rfl (v := g52 (wn - 1)) (vp_in_nI (by omega) (by decide)) (by rw [nI_clamp (by omega)]) d_Model_isOn_17 ?_
    refine j_iload_n (pc := 18) C d_Model_isOn_18 rfl 1 rfl ?_
    refine j_icmp_ne (pc := 19) C (tgt := 26) d_Model_isOn_19 (by decide) (fun c2 => ?_) (fun c2 => ?_)
    · refine j_iconst (pc := 26) C (v := 0) d_Model_isOn_26 (by decide) ?_
      exact j_iret (pc := 27) C hr (by decide) () (Or.inl ⟨rfl, Or.inr c2⟩) [0, 1] rfl (by decide) (by decide) (by decide) d_Model_isOn_27
    · refine j_iconst (pc := 22) C (v := 1) d_Model_isOn_22 (by decide) ?_
      refine j_goto (pc := 23) C (tgt := 27) d_Model_isOn_23 (by decide) ?_
      exact j_iret (pc := 27) C hr (by decide) () (Or.inr ⟨rfl, by omega, c2⟩) [0, 1] rfl (by decide) (by decide) (by decide) d_Model_isOn_27
theorem d_Model_isMark_0 : decode prog_13_method_35_code 0 = .ok (.iload_n 1, 1) := by decide +kernel
theorem d_Model_isMark_1 : decode prog_13_method_35_code 1 = .ok (.bipush 20, 2) := by decide +kernel
theorem d_Model_isMark_3 : decode prog_13_method_35_code 3 = .ok (.if_icmp .lt 13, 3) := by decide +kernel
theorem d_Model_isMark_16 : decode prog_13_method_35_code 16 = .ok (.iconst 0, 1) := by decide +kernel
theorem d_Model_isMark_17 : decode prog_13_method_35_code 17 = .ok (.ireturn, 1) := by decide +kernel
theorem d_Model_isMark_6 : decode prog_13_method_35_code 6 = .ok (.iload_n 1, 1) := by decide +kernel
theorem d_Model_isMark_7 : decode prog_13_method_35_code 7 = .ok (.bipush 24, 2) := by decide +kernel
theorem d_Model_isMark_9 : decode prog_13_method_35_code 9 = .ok (.if_icmp .gt 7, 3) := by decide +kernel
theorem d_Model_isMark_12 : decode prog_13_method_35_code 12 = .ok (.iconst 1, 1) := by decide +kernel
theorem d_Model_isMark_13 : decode prog_13_method_35_code 13 = .ok (.goto 4, 3) := by decide +kernel
set_option maxHeartbeats 4000000 in
set_option maxRecDepth 100000 in
theorem c_M_isMark (l : Launch) (D : va_G) (y : Nat → ClassId) (mo : Nat) (ma : Nat → Nat) (t1 : Nat) (t2 : Nat) (t3 : Nat) (i4 : Int32) (i5 : Int32) (i6 : Int32) (i7 : Int32) (i8 : Int32) (i42 : Int32) (i49 : Int32) (i51 : Int32) (i53 : Int32) (i54 : Int32) (i59 : Int32) (i61 : Int32) (i64 : Int32) (i66 : Int32) (t67 : Nat) (i76 : Int64) (i78 : Int32) (v : Int32)  : CT l D y ⟨"NineBoardsModel", "isMark", "(I)Z"⟩ prog_13_method_35_code 2 (some .boolean) ({ frames := 0, cells := 0, slots := 0, locals := 0 } : Room) [.ref mo, .int v] [MB mo ma (nI t1) (nI t2) (nI t3) i4 i5 i6 i7 i8 i42 i49 i51 i53 i54 i59 i61 i64 i66 (nI t67) i76 i78] (QI D [MB mo ma (nI t1) (nI t2) (nI t3) i4 i5 i6 i7 i8 i42 i49 i51 i53 i54 i59 i61 i64 i66 (nI t67) i76 i78] (fun (r : Int32) (u : Unit) => ((r = 0 ∧ ¬ MK v) ∨ (r = 1 ∧ MK v))) (fun _ => [MB mo ma (nI t1) (nI t2) (nI t3) i4 i5 i6 i7 i8 i42 i49 i51 i53 i54 i59 i61 i64 i66 (nI t67) i76 i78])) := by
  refine CT.of (by decide) (nb rfl) ?_
  intro p e s m args below meth c C hr
  refine j_lv (lv' := [(0, .ref mo), (1, .int v)]) rfl ?_
  refine j_iload_n (pc := 0) C d_Model_isMark_0 rfl 1 rfl ?_
  refine j_bipush (pc := 1) C (v := 20) d_Model_isMark_1 (by decide) ?_
  refine j_icmp_lt (pc := 3) C (tgt := 16) d_Model_isMark_3 (by decide) (fun c1 => ?_) (fun c1 => ?_)
  · refine j_iconst (pc := 16) C (v := 0) d_Model_isMark_16 (by decide) ?_
    exact j_iret (pc := 17) C hr (by decide) () (Or.inl ⟨rfl, fun e => absurd e.1 (Int32.not_le.mpr c1)⟩) [0] rfl (by decide) (by decide) (by decide) d_Model_isMark_17
  · refine j_iload_n (pc := 6) C d_Model_isMark_6 rfl 1 rfl ?_
    refine j_bipush (pc := 7) C (v := 24) d_Model_isMark_7 (by decide) ?_
    refine j_icmp_gt (pc := 9) C (tgt := 16) d_Model_isMark_9 (by decide) (fun c2 => ?_) (fun c2 => ?_)
    · refine j_iconst (pc := 16) C (v := 0) d_Model_isMark_16 (by decide) ?_
      exact j_iret (pc := 17) C hr (by decide) () (Or.inl ⟨rfl, fun e => absurd e.2 (Int32.not_le.mpr c2)⟩) [0] rfl (by decide) (by decide) (by decide) d_Model_isMark_17
    · refine j_iconst (pc := 12) C (v := 1) d_Model_isMark_12 (by decide) ?_
      refine j_goto (pc := 13) C (tgt := 17) d_Model_isMark_13 (by decide) ?_
      exact j_iret (pc := 17) C hr (by decide) () (Or.inr ⟨rfl, Int32.not_lt.mp c1, Int32.not_lt.mp c2⟩) [0] rfl (by decide) (by decide) (by decide) d_Model_isMark_17
theorem d_Model_mark_0 : decode prog_13_method_36_code 0 = .ok (.aload_n 0, 1) := by decide +kernel
theorem d_Model_mark_1 : decode prog_13_method_36_code 1 = .ok (.getfield 292, 3) := by decide +kernel
theorem d_Model_mark_4 : decode prog_13_method_36_code 4 = .ok (.iconst 1, 1) := by decide +kernel
theorem d_Model_mark_5 : decode prog_13_method_36_code 5 = .ok (.isub, 1) := by decide +kernel
theorem d_Model_mark_6 : decode prog_13_method_36_code 6 = .ok (.istore_n 1, 1) := by decide +kernel
theorem d_Model_mark_7 : decode prog_13_method_36_code 7 = .ok (.iload_n 1, 1) := by decide +kernel
theorem d_Model_mark_8 : decode prog_13_method_36_code 8 = .ok (.aload_n 0, 1) := by decide +kernel
theorem d_Model_mark_9 : decode prog_13_method_36_code 9 = .ok (.getfield 298, 3) := by decide +kernel
theorem gf_Model_298 : GF "NineBoardsModel" 298 10 59 := ⟨_, _, _, rfl, ci_Model, by decide, (mt_5 (List.mem_of_getElem? (i := 147) rfl) rfl)⟩
theorem d_Model_mark_12 : decode prog_13_method_36_code 12 = .ok (.if_icmp .lt 22, 3) := by decide +kernel
theorem d_Model_mark_34 : decode prog_13_method_36_code 34 = .ok (.iload_n 1, 1) := by decide +kernel
theorem d_Model_mark_35 : decode prog_13_method_36_code 35 = .ok (.aload_n 0, 1) := by decide +kernel
theorem d_Model_mark_36 : decode prog_13_method_36_code 36 = .ok (.getfield 298, 3) := by decide +kernel
theorem d_Model_mark_39 : decode prog_13_method_36_code 39 = .ok (.if_icmp .lt 12, 3) := by decide +kernel
theorem d_Model_mark_51 : decode prog_13_method_36_code 51 = .ok (.iconst (-1), 1) := by decide +kernel
theorem d_Model_mark_52 : decode prog_13_method_36_code 52 = .ok (.ireturn, 1) := by decide +kernel
theorem d_Model_mark_15 : decode prog_13_method_36_code 15 = .ok (.aload_n 0, 1) := by decide +kernel
theorem d_Model_mark_16 : decode prog_13_method_36_code 16 = .ok (.aload_n 0, 1) := by decide +kernel
theorem d_Model_mark_17 : decode prog_13_method_36_code 17 = .ok (.getfield 139, 3) := by decide +kernel
theorem d_Model_mark_20 : decode prog_13_method_36_code 20 = .ok (.iload_n 1, 1) := by decide +kernel
theorem d_Model_mark_21 : decode prog_13_method_36_code 21 = .ok (.iaload, 1) := by decide +kernel
theorem d_Model_mark_22 : decode prog_13_method_36_code 22 = .ok (.invokevirtual 347, 3) := by decide +kernel
theorem kw_Model_347 : KW "NineBoardsModel" 347 ⟨"NineBoardsModel", "isMark", "(I)Z"⟩ prog_13_method_35_code 2 (some .boolean) 1 := ⟨(mt_6 (List.mem_of_getElem? (i := 223) rfl) rfl), (mt_1 (List.mem_of_getElem? (i := 16) rfl) rfl), (mt_6 (List.mem_of_getElem? (i := 226) rfl) rfl), by decide +kernel⟩
theorem kv_Model_isMark : Cond.instanceMethod ⟨"NineBoardsModel", "isMark", "(I)Z"⟩ ∈ TB ∧ Cond.selects "NineBoardsModel" ⟨"NineBoardsModel", "isMark", "(I)Z"⟩ ⟨"NineBoardsModel", "isMark", "(I)Z"⟩ ∈ TB := ⟨(mt_6 (List.mem_of_getElem? (i := 225) rfl) rfl), (ms_0 (List.mem_map.mpr ⟨(⟨"NineBoardsModel", "isMark", "(I)Z"⟩, 79), List.mem_of_getElem? (i := 77) (by decide +kernel), rfl⟩) rfl)⟩
theorem d_Model_mark_25 : decode prog_13_method_36_code 25 = .ok (.ifCond .ne 9, 3) := by decide +kernel
theorem d_Model_mark_28 : decode prog_13_method_36_code 28 = .ok (.iinc 1 (-1), 3) := by decide +kernel
theorem d_Model_mark_31 : decode prog_13_method_36_code 31 = .ok (.goto (-24), 3) := by decide +kernel
theorem d_Model_mark_42 : decode prog_13_method_36_code 42 = .ok (.aload_n 0, 1) := by decide +kernel
theorem d_Model_mark_43 : decode prog_13_method_36_code 43 = .ok (.getfield 139, 3) := by decide +kernel
theorem d_Model_mark_46 : decode prog_13_method_36_code 46 = .ok (.iload_n 1, 1) := by decide +kernel
theorem d_Model_mark_47 : decode prog_13_method_36_code 47 = .ok (.iaload, 1) := by decide +kernel
theorem d_Model_mark_48 : decode prog_13_method_36_code 48 = .ok (.goto 4, 3) := by decide +kernel
set_option maxHeartbeats 4000000 in
set_option maxRecDepth 100000 in
theorem c_M_mark (l : Launch) (D : va_G) (y : Nat → ClassId) (mo : Nat) (ma : Nat → Nat) (t1 : Nat) (t2 : Nat) (t3 : Nat) (i4 : Int32) (i5 : Int32) (i6 : Int32) (i7 : Int32) (i8 : Int32) (i42 : Int32) (i49 : Int32) (i51 : Int32) (wn : Nat) (i54 : Int32) (bs : Nat) (i61 : Int32) (i64 : Int32) (i66 : Int32) (t67 : Nat) (i76 : Int64) (i78 : Int32) (g52 : Nat → Int32) (sk : List Nat) (hbw : bs ≤ wn) (hw : wn ≤ 1700) (hwb : WB sk g52 bs wn) : CT l D y ⟨"NineBoardsModel", "mark", "()I"⟩ prog_13_method_36_code 2 (some .int) ({ frames := 1, cells := 0, slots := 0, locals := 21 } : Room) [.ref mo] [MB mo ma (nI t1) (nI t2) (nI t3) i4 i5 i6 i7 i8 i42 i49 i51 (nI wn) i54 (nI bs) i61 i64 i66 (nI t67) i76 i78, (ma 52, .inl (y 0, 1700, .inl g52))] (QI D [MB mo ma (nI t1) (nI t2) (nI t3) i4 i5 i6 i7 i8 i42 i49 i51 (nI wn) i54 (nI bs) i61 i64 i66 (nI t67) i76 i78, (ma 52, .inl (y 0, 1700, .inl g52))] (fun (r : Int32) (u : Unit) => r = mkI sk) (fun _ => [MB mo ma (nI t1) (nI t2) (nI t3) i4 i5 i6 i7 i8 i42 i49 i51 (nI wn) i54 (nI bs) i61 i64 i66 (nI t67) i76 i78, (ma 52, .inl (y 0, 1700, .inl g52))])) := by
  refine CT.of (by decide) (nb rfl) ?_
  intro p e s m args below meth c C hr
  refine j_lv (lv' := [(0, .ref mo)]) rfl ?_
  refine j_aload_n (pc := 0) C d_Model_mark_0 rfl 0 rfl ?_
  refine j_get (pc := 1) C gf_Model_292 0 rfl rfl d_Model_mark_1 ?_
  refine j_iconst (pc := 4) C (v := 1) d_Model_mark_4 (by decide) ?_
  refine j_isub (pc := 5) C (v := nI wn - 1) d_Model_mark_5 rfl ?_
  refine j_istore_n (pc := 6) C (lv' := [(1, .int (nI wn - 1)), (0, .ref mo)]) d_Model_mark_6 rfl (by decide) rfl ?_
  refine j_loop (α := Int32 × Nat × List Nat) (fun a => a.2.1) (fun a => (a.2.1 ≤ wn) ∧ (bs ≤ a.2.1) ∧ (a.1 = nI a.2.1 - 1) ∧ (WB a.2.2 g52 bs a.2.1) ∧ (mkf a.2.2 = mkf sk)) (fun a => [MB mo ma (nI t1) (nI t2) (nI t3) i4 i5 i6 i7 i8 i42 i49 i51 (nI wn) i54 (nI bs) i61 i64 i66 (nI t67) i76 i78, (ma 52, .inl (y 0, 1700, .inl g52))]) (fun a => [(1, .int a.1), (0, .ref mo)]) (nI wn - 1, wn, sk) rfl rfl ⟨(show wn ≤ wn by omega), hbw, rfl, hwb, rfl⟩ ?_
  rintro ⟨kv, kz, sz⟩ hP12 ih13
  obtain ⟨hk__, hkb__, hkv__, hwz__, hmf__⟩ := hP12
  have hk_ : kz ≤ wn := hk__
  have hkb_ : bs ≤ kz := hkb__
  have hkv_ : kv = nI kz - 1 := hkv__
  have hwz_ : WB sz g52 bs kz := hwz__
  have hmf_ : mkf sz = mkf sk := hmf__
  refine j_ws (ws' := [MB mo ma (nI t1) (nI t2) (nI t3) i4 i5 i6 i7 i8 i42 i49 i51 (nI wn) i54 (nI bs) i61 i64 i66 (nI t67) i76 i78, (ma 52, .inl (y 0, 1700, .inl g52))]) rfl ?_
  refine j_lv (lv' := [(1, .int kv), (0, .ref mo)]) rfl ?_
  refine j_iload_n (pc := 7) C d_Model_mark_7 rfl 0 rfl ?_
  refine j_aload_n (pc := 8) C d_Model_mark_8 rfl 1 rfl ?_
  refine j_get (pc := 9) C gf_Model_298 0 rfl rfl d_Model_mark_9 ?_
  by_cases c14 : kz ≤ bs
  · refine j_icmp_ltT (pc := 12) C (tgt := 34) d_Model_mark_12 (by decide) (by rw [hkv_]; exact dn_b (by omega) (by omega)) ?_
    refine j_iload_n (pc := 34) C d_Model_mark_34 rfl 0 rfl ?_
    refine j_aload_n (pc := 35) C d_Model_mark_35 rfl 1 rfl ?_
    refine j_get (pc := 36) C gf_Model_298 0 rfl rfl d_Model_mark_36 ?_
    refine j_icmp_ltT (pc := 39) C (tgt := 51) d_Model_mark_39 (by decide) (by rw [hkv_]; exact dn_b (by omega) (by omega)) ?_
    refine j_iconst (pc := 51) C (v := (-1)) d_Model_mark_51 (by decide) ?_
    exact j_iret (pc := 52) C hr rfl () (mkI_0 (by rw [← hmf_, wb_nil hwz_ (by omega)]; rfl)).symm [0, 1] rfl (by decide) (by decide) (by decide) d_Model_mark_52
  · refine j_icmp_ltF (pc := 12) C (tgt := 34) d_Model_mark_12 (by decide) (by rw [hkv_]; exact dn_nb (by omega) (by omega)) ?_
    refine j_lv (lv' := [(1, .int (nI (kz - 1))), (0, .ref mo)]) (by rw [hkv_, nI_s1 (by omega)]) ?_
    obtain ⟨vq15, sq16, xh17, xh18, xh19, xh20⟩ := wb_top hwz_ (show bs < kz by omega)
    refine j_aload_n (pc := 15) C d_Model_mark_15 rfl 1 rfl ?_
    refine j_aload_n (pc := 16) C d_Model_mark_16 rfl 1 rfl ?_
    refine j_get (pc := 17) C gf_Model_139 0 rfl rfl d_Model_mark_17 ?_
    refine j_iload_n (pc := 20) C d_Model_mark_20 rfl 0 rfl ?_
    refine j_iald (pc := 21) C 1 rfl (v := nI vq15) (vp_in_nI (by omega) (by decide)) (by rw [nI_clamp (by omega)]; exact xh18) d_Model_mark_21 ?_
    refine j_callVi (pc := 22) C (c_M_isMark l D y mo ma t1 t2 t3 i4 i5 i6 i7 i8 i42 i49 i51 (nI wn) i54 (nI bs) i61 i64 i66 t67 i76 i78 (nI vq15)) kw_Model_347 kv_Model_isMark 0 10 rfl rfl ⟨by decide, by decide⟩ ⟨by decide, by decide⟩ (wr := [(ma 52, .inl (y 0, 1700, .inl g52))]) [0] [1] rfl rfl (by decide) (by decide) (by decide) (As := [.int (nI vq15)]) (rest := []) rfl (nb rfl) rfl d_Model_mark_22 (fun r21 _ hr21 => ?_)
    refine j_ws (ws' := [(ma 52, .inl (y 0, 1700, .inl g52)), MB mo ma (nI t1) (nI t2) (nI t3) i4 i5 i6 i7 i8 i42 i49 i51 (nI wn) i54 (nI bs) i61 i64 i66 (nI t67) i76 i78]) rfl ?_
    rcases hr21 with ⟨rfl, xh23⟩ | ⟨rfl, xh24⟩
    · refine j_if_neF (pc := 25) C (tgt := 34) d_Model_mark_25 (by decide) (by decide) ?_
      refine j_iinc (pc := 28) C (v := (nI (kz - 1)) + (-1)) (lv' := [(1, .int ((nI (kz - 1)) + (-1))), (0, .ref mo)]) d_Model_mark_28 0 rfl rfl (by decide) rfl ?_
      refine j_goto (pc := 31) C (tgt := 7) d_Model_mark_31 (by decide) ?_
      refine j_sub (ws' := [MB mo ma (nI t1) (nI t2) (nI t3) i4 i5 i6 i7 i8 i42 i49 i51 (nI wn) i54 (nI bs) i61 i64 i66 (nI t67) i76 i78, (ma 52, .inl (y 0, 1700, .inl g52))]) [1, 0] rfl (by decide) ?_
      exact ih13 ((nI (kz - 1)) + (-1), kz - 1, sq16) ⟨(show (kz - 1) ≤ wn by omega), (show bs ≤ (kz - 1) by omega), (show ((nI (kz - 1)) + (-1)) = nI (kz - 1) - 1 from m1s _), xh20, (show mkf sq16 = mkf sk by rw [← hmf_, xh17]; exact (mkf_n (fun q => xh23 ((mk_iff xh19).mpr q))).symm)⟩ (show (kz - 1) < kz by omega)
    · refine j_if_neT (pc := 25) C (tgt := 34) d_Model_mark_25 (by decide) (by decide) ?_
      refine j_iload_n (pc := 34) C d_Model_mark_34 rfl 0 rfl ?_
      refine j_aload_n (pc := 35) C d_Model_mark_35 rfl 1 rfl ?_
      refine j_get (pc := 36) C gf_Model_298 1 rfl rfl d_Model_mark_36 ?_
      refine j_icmp_ltF (pc := 39) C (tgt := 51) d_Model_mark_39 (by decide) (nI_nlt (by omega) (by omega)) ?_
      refine j_aload_n (pc := 42) C d_Model_mark_42 rfl 1 rfl ?_
      refine j_get (pc := 43) C gf_Model_139 1 rfl rfl d_Model_mark_43 ?_
      refine j_iload_n (pc := 46) C d_Model_mark_46 rfl 0 rfl ?_
      refine j_iald (pc := 47) C 0 rfl (v := nI vq15) (vp_in_nI (by omega) (by decide)) (by rw [nI_clamp (by omega)]; exact xh18) d_Model_mark_47 ?_
      refine j_goto (pc := 48) C (tgt := 52) d_Model_mark_48 (by decide) ?_
      exact j_iret (pc := 52) C hr rfl () (mkI_y (by rw [← hmf_, xh17]; exact mkf_y ((mk_iff xh19).mp xh24)) ((mk_iff xh19).mp xh24)).symm [1, 0] rfl (by decide) (by decide) (by decide) d_Model_mark_52
