/-! the codes that are told are well formed: what lies on the pile behind each -/
def tyC (c : Nat) (ts : List Bool) : Option (List Bool) :=
  if 1000 ≤ c then (if c < 20000 then some (false :: ts) else none) else if c = 17 then some (true :: ts)
  else if c = 16 then (match ts with | true :: r => some (true :: r) | _ => none)
  else if 7 ≤ c ∧ c ≤ 9 then some (false :: ts)
  else match ts with
    | y :: x :: r => if 1 ≤ c ∧ c ≤ 6 ∧ x = false ∧ y = false then some (false :: r) else if 11 ≤ c ∧ c ≤ 13 ∧ x = false ∧ y = false then some (true :: r) else if 14 ≤ c ∧ c ≤ 15 ∧ x = true ∧ y = true then some (true :: r) else none
    | _ => none
def RUN : List Nat → List Bool → List Bool → Nat → Prop
  | [], a, b, M => a = b ∧ a.length ≤ M
  | c :: l, a, b, M => a.length ≤ M ∧ ∃ q, tyC c a = some q ∧ RUN l q b M
theorem run_len {l : List Nat} {a b : List Bool} {M : Nat} (h : RUN l a b M) : a.length ≤ M := by
  cases l with
  | nil => exact h.2
  | cons c l => exact h.1
theorem run_app {l l' : List Nat} {a b e : List Bool} {M : Nat} (h : RUN l a b M) (h' : RUN l' b e M) : RUN (l ++ l') a e M := by
  induction l generalizing a with
  | nil =>
    obtain ⟨rfl, _⟩ := h
    exact h'
  | cons c l ih =>
    obtain ⟨h1, q, h2, h3⟩ := h
    exact ⟨h1, q, h2, ih h3⟩
theorem run_one {c : Nat} {a b : List Bool} {M : Nat} (h : tyC c a = some b) (ha : a.length ≤ M) (hb : b.length ≤ M) : RUN [c] a b M := ⟨ha, b, h, rfl, hb⟩
theorem ty_num {v : Nat} {ts : List Bool} (h : v ≤ 9999) : tyC (1000 + v) ts = some (false :: ts) := by
  unfold tyC
  rw [if_pos (by omega), if_pos (by omega)]
theorem ty_789 {c : Nat} {ts : List Bool} (h : 7 ≤ c ∧ c ≤ 9) : tyC c ts = some (false :: ts) := by
  unfold tyC
  rw [if_neg (by omega), if_neg (by omega), if_neg (by omega), if_pos h]
theorem ty_sum {c : Nat} {ts : List Bool} (h : 1 ≤ c ∧ c ≤ 6) : tyC c (false :: false :: ts) = some (false :: ts) := by
  have : c = 1 ∨ c = 2 ∨ c = 3 ∨ c = 4 ∨ c = 5 ∨ c = 6 := by omega
  rcases this with rfl | rfl | rfl | rfl | rfl | rfl <;> rfl
theorem ty_cmp {c : Nat} {ts : List Bool} (h : 11 ≤ c ∧ c ≤ 13) : tyC c (false :: false :: ts) = some (true :: ts) := by
  have : c = 11 ∨ c = 12 ∨ c = 13 := by omega
  rcases this with rfl | rfl | rfl <;> rfl
theorem ty_bool {c : Nat} {ts : List Bool} (h : 14 ≤ c ∧ c ≤ 15) : tyC c (true :: true :: ts) = some (true :: ts) := by
  have : c = 14 ∨ c = 15 := by omega
  rcases this with rfl | rfl <;> rfl
theorem ty_not {ts : List Bool} : tyC 16 (true :: ts) = some (true :: ts) := rfl
theorem ty_all {ts : List Bool} : tyC 17 ts = some (true :: ts) := rfl
section TOK
variable {tx : Nat → Nat} {k : Nat} {x : PS}
theorem fl_nz {kd pl : Nat} (h : ¬ kd = 0) : ¬ (failS kd pl x).1 = 0 := by
  by_cases e : x.1 = 0
  · rw [failS_0 _ _ e]
    exact h
  · rw [failS_d _ _ e]
    exact e
/-- a piece is taken: where it ends -/
theorem adv_up (h0 : x.1 = 0) (hs : ¬ srS tx k x = 0) : (advS tx k x).1 = 0 ∧ x.2.2.1 + 1 ≤ (advS tx k x).2.2.1 ∧ (advS tx k x).2.2.1 ≤ k := by
  have e : advS tx k x = (0, 0, enS tx k x, tgl tx k x.2.2.1 x.2.2.2) := if_pos h0
  have t : ¬ tsr tx k x.2.2.1 x.2.2.2 = 0 := fun q => hs ((if_pos h0).trans q)
  have a : x.2.2.1 ≤ tq tx k x.2.2.1 := sq_ge _ _ _
  have b : tq tx k x.2.2.1 < k := by
    refine Nat.not_le.mp (fun q => t ?_)
    unfold tsr
    exact if_pos q
  rw [e]
  refine ⟨rfl, ?_, ?_⟩
  · show x.2.2.1 + 1 ≤ ten tx k x.2.2.1 x.2.2.2
    unfold ten
    rw [if_neg t]
    split
    · omega
    · exact Nat.le_trans (by omega) (sq_ge _ _ _)
  · show ten tx k x.2.2.1 x.2.2.2 ≤ k
    unfold ten
    rw [if_neg t]
    split
    · omega
    · exact sq_le (by omega)
theorem adv_dw (h : ¬ x.1 = 0) : advS tx k x = x := if_neg h
theorem sr_0 (h : ¬ x.1 = 0) : srS tx k x = 0 := if_neg h
theorem sr_alw (h : ¬ srS tx k x = 0) : x.1 = 0 := by
  by_cases e : x.1 = 0
  · exact e
  · exact absurd (sr_0 e) h
theorem isw_s {v : Nat} (h : iswS tx k v x = true) : ¬ srS tx k x = 0 := by
  have := (of_decide_eq_true h).1
  omega
theorem iss_s {c : Nat} (h : issS tx k c x = true) : ¬ srS tx k x = 0 := by
  have := (of_decide_eq_true h).1
  omega
theorem isn_s (h : isnS tx k x = true) : ¬ srS tx k x = 0 := by
  have := of_decide_eq_true h
  omega
/-- what is asked for is there -/
theorem rw_t {v : Nat} (h : (rwS tx k v x).1 = 0) : x.1 = 0 ∧ ¬ srS tx k x = 0 ∧ rwS tx k v x = advS tx k x := by
  by_cases y : iswS tx k v x = true
  · have e : rwS tx k v x = advS tx k x := if_pos y
    exact ⟨sr_alw (isw_s y), isw_s y, e⟩
  · have e : rwS tx k v x = failS 1 (stS tx k x) x := if_neg y
    rw [e] at h
    exact absurd h (fl_nz (by decide))
theorem rs_t {c : Nat} (h : (rsS tx k c x).1 = 0) : x.1 = 0 ∧ ¬ srS tx k x = 0 ∧ rsS tx k c x = advS tx k x := by
  by_cases y : issS tx k c x = true
  · have e : rsS tx k c x = advS tx k x := if_pos y
    exact ⟨sr_alw (iss_s y), iss_s y, e⟩
  · have e : rsS tx k c x = failS 1 (stS tx k x) x := if_neg y
    rw [e] at h
    exact absurd h (fl_nz (by decide))
theorem rn_t {lo hi : Nat} (h : (rnS tx k lo hi x).1 = 0) : x.1 = 0 ∧ ¬ srS tx k x = 0 ∧ rnS tx k lo hi x = advS tx k x := by
  by_cases y : isnS tx k x = true
  · have y0 := sr_alw (isn_s y)
    by_cases a : 4 < enS tx k x - stS tx k x
    · rw [rnS_l y a] at h
      exact absurd h (fl_nz (by decide))
    · by_cases b : tvS tx k x < lo ∨ hi < tvS tx k x
      · rw [rnS_o y a b] at h
        exact absurd h (fl_nz (by decide))
      · exact ⟨y0, isn_s y, rnS_k y a b⟩
  · rw [rnS_n y] at h
    exact absurd h (fl_nz (by decide))
end TOK
/-- a reading that leaves one number of a sort on the pile; s bytes are still owed -/
def GOOD (k : Nat) (ty : Bool) (m : Nat) (f : SX → SX) : Prop := (∀ x : SX, (f x).1.1 = 0 → x.1.1 = 0) ∧ ∀ (s : Nat) (x : SX), x.2.length + s ≤ x.1.2.2.1 → x.1.2.2.1 ≤ k → (f x).1.1 = 0 → x.1.1 = 0 ∧ (f x).2.length + s ≤ (f x).1.2.2.1 ∧ (f x).1.2.2.1 ≤ k ∧ ∃ l, (f x).2 = x.2 ++ l ∧ ∀ (ts : List Bool) (M : Nat), ts.length + m ≤ M → RUN l ts (ty :: ts) M
theorem put_ok {cs : List Nat} {c s e k : Nat} (h : cs.length + (s + 1) ≤ e) (he : e ≤ k) (hk : k ≤ 1600) : putS c cs = cs ++ [c] ∧ (putS c cs).length + s ≤ e := by
  have q : putS c cs = cs ++ [c] := if_pos (by omega)
  refine ⟨q, ?_⟩
  rw [q, List.length_append, List.length_singleton]
  omega
section GD
variable {tx : Nat → Nat} {k : Nat}
theorem bin_dead {part : SX → SX} {op : PS → Nat} (ho : ∀ x, ¬ op x = 0 → ¬ srS tx k x = 0) (n : Nat) {y : SX} (h : (binL tx k op part n y).1.1 = 0) : y.1.1 = 0 := by
  by_cases hy : y.1.1 = 0
  · exact hy
  · cases n with
    | zero => exact h
    | succ n =>
      have o : op y.1 = 0 := by
        by_cases o : op y.1 = 0
        · exact o
        · exact absurd (sr_0 hy) (ho y.1 o)
      have e2 : binL tx k op part (n + 1) y = y := if_pos o
      rw [e2] at h
      exact h
theorem run_end {l : List Nat} {a b : List Bool} {M : Nat} (h : RUN l a b M) : b.length ≤ M := by
  induction l generalizing a with
  | nil =>
    obtain ⟨rfl, h⟩ := h
    exact h
  | cons c l ih =>
    obtain ⟨_, q, _, h⟩ := h
    exact ih h
theorem bin_good (hk : k ≤ 1600) {ty : Bool} {m : Nat} {part : SX → SX} {op : PS → Nat} (hp : GOOD k ty m part) (ho : ∀ x, ¬ op x = 0 → ¬ srS tx k x = 0) (ht : ∀ x ts, ¬ op x = 0 → tyC (op x) (ty :: ty :: ts) = some (ty :: ts)) : ∀ (n : Nat) (s : Nat) (x : SX), x.2.length + s ≤ x.1.2.2.1 → x.1.2.2.1 ≤ k → (binL tx k op part n x).1.1 = 0 → x.1.1 = 0 ∧ (binL tx k op part n x).2.length + s ≤ (binL tx k op part n x).1.2.2.1 ∧ (binL tx k op part n x).1.2.2.1 ≤ k ∧ ∃ l, (binL tx k op part n x).2 = x.2 ++ l ∧ ∀ (ts : List Bool) (M : Nat), ts.length + 1 + m ≤ M → RUN l (ty :: ts) (ty :: ts) M := by
  have base : ∀ (s : Nat) (x y : SX), y = x → x.2.length + s ≤ x.1.2.2.1 → x.1.2.2.1 ≤ k → y.1.1 = 0 → x.1.1 = 0 ∧ y.2.length + s ≤ y.1.2.2.1 ∧ y.1.2.2.1 ≤ k ∧ ∃ l, y.2 = x.2 ++ l ∧ ∀ (ts : List Bool) (M : Nat), ts.length + 1 + m ≤ M → RUN l (ty :: ts) (ty :: ts) M := by
    intro s x y e h1 h2 h3
    subst e
    exact ⟨h3, h1, h2, [], (List.append_nil _).symm, fun ts M hM => ⟨rfl, by rw [List.length_cons]; omega⟩⟩
  intro n
  induction n with
  | zero =>
    intro s x h1 h2 h3
    exact base s x _ rfl h1 h2 h3
  | succ n ih =>
    intro s x h1 h2 h3
    by_cases c : op x.1 = 0
    · have e : binL tx k op part (n + 1) x = x := if_pos c
      exact base s x _ e h1 h2 h3
    · have e : binL tx k op part (n + 1) x = binL tx k op part n ((part (advS tx k x.1, x.2)).1, putS (op x.1) (part (advS tx k x.1, x.2)).2) := if_neg c
      rw [e] at h3 ⊢
      have hs := ho x.1 c
      have h0 := sr_alw hs
      obtain ⟨a1, a2, a3⟩ := adv_up h0 hs
      have al : (part (advS tx k x.1, x.2)).1.1 = 0 := bin_dead (y := ((part (advS tx k x.1, x.2)).1, putS (op x.1) (part (advS tx k x.1, x.2)).2)) ho n h3
      obtain ⟨b1, b2, b3, l1, b4, b5⟩ := hp.2 (s + 1) (advS tx k x.1, x.2) (show x.2.length + (s + 1) ≤ (advS tx k x.1).2.2.1 by omega) a3 al
      obtain ⟨p1, p2⟩ := put_ok (c := op x.1) b2 b3 hk
      obtain ⟨d1, d2, d3, l2, d4, d5⟩ := ih s ((part (advS tx k x.1, x.2)).1, putS (op x.1) (part (advS tx k x.1, x.2)).2) p2 b3 h3
      refine ⟨h0, d2, d3, l1 ++ ([op x.1] ++ l2), ?_, ?_⟩
      · rw [d4]
        show putS (op x.1) (part (advS tx k x.1, x.2)).2 ++ l2 = _
        rw [p1, b4]
        simp only [List.append_assoc]
      · intro ts M hM
        refine run_app (b5 (ty :: ts) M (by rw [List.length_cons]; omega)) (run_app (run_one (ht x.1 ts c) ?_ ?_) (d5 ts M hM))
        · exact run_end (b5 (ty :: ts) M (by rw [List.length_cons]; omega))
        · rw [List.length_cons]
          omega
theorem binf_good (hk : k ≤ 1600) {ty : Bool} {m : Nat} {part : SX → SX} {op : PS → Nat} (hp : GOOD k ty m part) (ho : ∀ x, ¬ op x = 0 → ¬ srS tx k x = 0) (ht : ∀ x ts, ¬ op x = 0 → tyC (op x) (ty :: ty :: ts) = some (ty :: ts)) : GOOD k ty (m + 1) (fun x => binL tx k op part 1600 (part x)) := by
  refine ⟨fun x h => hp.1 x (bin_dead ho 1600 h), fun s x h1 h2 h3 => ?_⟩
  have al : (part x).1.1 = 0 := bin_dead ho 1600 h3
  obtain ⟨b1, b2, b3, l1, b4, b5⟩ := hp.2 s x h1 h2 al
  obtain ⟨d1, d2, d3, l2, d4, d5⟩ := bin_good hk hp ho ht 1600 s (part x) b2 b3 h3
  refine ⟨b1, d2, d3, l1 ++ l2, ?_, fun ts M hM => run_app (b5 ts M (by omega)) (d5 ts M (by omega))⟩
  show (binL tx k op part 1600 (part x)).2 = _
  rw [d4, b4, List.append_assoc]
theorem opM_s {x : PS} (h : ¬ opM tx k x = 0) : ¬ srS tx k x = 0 := by
  unfold opM at h
  split at h
  · rename_i q; exact iss_s q
  · split at h
    · rename_i q; exact iss_s q
    · exact absurd rfl h
theorem opA_s {x : PS} (h : ¬ opA tx k x = 0) : ¬ srS tx k x = 0 := by
  unfold opA at h
  split at h
  · rename_i q; exact iss_s q
  · split at h
    · rename_i q; exact iss_s q
    · exact absurd rfl h
theorem opD_s {x : PS} (h : ¬ opD tx k x = 0) : ¬ srS tx k x = 0 := by
  unfold opD at h
  split at h
  · rename_i q; exact isw_s q
  · exact absurd rfl h
theorem opO_s {x : PS} (h : ¬ opO tx k x = 0) : ¬ srS tx k x = 0 := by
  unfold opO at h
  split at h
  · rename_i q; exact isw_s q
  · exact absurd rfl h
theorem opM_b {x : PS} : opM tx k x = 0 ∨ (1 ≤ opM tx k x ∧ opM tx k x ≤ 6) := by
  unfold opM
  split
  · exact Or.inr (by decide)
  · split
    · exact Or.inr (by decide)
    · exact Or.inl rfl
theorem opA_b {x : PS} : opA tx k x = 0 ∨ (1 ≤ opA tx k x ∧ opA tx k x ≤ 6) := by
  unfold opA
  split
  · exact Or.inr (by decide)
  · split
    · exact Or.inr (by decide)
    · exact Or.inl rfl
theorem opD_b {x : PS} : opD tx k x = 0 ∨ (14 ≤ opD tx k x ∧ opD tx k x ≤ 15) := by
  unfold opD
  split
  · exact Or.inr (by decide)
  · exact Or.inl rfl
theorem opO_b {x : PS} : opO tx k x = 0 ∨ (14 ≤ opO tx k x ∧ opO tx k x ≤ 15) := by
  unfold opO
  split
  · exact Or.inr (by decide)
  · exact Or.inl rfl
/-- a piece and its code -/
theorem lf_good (hk : k ≤ 1600) {ty : Bool} {s c : Nat} {x : SX} {y : PS} (h1 : x.2.length + s ≤ x.1.2.2.1) (h0 : x.1.1 = 0) (hs : ¬ srS tx k x.1 = 0) (hy : y = advS tx k x.1) (ht : ∀ ts, tyC c ts = some (ty :: ts)) : x.1.1 = 0 ∧ (putS c x.2).length + s ≤ y.2.2.1 ∧ y.2.2.1 ≤ k ∧ ∃ l, putS c x.2 = x.2 ++ l ∧ ∀ (ts : List Bool) (M : Nat), ts.length + 1 ≤ M → RUN l ts (ty :: ts) M := by
  obtain ⟨a1, a2, a3⟩ := adv_up h0 hs
  rw [hy]
  obtain ⟨p1, p2⟩ := put_ok (cs := x.2) (c := c) (s := s) (show x.2.length + (s + 1) ≤ (advS tx k x.1).2.2.1 by omega) a3 hk
  exact ⟨h0, p2, a3, [c], p1, fun ts M hM => run_one (ht ts) (by omega) (by rw [List.length_cons]; omega)⟩
/-- brackets: nothing more is laid -/
theorem par_good {ty : Bool} {m s c : Nat} {f : SX → SX} (hf : GOOD k ty m f) {x : SX} (h1 : x.2.length + s ≤ x.1.2.2.1) (h0 : x.1.1 = 0) (hs : ¬ srS tx k x.1 = 0) (h3 : (rsS tx k c (f (advS tx k x.1, x.2)).1).1 = 0) : x.1.1 = 0 ∧ (f (advS tx k x.1, x.2)).2.length + s ≤ (rsS tx k c (f (advS tx k x.1, x.2)).1).2.2.1 ∧ (rsS tx k c (f (advS tx k x.1, x.2)).1).2.2.1 ≤ k ∧ ∃ l, (f (advS tx k x.1, x.2)).2 = x.2 ++ l ∧ ∀ (ts : List Bool) (M : Nat), ts.length + m ≤ M → RUN l ts (ty :: ts) M := by
  obtain ⟨a1, a2, a3⟩ := adv_up h0 hs
  obtain ⟨r1, r2, r3⟩ := rs_t h3
  obtain ⟨b1, b2, b3, l, b4, b5⟩ := hf.2 s (advS tx k x.1, x.2) (show x.2.length + s ≤ (advS tx k x.1).2.2.1 by omega) a3 r1
  obtain ⟨e1, e2, e3⟩ := adv_up r1 r2
  rw [r3]
  exact ⟨h0, by omega, e3, l, b4, b5⟩
theorem pair_good (hk : k ≤ 1600) {m s c : Nat} (hc : 1 ≤ c ∧ c ≤ 6) {dp : Option (SX → SX)} (hd : ∀ f, dp = some f → GOOD k false m f) {x : SX} (h1 : x.2.length + (s + 1) ≤ x.1.2.2.1) (h3 : (pairF tx k dp c x).1.1 = 0) : x.1.1 = 0 ∧ (pairF tx k dp c x).2.length + s ≤ (pairF tx k dp c x).1.2.2.1 ∧ (pairF tx k dp c x).1.2.2.1 ≤ k ∧ ∃ l, (pairF tx k dp c x).2 = x.2 ++ l ∧ ∀ (ts : List Bool) (M : Nat), ts.length + (m + 2) ≤ M → RUN l ts (false :: ts) M := by
  by_cases y : issS tx k 40 x.1 = true
  · cases dp with
    | none =>
      have e : pairF tx k none c x = (failS 4 (stS tx k x.1) x.1, x.2) := if_pos y
      rw [e] at h3
      exact absurd h3 (fl_nz (by decide))
    | some f =>
      have e : pairF tx k (some f) c x = (rsS tx k 41 (f (rsS tx k 44 (f (advS tx k x.1, x.2)).1, (f (advS tx k x.1, x.2)).2)).1, putS c (f (rsS tx k 44 (f (advS tx k x.1, x.2)).1, (f (advS tx k x.1, x.2)).2)).2) := if_pos y
      rw [e] at h3 ⊢
      have hf := hd f rfl
      obtain ⟨r1, r2, r3⟩ := rs_t h3
      have hs := iss_s y
      have h0 := sr_alw hs
      obtain ⟨a1, a2, a3⟩ := adv_up h0 hs
      have q1 := hf.1 _ r1
      obtain ⟨q2, q3, q4⟩ := rs_t q1
      obtain ⟨b1, b2, b3, l1, b4, b5⟩ := hf.2 (s + 1) (advS tx k x.1, x.2) (show x.2.length + (s + 1) ≤ (advS tx k x.1).2.2.1 by omega) a3 q2
      obtain ⟨c1, c2, c3⟩ := adv_up q2 q3
      have hl : (rsS tx k 44 (f (advS tx k x.1, x.2)).1).2.2.1 = (advS tx k (f (advS tx k x.1, x.2)).1).2.2.1 := by rw [q4]
      obtain ⟨d1, d2, d3, l2, d4, d5⟩ := hf.2 (s + 1) (rsS tx k 44 (f (advS tx k x.1, x.2)).1, (f (advS tx k x.1, x.2)).2) (show (f (advS tx k x.1, x.2)).2.length + (s + 1) ≤ (rsS tx k 44 (f (advS tx k x.1, x.2)).1).2.2.1 by rw [hl]; omega) (show (rsS tx k 44 (f (advS tx k x.1, x.2)).1).2.2.1 ≤ k by rw [hl]; exact c3) r1
      obtain ⟨e1, e2, e3⟩ := adv_up r1 r2
      have hr : (rsS tx k 41 (f (rsS tx k 44 (f (advS tx k x.1, x.2)).1, (f (advS tx k x.1, x.2)).2)).1).2.2.1 = (advS tx k (f (rsS tx k 44 (f (advS tx k x.1, x.2)).1, (f (advS tx k x.1, x.2)).2)).1).2.2.1 := by rw [r3]
      obtain ⟨p1, p2⟩ := put_ok (c := c) d2 d3 hk
      refine ⟨h0, ?_, ?_, l1 ++ (l2 ++ [c]), ?_, ?_⟩
      · show (putS c _).length + s ≤ (rsS tx k 41 (f (rsS tx k 44 (f (advS tx k x.1, x.2)).1, (f (advS tx k x.1, x.2)).2)).1).2.2.1
        rw [hr]
        omega
      · show (rsS tx k 41 (f (rsS tx k 44 (f (advS tx k x.1, x.2)).1, (f (advS tx k x.1, x.2)).2)).1).2.2.1 ≤ k
        rw [hr]
        exact e3
      · show putS c _ = _
        rw [p1, d4]
        show ((f (advS tx k x.1, x.2)).2 ++ l2) ++ [c] = _
        rw [b4]
        simp only [List.append_assoc]
      · intro ts M hM
        refine run_app (b5 ts M (by omega)) (run_app (d5 (false :: ts) M (by rw [List.length_cons]; omega)) (run_one (ty_sum hc) (by rw [List.length_cons, List.length_cons]; omega) (by rw [List.length_cons]; omega)))
  · have e : pairF tx k dp c x = (failS 1 (stS tx k x.1) x.1, x.2) := if_neg y
    rw [e] at h3
    exact absurd h3 (fl_nz (by decide))
/-- a part of a sum -/
theorem part_good (hk : k ≤ 1600) {m : Nat} {dp : Option (SX → SX)} (hd : ∀ f, dp = some f → GOOD k false m f) : GOOD k false (m + 2) (partF tx k dp) := by
  have al : ∀ x : SX, (partF tx k dp x).1.1 = 0 → x.1.1 = 0 := by
    intro x h
    by_cases e : x.1.1 = 0
    · exact e
    · have z := sr_0 (tx := tx) (k := k) e
      have nn : ¬ isnS tx k x.1 = true := fun q => isn_s q z
      have nw : ∀ v, ¬ iswS tx k v x.1 = true := fun v q => isw_s q z
      have ns : ∀ c, ¬ issS tx k c x.1 = true := fun c q => iss_s q z
      have q : partF tx k dp x = (failS 1 (stS tx k x.1) x.1, x.2) := (if_neg nn).trans ((if_neg (nw _)).trans ((if_neg (nw _)).trans ((if_neg (nw _)).trans ((if_neg (nw _)).trans ((if_neg (nw _)).trans (if_neg (ns _)))))))
      rw [q] at h
      exact absurd h (fl_nz (by decide))
  refine ⟨al, fun s x h1 h2 h3 => ?_⟩
  have h0 := al x h3
  by_cases n : isnS tx k x.1 = true
  · have e : partF tx k dp x = (rnS tx k 0 9999 x.1, putS (1000 + rnV tx k 0 9999 x.1) x.2) := if_pos n
    rw [e] at h3 ⊢
    obtain ⟨_, b, c⟩ := rn_t h3
    obtain ⟨a1, a2, a3, l, a4, a5⟩ := lf_good (ty := false) (y := rnS tx k 0 9999 x.1) hk h1 h0 b c (fun ts => ty_num (rnV_le (tx := tx) (k := k) (x := x.1) (lo := 0) (hi := 9999) (by decide) (by decide)))
    exact ⟨a1, a2, a3, l, a4, fun ts M hM => a5 ts M (by omega)⟩
  · by_cases w28 : iswS tx k 28 x.1 = true
    · have e : partF tx k dp x = (advS tx k x.1, putS 7 x.2) := (if_neg n).trans (if_pos w28)
      rw [e]
      obtain ⟨a1, a2, a3, l, a4, a5⟩ := lf_good (ty := false) (c := 7) hk h1 h0 (isw_s w28) rfl (fun ts => ty_789 (by decide))
      exact ⟨a1, a2, a3, l, a4, fun ts M hM => a5 ts M (by omega)⟩
    · by_cases w29 : iswS tx k 29 x.1 = true
      · have e : partF tx k dp x = (advS tx k x.1, putS 8 x.2) := (if_neg n).trans ((if_neg w28).trans (if_pos w29))
        rw [e]
        obtain ⟨a1, a2, a3, l, a4, a5⟩ := lf_good (ty := false) (c := 8) hk h1 h0 (isw_s w29) rfl (fun ts => ty_789 (by decide))
        exact ⟨a1, a2, a3, l, a4, fun ts M hM => a5 ts M (by omega)⟩
      · by_cases w30 : iswS tx k 30 x.1 = true
        · have e : partF tx k dp x = (advS tx k x.1, putS 9 x.2) := (if_neg n).trans ((if_neg w28).trans ((if_neg w29).trans (if_pos w30)))
          rw [e]
          obtain ⟨a1, a2, a3, l, a4, a5⟩ := lf_good (ty := false) (c := 9) hk h1 h0 (isw_s w30) rfl (fun ts => ty_789 (by decide))
          exact ⟨a1, a2, a3, l, a4, fun ts M hM => a5 ts M (by omega)⟩
        · by_cases w31 : iswS tx k 31 x.1 = true
          · have e : partF tx k dp x = pairF tx k dp 5 (advS tx k x.1, x.2) := (if_neg n).trans ((if_neg w28).trans ((if_neg w29).trans ((if_neg w30).trans (if_pos w31))))
            rw [e] at h3 ⊢
            obtain ⟨a1, a2, a3⟩ := adv_up h0 (isw_s w31)
            obtain ⟨_, b2, b3, l, b4, b5⟩ := pair_good (m := m) (s := s) (c := 5) hk (by decide) hd (x := (advS tx k x.1, x.2)) (show x.2.length + (s + 1) ≤ (advS tx k x.1).2.2.1 by omega) h3
            exact ⟨h0, b2, b3, l, b4, b5⟩
          · by_cases w32 : iswS tx k 32 x.1 = true
            · have e : partF tx k dp x = pairF tx k dp 6 (advS tx k x.1, x.2) := (if_neg n).trans ((if_neg w28).trans ((if_neg w29).trans ((if_neg w30).trans ((if_neg w31).trans (if_pos w32)))))
              rw [e] at h3 ⊢
              obtain ⟨a1, a2, a3⟩ := adv_up h0 (isw_s w32)
              obtain ⟨_, b2, b3, l, b4, b5⟩ := pair_good (m := m) (s := s) (c := 6) hk (by decide) hd (x := (advS tx k x.1, x.2)) (show x.2.length + (s + 1) ≤ (advS tx k x.1).2.2.1 by omega) h3
              exact ⟨h0, b2, b3, l, b4, b5⟩
            · by_cases y : issS tx k 40 x.1 = true
              · cases dp with
                | none =>
                  have e : partF tx k none x = (failS 4 (stS tx k x.1) x.1, x.2) := (if_neg n).trans ((if_neg w28).trans ((if_neg w29).trans ((if_neg w30).trans ((if_neg w31).trans ((if_neg w32).trans (if_pos y))))))
                  rw [e] at h3
                  exact absurd h3 (fl_nz (by decide))
                | some f =>
                  have e : partF tx k (some f) x = (rsS tx k 41 (f (advS tx k x.1, x.2)).1, (f (advS tx k x.1, x.2)).2) := (if_neg n).trans ((if_neg w28).trans ((if_neg w29).trans ((if_neg w30).trans ((if_neg w31).trans ((if_neg w32).trans (if_pos y))))))
                  rw [e] at h3 ⊢
                  obtain ⟨a1, a2, a3, l, a4, a5⟩ := par_good (hd f rfl) h1 h0 (iss_s y) h3
                  exact ⟨a1, a2, a3, l, a4, fun ts M hM => a5 ts M (by omega)⟩
              · have e : partF tx k dp x = (failS 1 (stS tx k x.1) x.1, x.2) := (if_neg n).trans ((if_neg w28).trans ((if_neg w29).trans ((if_neg w30).trans ((if_neg w31).trans ((if_neg w32).trans (if_neg y))))))
                rw [e] at h3
                exact absurd h3 (fl_nz (by decide))
theorem sum_good (hk : k ≤ 1600) {m : Nat} {dp : Option (SX → SX)} (hd : ∀ f, dp = some f → GOOD k false m f) : GOOD k false (m + 4) (sumF tx k dp) := by
  have a : GOOD k false (m + 3) (prodF tx k dp) := binf_good hk (part_good hk hd) (fun _ => opM_s) (fun x ts h => ty_sum (opM_b.resolve_left h))
  exact binf_good hk a (fun _ => opA_s) (fun x ts h => ty_sum (opA_b.resolve_left h))
theorem sumE_good (hk : k ≤ 1600) : ∀ e, GOOD k false (4 * e + 4) (sumE tx k e) := by
  intro e
  induction e with
  | zero => exact sum_good (m := 0) hk (fun f h => by cases h)
  | succ e ih =>
    exact sum_good (m := 4 * e + 4) hk (fun f h => by cases h; exact ih)
theorem test_good (hk : k ≤ 1600) {m : Nat} {f : SX → SX} (hf : GOOD k true m f) : GOOD k true (m + 2) (testF tx k f) := by
  have a : GOOD k true (m + 1) (bothF tx k f) := binf_good hk hf (fun _ => opD_s) (fun x ts h => ty_bool (opD_b.resolve_left h))
  exact binf_good hk a (fun _ => opO_s) (fun x ts h => ty_bool (opO_b.resolve_left h))
theorem cmp_b {x : PS} : 11 ≤ cmpC tx k x ∧ cmpC tx k x ≤ 13 := by
  unfold cmpC
  split
  · decide
  · split <;> decide
theorem fact_good (hk : k ≤ 1600) {m e : Nat} (hm : 4 * e + 5 ≤ m) {dp : Option (SX → SX)} (hd : ∀ f, dp = some f → ∃ m', m' + 2 ≤ m ∧ GOOD k true m' f) : GOOD k true m (factF tx k e dp) := by
  have hE := sumE_good (tx := tx) hk e
  have al : ∀ x : SX, (factF tx k e dp x).1.1 = 0 → x.1.1 = 0 := by
    intro x h
    by_cases a : iswS tx k 26 x.1 = true
    · exact sr_alw (isw_s a)
    · by_cases b : issS tx k 91 x.1 = true
      · exact sr_alw (iss_s b)
      · by_cases c : iswS tx k 27 x.1 = true
        · exact sr_alw (isw_s c)
        · have q : factF tx k e dp x = ((sumE tx k e (rsS tx k (cmpG tx k (sumE tx k e x).1) (sumE tx k e x).1, (sumE tx k e x).2)).1, putS (cmpC tx k (sumE tx k e x).1) (sumE tx k e (rsS tx k (cmpG tx k (sumE tx k e x).1) (sumE tx k e x).1, (sumE tx k e x).2)).2) := (if_neg a).trans ((if_neg b).trans (if_neg c))
          rw [q] at h
          exact hE.1 _ (rs_t (hE.1 _ h)).1
  refine ⟨al, fun s x h1 h2 h3 => ?_⟩
  have h0 := al x h3
  by_cases a : iswS tx k 26 x.1 = true
  · cases dp with
    | none =>
      have q : factF tx k e none x = (failS 4 (stS tx k x.1) x.1, x.2) := if_pos a
      rw [q] at h3
      exact absurd h3 (fl_nz (by decide))
    | some f =>
      have q : factF tx k e (some f) x = ((f (advS tx k x.1, x.2)).1, putS 16 (f (advS tx k x.1, x.2)).2) := if_pos a
      rw [q] at h3 ⊢
      obtain ⟨m', hm', hf⟩ := hd f rfl
      obtain ⟨a1, a2, a3⟩ := adv_up h0 (isw_s a)
      obtain ⟨b1, b2, b3, l, b4, b5⟩ := hf.2 (s + 1) (advS tx k x.1, x.2) (show x.2.length + (s + 1) ≤ (advS tx k x.1).2.2.1 by omega) a3 h3
      obtain ⟨p1, p2⟩ := put_ok (c := 16) b2 b3 hk
      refine ⟨h0, p2, b3, l ++ [16], ?_, fun ts M hM => run_app (b5 ts M (by omega)) (run_one ty_not (by rw [List.length_cons]; omega) (by rw [List.length_cons]; omega))⟩
      show putS 16 _ = _
      rw [p1, b4, List.append_assoc]
  · by_cases b : issS tx k 91 x.1 = true
    · cases dp with
      | none =>
        have q : factF tx k e none x = (failS 4 (stS tx k x.1) x.1, x.2) := (if_neg a).trans (if_pos b)
        rw [q] at h3
        exact absurd h3 (fl_nz (by decide))
      | some f =>
        have q : factF tx k e (some f) x = (rsS tx k 93 (testF tx k f (advS tx k x.1, x.2)).1, (testF tx k f (advS tx k x.1, x.2)).2) := (if_neg a).trans (if_pos b)
        rw [q] at h3 ⊢
        obtain ⟨m', hm', hf⟩ := hd f rfl
        obtain ⟨a1, a2, a3, l, a4, a5⟩ := par_good (test_good hk hf) h1 h0 (iss_s b) h3
        exact ⟨a1, a2, a3, l, a4, fun ts M hM => a5 ts M (by omega)⟩
    · by_cases c : iswS tx k 27 x.1 = true
      · have q : factF tx k e dp x = (advS tx k x.1, putS 17 x.2) := (if_neg a).trans ((if_neg b).trans (if_pos c))
        rw [q]
        obtain ⟨a1, a2, a3, l, a4, a5⟩ := lf_good (ty := true) (c := 17) hk h1 h0 (isw_s c) rfl (fun ts => ty_all)
        exact ⟨a1, a2, a3, l, a4, fun ts M hM => a5 ts M (by omega)⟩
      · have q : factF tx k e dp x = ((sumE tx k e (rsS tx k (cmpG tx k (sumE tx k e x).1) (sumE tx k e x).1, (sumE tx k e x).2)).1, putS (cmpC tx k (sumE tx k e x).1) (sumE tx k e (rsS tx k (cmpG tx k (sumE tx k e x).1) (sumE tx k e x).1, (sumE tx k e x).2)).2) := (if_neg a).trans ((if_neg b).trans (if_neg c))
        rw [q] at h3 ⊢
        have r1 := hE.1 _ h3
        obtain ⟨r2, r3, r4⟩ := rs_t r1
        obtain ⟨a1, a2, a3, l1, a4, a5⟩ := hE.2 s x h1 h2 r2
        obtain ⟨c1, c2, c3⟩ := adv_up r2 r3
        have hl : (rsS tx k (cmpG tx k (sumE tx k e x).1) (sumE tx k e x).1).2.2.1 = (advS tx k (sumE tx k e x).1).2.2.1 := by rw [r4]
        obtain ⟨d1, d2, d3, l2, d4, d5⟩ := hE.2 (s + 1) (rsS tx k (cmpG tx k (sumE tx k e x).1) (sumE tx k e x).1, (sumE tx k e x).2) (show (sumE tx k e x).2.length + (s + 1) ≤ (rsS tx k (cmpG tx k (sumE tx k e x).1) (sumE tx k e x).1).2.2.1 by rw [hl]; omega) (show (rsS tx k (cmpG tx k (sumE tx k e x).1) (sumE tx k e x).1).2.2.1 ≤ k by rw [hl]; exact c3) h3
        obtain ⟨p1, p2⟩ := put_ok (c := cmpC tx k (sumE tx k e x).1) d2 d3 hk
        refine ⟨h0, p2, d3, l1 ++ (l2 ++ [cmpC tx k (sumE tx k e x).1]), ?_, ?_⟩
        · show putS _ _ = _
          rw [p1, d4]
          show ((sumE tx k e x).2 ++ l2) ++ _ = _
          rw [a4]
          simp only [List.append_assoc]
        · intro ts M hM
          exact run_app (a5 ts M (by omega)) (run_app (d5 (false :: ts) M (by rw [List.length_cons]; omega)) (run_one (ty_cmp cmp_b) (by rw [List.length_cons, List.length_cons]; omega) (by rw [List.length_cons]; omega)))
theorem factE_good (hk : k ≤ 1600) : ∀ e, GOOD k true (4 * e + 5) (factE tx k e) := by
  intro e
  induction e with
  | zero => exact fact_good (e := 0) hk (by omega) (fun f h => by cases h)
  | succ e ih => exact fact_good (e := e + 1) hk (by omega) (fun f h => by cases h; exact ⟨4 * e + 5, by omega, ih⟩)
end GD
