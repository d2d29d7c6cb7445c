/-! what stands next, once found -/
section CLL
variable {tx : Nat → Nat} {k p g q e : Nat} {le : Int64} {wo nu si : Int32} {ww : Nat → Int64}
theorem cl_end (hq : tq tx k p = q) (h : k ≤ q) : CL tx k p g q q 0 le wo nu si := by
  have t : tsr tx k p g = 0 := by
    unfold tsr
    rw [hq, if_pos h]
  refine ⟨?_, hq.symm, ?_, fun a => absurd t a, fun a => absurd (t.symm.trans a) (by decide), fun a => absurd (t.symm.trans a) (by decide)⟩
  · unfold ten
    rw [t, if_pos rfl, hq]
  · rw [t]
    rfl
theorem cl_sign (hq : tq tx k p = q) (h : q < k) (hs : (g = 1 ∧ q = p) ∨ srt (tx q) = 3) (hsi : si = nI (tx q)) : CL tx k p g (q + 1) q 3 le wo nu si := by
  have t : tsr tx k p g = 3 := by
    unfold tsr
    rw [hq, if_neg (by omega)]
    rcases hs with hs | hs
    · rw [if_pos hs]
    · rw [hs]
      split <;> rfl
  refine ⟨?_, hq.symm, ?_, fun _ => by rw [hq]; exact hsi, fun a => absurd (t.symm.trans a) (by decide), fun a => absurd (t.symm.trans a) (by decide)⟩
  · unfold ten
    rw [t, if_neg (by decide), if_pos rfl, hq]
  · rw [t]
    rfl
theorem tsr_w (hq : tq tx k p = q) (h : q < k) (hg : ¬ (g = 1 ∧ q = p)) : tsr tx k p g = srt (tx q) := by
  unfold tsr
  rw [hq, if_neg (by omega), if_neg hg]
theorem ten_w {s : Nat} (hq : tq tx k p = q) (t : tsr tx k p g = s) (h0 : ¬ s = 0) (h3 : ¬ s = 3) (hall : ∀ i, q ≤ i → i < e → srt (tx i) = s) (he : q < e) (hk : e ≤ k) (hx : ¬ (e < k ∧ srt (tx e) = s)) : ten tx k p g = e := by
  unfold ten
  rw [t, if_neg h0, if_neg h3, hq]
  exact sq_eq (by omega) (fun i a b => ⟨by omega, decide_eq_true (hall i (by omega) b)⟩) (fun a => hx ⟨a.1, of_decide_eq_true a.2⟩)
theorem pk5_app (l : List Nat) (a : Nat) : pk5 (l ++ [a]) = pk5 l + a * 32 ^ l.length := by
  induction l with
  | nil => simp only [List.nil_append, pk5, List.length_nil]; omega
  | cons c l ih =>
    simp only [List.cons_append, pk5, List.length_cons, ih, Nat.pow_succ]
    have e : 32 * (a * 32 ^ l.length) = a * (32 ^ l.length * 32) := by rw [Nat.mul_left_comm, Nat.mul_comm 32]
    rw [Nat.mul_add, e]
    omega
theorem pkn_pk (b : Nat → Nat) (q j : Nat) : pkn b q j = pk5 ((List.range j).map (fun i => b (q + i) - 96)) := by
  induction j with
  | zero => rfl
  | succ j ih => rw [List.range_succ, List.map_append, List.map_singleton, pk5_app, pkn, ih, List.length_map, List.length_range]
theorem pk5_inj {l m : List Nat} (hl : ∀ a ∈ l, 0 < a ∧ a < 32) (hm : ∀ a ∈ m, 0 < a ∧ a < 32) (h : pk5 l = pk5 m) : l = m := by
  induction l generalizing m with
  | nil =>
    cases m with
    | nil => rfl
    | cons a m =>
      have := hm a List.mem_cons_self
      simp only [pk5] at h
      omega
  | cons c l ih =>
    cases m with
    | nil =>
      have := hl c List.mem_cons_self
      simp only [pk5] at h
      omega
    | cons a m =>
      have h1 := hl c List.mem_cons_self
      have h2 := hm a List.mem_cons_self
      simp only [pk5] at h
      have e1 : c = a := by omega
      have e2 : pk5 l = pk5 m := by omega
      rw [e1, ih (fun x hx => hl x (List.mem_cons_of_mem _ hx)) (fun x hx => hm x (List.mem_cons_of_mem _ hx)) e2]
theorem ow_ok (w : Nat) (h : w < 33) : (owf w).length ≤ 7 ∧ ∀ a ∈ owf w, 0 < a ∧ a < 32 := by
  have : ∀ w, w < 33 → (owf w).length ≤ 7 ∧ ∀ a ∈ owf w, 0 < a ∧ a < 32 := by decide
  exact this w h
theorem pk5_lt {l : List Nat} (h : ∀ a ∈ l, 0 < a ∧ a < 32) : pk5 l < 32 ^ l.length := by
  induction l with
  | nil => decide
  | cons a l ih =>
    have h1 := h a List.mem_cons_self
    have h2 := ih (fun x hx => h x (List.mem_cons_of_mem _ hx))
    simp only [pk5, List.length_cons, Nat.pow_succ]
    omega
theorem nL_eq {a c : Nat} (ha : a < 2 ^ 63) (hc : c < 2 ^ 63) (h : nL a = nL c) : a = c := by
  have := congrArg Int64.toInt h
  simp only [nL] at this
  rw [Int64.toInt_ofNat_of_lt ha, Int64.toInt_ofNat_of_lt hc] at this
  omega
theorem tl_of (b : Nat → Nat) (q e n : Nat) (h : n ≤ e - q) : (tl b q e).take n = (List.range n).map (fun i => b (q + i) - 96) := by
  unfold tl
  rw [← List.map_take, List.take_range, Nat.min_eq_left h]
theorem own_iff (h : ∀ i, q ≤ i → i < e → 97 ≤ tx i ∧ tx i ≤ 122) {w : Nat} (hw : w < 33) : nL (pk5 (owf w)) = nL (pkn tx q (min 12 (e - q))) ↔ tl tx q e = owf w := by
  obtain ⟨o1, o2⟩ := ow_ok w hw
  have hlen : (tl tx q e).length = e - q := by rw [tl, List.length_map, List.length_range]
  have hmem : ∀ a ∈ tl tx q e, 0 < a ∧ a < 32 := by
    intro a ha
    obtain ⟨i, hi, rfl⟩ := List.mem_map.mp ha
    have := List.mem_range.mp hi
    have := h (q + i) (by omega) (by omega)
    omega
  have hp : pkn tx q (min 12 (e - q)) = pk5 ((tl tx q e).take (min 12 (e - q))) := by rw [pkn_pk, tl_of _ _ _ _ (Nat.min_le_right _ _)]
  have hmt : ∀ a ∈ (tl tx q e).take (min 12 (e - q)), 0 < a ∧ a < 32 := fun a ha => hmem a (List.mem_of_mem_take ha)
  have hlt : (tl tx q e).take (min 12 (e - q)) = owf w → tl tx q e = owf w := by
    intro c
    have hl : ((tl tx q e).take (min 12 (e - q))).length = min 12 (e - q) := by rw [List.length_take, hlen]; omega
    rw [c] at hl
    have : min 12 (e - q) = e - q := by omega
    rw [this, ← hlen, List.take_length] at c
    exact c
  constructor
  · intro c
    have b1 : pk5 (owf w) < 2 ^ 63 := Nat.lt_of_lt_of_le (pk5_lt o2) (Nat.le_trans (Nat.pow_le_pow_right (by decide) o1) (by decide))
    have b2 : pk5 ((tl tx q e).take (min 12 (e - q))) < 2 ^ 63 := Nat.lt_of_lt_of_le (pk5_lt hmt) (Nat.le_trans (Nat.pow_le_pow_right (by decide) (show _ ≤ 12 by rw [List.length_take]; omega)) (by decide))
    rw [hp] at c
    exact hlt (pk5_inj o2 hmt (nL_eq b1 b2 c)).symm
  · intro c
    rw [hp]
    have : min 12 (e - q) = e - q := by
      have : e - q ≤ 7 := by rw [← hlen, c]; exact o1
      omega
    rw [this, ← hlen, List.take_length, c]
theorem wl_iff (hW : ∀ w, w < 33 → ww w = nL (pk5 (owf w))) (v : Int64) (n : Nat) (hn : n ≤ 33) : (wlF ww v n = -1 ∨ ∃ w, w < n ∧ wlF ww v n = nI w) ∧ ∀ w, w < n → (wlF ww v n = nI w → ww w = v) := by
  induction n with
  | zero => exact ⟨Or.inl rfl, fun w h => absurd h (by omega)⟩
  | succ n ih =>
    obtain ⟨i1, i2⟩ := ih (by omega)
    by_cases c : ww n = v
    · have e : wlF ww v (n + 1) = nI n := if_pos c
      refine ⟨Or.inr ⟨n, by omega, e⟩, fun w hw h => ?_⟩
      rw [e] at h
      have := (nI_eq (a := n) (b := w) (by omega) (by omega)).mp h
      rw [← this]
      exact c
    · have e : wlF ww v (n + 1) = wlF ww v n := if_neg c
      rw [e]
      refine ⟨i1.imp id (fun ⟨w, a, b⟩ => ⟨w, by omega, b⟩), fun w hw h => ?_⟩
      by_cases hx : w < n
      · exact i2 w hx h
      · rcases i1 with i1 | ⟨w', a, b⟩
        · exact absurd (i1.symm.trans h).symm (nI_nm1 (by omega))
        · have := (nI_eq (by omega) (by omega)).mp (b.symm.trans h)
          omega
theorem wl_hit (v : Int64) (n w : Nat) (hw : w < n) (h : ww w = v) (hu : ∀ w', w' < n → ww w' = v → w' = w) : wlF ww v n = nI w := by
  induction n with
  | zero => omega
  | succ n ih =>
    by_cases c : ww n = v
    · have := hu n (by omega) c
      rw [this]
      exact if_pos (this ▸ c)
    · have e : wlF ww v (n + 1) = wlF ww v n := if_neg c
      rw [e]
      exact ih (by
        by_cases q : w = n
        · rw [q] at h
          exact absurd h c
        · omega) (fun w' a b => hu w' (by omega) b)
theorem ow_inj {a c : Nat} (ha : a < 33) (hc : c < 33) (h : owf a = owf c) : a = c := by
  have : ∀ a, a < 33 → ∀ c, c < 33 → owf a = owf c → a = c := by decide
  exact this a ha c hc h
theorem cl_word (hq : tq tx k p = q) (h : e ≤ k) (hg : ¬ (g = 1 ∧ q = p)) (hall : ∀ i, q ≤ i → i < e → srt (tx i) = 1) (he : q < e) (hx : ¬ (e < k ∧ srt (tx e) = 1)) (hW : ∀ w, w < 33 → ww w = nL (pk5 (owf w))) (hl : le = nL (pkn tx q (min 12 (e - q)))) (hwo : wo = wlF ww le 33) (hsi : si = nI (tx q)) : CL tx k p g e q 1 le wo nu si := by
  have t : tsr tx k p g = 1 := (tsr_w hq (by omega) hg).trans (hall q (Nat.le_refl _) he)
  have te := ten_w hq t (by decide) (by decide) hall he h hx
  have hlet : ∀ i, q ≤ i → i < e → 97 ≤ tx i ∧ tx i ≤ 122 := fun i a b => srt_1' (hall i a b)
  refine ⟨te.symm, hq.symm, by rw [t]; rfl, fun _ => by rw [hq]; exact hsi, fun _ => ?_, fun a => absurd (t.symm.trans a) (by decide)⟩
  rw [te, hq]
  refine ⟨hl, fun w hw => ?_, ?_⟩
  · have key := own_iff hlet hw
    rw [← hW w hw, ← hl] at key
    rw [hwo]
    constructor
    · exact fun a => key.mp ((wl_iff hW le 33 (Nat.le_refl _)).2 w hw a)
    · intro a
      refine wl_hit le 33 w hw (key.mpr a) (fun w' hw' b => ?_)
      have key' := own_iff hlet hw'
      rw [← hW w' hw', ← hl] at key'
      exact ow_inj hw' hw ((key'.mp b).symm.trans a)
  · rw [hwo]
    exact (wl_iff hW le 33 (Nat.le_refl _)).1
theorem cl_num (hq : tq tx k p = q) (h : e ≤ k) (hg : ¬ (g = 1 ∧ q = p)) (hall : ∀ i, q ≤ i → i < e → srt (tx i) = 2) (he : q < e) (hx : ¬ (e < k ∧ srt (tx e) = 2)) (hn : nu = nI (tvn tx q (min 4 (e - q)))) (hsi : si = nI (tx q)) : CL tx k p g e q 2 le wo nu si := by
  have t : tsr tx k p g = 2 := (tsr_w hq (by omega) hg).trans (hall q (Nat.le_refl _) he)
  have te := ten_w hq t (by decide) (by decide) hall he h hx
  refine ⟨te.symm, hq.symm, by rw [t]; rfl, fun _ => by rw [hq]; exact hsi, fun a => absurd (t.symm.trans a) (by decide), fun _ => ?_⟩
  rw [te, hq]
  exact hn
end CLL
theorem gl_1 {so : Int32} {s0 : Nat} (hs : so = nI s0) (h3 : s0 ≤ 3) (c : so = 1) : (if s0 = 1 ∨ s0 = 2 then 1 else 0) = 1 := if_pos (Or.inl ((nI_eq (b := 1) (by omega) (by decide)).mp (hs.symm.trans c)))
theorem gl_2 {so : Int32} {s0 : Nat} (hs : so = nI s0) (h3 : s0 ≤ 3) (c : so = 2) : (if s0 = 1 ∨ s0 = 2 then 1 else 0) = 1 := if_pos (Or.inr ((nI_eq (b := 2) (by omega) (by decide)).mp (hs.symm.trans c)))
theorem gl_0 {so : Int32} {s0 : Nat} (hs : so = nI s0) (c : ¬ so = 1) (d : ¬ so = 2) : (if s0 = 1 ∨ s0 = 2 then 1 else 0) = 0 := if_neg (fun h => by
  rcases h with h | h
  · exact c (by rw [hs, h]; rfl)
  · exact d (by rw [hs, h]; rfl))
/-! what is asked of it -/
section CRQ
variable {tx : Nat → Nat} {k : Nat} {x : PS} {fa pl : Int32} {ra rs : Nat} {so : Int32} {le : Int64} {wo nu si : Int32}
theorem cr_so1 (h : CR tx k x fa pl ra rs so le wo nu si) {s : Nat} (hs : s ≤ 3) : so = nI s ↔ srS tx k x = s := by
  rw [cr_so h]
  have := srS_le (tx := tx) (k := k) x
  exact nI_eq (by omega) (by omega)
theorem cr_al (h : CR tx k x fa pl ra rs so le wo nu si) (hs : ¬ srS tx k x = 0) : x.1 = 0 ∧ pl = -1 ∧ x.2.2.1 ≤ k ∧ CL tx k x.2.2.1 x.2.2.2 ra rs so le wo nu si ∧ srS tx k x = tsr tx k x.2.2.1 x.2.2.2 := by
  obtain ⟨_, _, d | d⟩ := h
  · exact ⟨d.1, d.2.1, d.2.2.1, d.2.2.2, if_pos d.1⟩
  · exact absurd (if_neg d.1) hs
theorem cr_isw (h : CR tx k x fa pl ra rs so le wo nu si) {v : Nat} (hv : v < 33) : iswS tx k v x = true ↔ so = 1 ∧ wo = nI v := by
  unfold iswS
  rw [decide_eq_true_iff]
  constructor
  · rintro ⟨a, b⟩
    obtain ⟨_, _, _, c, e⟩ := cr_al h (by omega)
    exact ⟨(cr_so1 h (s := 1) (by decide)).mpr a, ((c.2.2.2.2.1 (e.symm.trans a)).2.1 v hv).mpr b⟩
  · rintro ⟨a, b⟩
    have s := (cr_so1 h (s := 1) (by decide)).mp a
    obtain ⟨_, _, _, c, e⟩ := cr_al h (by omega)
    exact ⟨s, ((c.2.2.2.2.1 (e.symm.trans s)).2.1 v hv).mp b⟩
theorem cr_iss (hB : ∀ j, tx j < 256) (h : CR tx k x fa pl ra rs so le wo nu si) {v : Nat} (hv : v < 256) : issS tx k v x = true ↔ so = 3 ∧ si = nI v := by
  unfold issS
  rw [decide_eq_true_iff]
  constructor
  · rintro ⟨a, b⟩
    obtain ⟨_, _, _, c, e⟩ := cr_al h (by omega)
    refine ⟨(cr_so1 h (s := 3) (by decide)).mpr a, ?_⟩
    rw [c.2.2.2.1 (by omega)]
    exact congrArg nI b
  · rintro ⟨a, b⟩
    have s := (cr_so1 h (s := 3) (by decide)).mp a
    obtain ⟨_, _, _, c, e⟩ := cr_al h (by omega)
    refine ⟨s, ?_⟩
    rw [c.2.2.2.1 (by omega)] at b
    have := hB (tq tx k x.2.2.1)
    have := hB (stS tx k x)
    exact (nI_eq (by omega) (by omega)).mp b
theorem cr_isn (h : CR tx k x fa pl ra rs so le wo nu si) : isnS tx k x = true ↔ so = 2 := by
  unfold isnS
  rw [decide_eq_true_iff]
  exact (cr_so1 h (s := 2) (by decide)).symm
theorem cr_iso (h : CR tx k x fa pl ra rs so le wo nu si) : isoS tx k x = true ↔ so = 1 ∧ wo = -1 := by
  rw [isoS_iff]
  constructor
  · rintro ⟨a, b⟩
    obtain ⟨_, _, _, c, e⟩ := cr_al h (by omega)
    obtain ⟨_, c1, c2⟩ := c.2.2.2.2.1 (e.symm.trans a)
    refine ⟨(cr_so1 h (s := 1) (by decide)).mpr a, ?_⟩
    rcases c2 with c2 | ⟨w, hw, c2⟩
    · exact c2
    · exact absurd ((c1 w hw).mp c2) (b w hw)
  · rintro ⟨a, b⟩
    have s := (cr_so1 h (s := 1) (by decide)).mp a
    obtain ⟨_, _, _, c, e⟩ := cr_al h (by omega)
    obtain ⟨_, c1, c2⟩ := c.2.2.2.2.1 (e.symm.trans s)
    refine ⟨s, fun w hw q => ?_⟩
    have := (c1 w hw).mpr q
    rw [b] at this
    exact absurd this.symm (nI_nm1 (by omega))
theorem cr_st (h : CR tx k x fa pl ra rs so le wo nu si) (hs : ¬ srS tx k x = 0) : rs = stS tx k x ∧ ra = enS tx k x := by
  obtain ⟨_, _, _, c, _⟩ := cr_al h hs
  exact ⟨c.2.1, c.1⟩
/-- the place of a fault is the place of what stands next -/
theorem cr_fl (h : CR tx k x fa pl ra rs so le wo nu si) {y : PS} (hy : ¬ x.1 = 0 → ¬ y.1 = 0) (kd j : Nat) : failS kd (rs + j) y = failS kd (stS tx k x + j) y := by
  by_cases e : y.1 = 0
  · obtain ⟨_, _, d | d⟩ := h
    · rw [show rs = stS tx k x from d.2.2.2.2.1]
    · exact absurd e (hy d.1)
  · rw [failS_d _ _ e, failS_d _ _ e]
theorem cr_f0 (h : CR tx k x fa pl ra rs so le wo nu si) (kd : Nat) : failS kd rs x = failS kd (stS tx k x) x := cr_fl h id kd 0
end CRQ
theorem fail_d {kd pl : Nat} {x : PS} (h : ¬ x.1 = 0) : ¬ (failS kd pl x).1 = 0 := by
  rw [failS_d _ _ h]
  exact h
/-! numbers and names -/
def rnV (tx : Nat → Nat) (k lo hi : Nat) (x : PS) : Nat := if isnS tx k x = true ∧ ¬ 4 < enS tx k x - stS tx k x ∧ ¬ (tvS tx k x < lo ∨ hi < tvS tx k x) then tvS tx k x else lo
def rmV (tx : Nat → Nat) (k : Nat) (x : PS) : Int32 := if isoS tx k x = true ∧ ¬ 6 < enS tx k x - stS tx k x then nI (pkn tx (stS tx k x) (enS tx k x - stS tx k x)) else -1
def kdS (tx : Nat → Nat) (k M n : Nat) (x : PS) : PS := if n < M then advS tx k x else failS 5 (stS tx k x) x
/-- the first of n that is v -/
def nmI (f : Nat → Int32) (n : Nat) (v : Int32) : Int32 := if sc (fun i => decide (¬ f i = v)) n 0 < n then nI (sc (fun i => decide (¬ f i = v)) n 0) else -1
theorem nmI_n {f : Nat → Int32} {n : Nat} {v : Int32} (h : ∀ i, i < n → ¬ f i = v) : nmI f n v = -1 := by
  have e : sc (fun i => decide (¬ f i = v)) n 0 = n := sq_eq (Nat.zero_le _) (fun i _ b => ⟨b, decide_eq_true (h i b)⟩) (by omega)
  unfold nmI
  rw [e, if_neg (Nat.lt_irrefl _)]
theorem nmI_f {f : Nat → Int32} {n i : Nat} {v : Int32} (hi : i < n) (h : ∀ j, j < i → ¬ f j = v) (c : f i = v) : nmI f n v = nI i := by
  have e : sc (fun i => decide (¬ f i = v)) n 0 = i := sq_eq (Nat.zero_le _) (fun j _ b => ⟨by omega, decide_eq_true (h j b)⟩) (fun a => of_decide_eq_true a.2 c)
  unfold nmI
  rw [e, if_pos hi]
section RN
variable {tx : Nat → Nat} {k lo hi : Nat} {x : PS} {fa pl : Int32} {ra rs : Nat} {so : Int32} {le : Int64} {wo nu si : Int32}
theorem isn_nz (h : isnS tx k x = true) : ¬ srS tx k x = 0 := by
  unfold isnS at h
  have := of_decide_eq_true h
  omega
theorem iso_nz (h : isoS tx k x = true) : ¬ srS tx k x = 0 := by
  have := (isoS_iff.mp h).1
  omega
theorem sr_all {s : Nat} (h : srS tx k x = s) (h0 : ¬ s = 0) (h3 : ¬ s = 3) : stS tx k x < enS tx k x ∧ ∀ i, stS tx k x ≤ i → i < enS tx k x → srt (tx i) = s := by
  have a : x.1 = 0 := by
    by_cases e : x.1 = 0
    · exact e
    · exact absurd ((if_neg e).symm.trans h).symm h0
  have t : tsr tx k x.2.2.1 x.2.2.2 = s := (if_pos a).symm.trans h
  have q : srt (tx (tq tx k x.2.2.1)) = s := by
    unfold tsr at t
    split at t
    · omega
    · split at t
      · omega
      · exact t
  have e : enS tx k x = sc (fun i => decide (srt (tx i) = s)) k (stS tx k x + 1) := by
    unfold enS ten
    rw [t, if_neg h0, if_neg h3]
    rfl
  refine ⟨?_, fun i h1 h2 => ?_⟩
  · rw [e]
    exact Nat.lt_of_lt_of_le (Nat.lt_succ_self _) (sq_ge _ _ _)
  · by_cases e2 : i = stS tx k x
    · rw [e2]
      exact q
    · rw [e] at h2
      exact of_decide_eq_true (sq_all (P := fun i => decide (srt (tx i) = s)) (by omega) h2)
theorem tvn_lt {b : Nat → Nat} {q j : Nat} (h : ∀ i, q ≤ i → i < q + j → b i ≤ 57) : tvn b q j < 10 ^ j := by
  induction j with
  | zero => exact (show (0 : Nat) < 1 by decide)
  | succ j ih =>
    have a := ih (fun i h1 h2 => h i h1 (by omega))
    have c := h (q + j) (by omega) (by omega)
    rw [tvn, Nat.pow_succ]
    omega
theorem tvS_lt (h : isnS tx k x = true) (h4 : ¬ 4 < enS tx k x - stS tx k x) : tvS tx k x < 10000 := by
  unfold isnS at h
  obtain ⟨_, b⟩ := sr_all (of_decide_eq_true h) (by decide) (by decide)
  refine Nat.lt_of_lt_of_le (tvn_lt (j := enS tx k x - stS tx k x) (fun i h1 h2 => (srt_2' (b i h1 (by omega))).2)) ?_
  exact Nat.le_trans (Nat.pow_le_pow_right (by decide) (show _ ≤ 4 by omega)) (by decide)
theorem cr_nu (hg : CR tx k x fa pl ra rs so le wo nu si) (h : isnS tx k x = true) (h4 : ¬ 4 < enS tx k x - stS tx k x) : nu = nI (tvS tx k x) := by
  obtain ⟨_, _, _, c, e⟩ := cr_al hg (isn_nz h)
  unfold isnS at h
  have := c.2.2.2.2.2 (e.symm.trans (of_decide_eq_true h))
  rw [this]
  unfold tvS stS
  unfold stS enS at h4
  rw [Nat.min_eq_right (by omega)]
  rfl
theorem rnS_n (h : ¬ isnS tx k x = true) : rnS tx k lo hi x = failS 1 (stS tx k x) x := if_neg h
theorem rnS_l (h : isnS tx k x = true) (h4 : 4 < enS tx k x - stS tx k x) : rnS tx k lo hi x = failS 1 (stS tx k x + 4) x := by
  unfold rnS
  rw [if_pos h, if_pos h4]
theorem rnS_o (h : isnS tx k x = true) (h4 : ¬ 4 < enS tx k x - stS tx k x) (ho : tvS tx k x < lo ∨ hi < tvS tx k x) : rnS tx k lo hi x = failS 2 (stS tx k x) x := by
  unfold rnS
  rw [if_pos h, if_neg h4, if_pos ho]
theorem rnS_k (h : isnS tx k x = true) (h4 : ¬ 4 < enS tx k x - stS tx k x) (ho : ¬ (tvS tx k x < lo ∨ hi < tvS tx k x)) : rnS tx k lo hi x = advS tx k x := by
  unfold rnS
  rw [if_pos h, if_neg h4, if_neg ho]
theorem rnV_n (h : ¬ isnS tx k x = true) : rnV tx k lo hi x = lo := if_neg (fun e => h e.1)
theorem rnV_l (h4 : 4 < enS tx k x - stS tx k x) : rnV tx k lo hi x = lo := if_neg (fun e => e.2.1 h4)
theorem rnV_o (ho : tvS tx k x < lo ∨ hi < tvS tx k x) : rnV tx k lo hi x = lo := if_neg (fun e => e.2.2 ho)
theorem rnV_k (h : isnS tx k x = true) (h4 : ¬ 4 < enS tx k x - stS tx k x) (ho : ¬ (tvS tx k x < lo ∨ hi < tvS tx k x)) : rnV tx k lo hi x = tvS tx k x := if_pos ⟨h, h4, ho⟩
theorem rnV_le (h : lo ≤ 9999) (h2 : hi ≤ 9999) : rnV tx k lo hi x ≤ 9999 := by
  unfold rnV
  split
  · rename_i a
    have := a.2.2
    omega
  · exact h
theorem rmS_n (h : ¬ isoS tx k x = true) : rmS tx k x = failS 1 (stS tx k x) x := if_neg h
theorem rmS_l (h : isoS tx k x = true) (h6 : 6 < enS tx k x - stS tx k x) : rmS tx k x = failS 1 (stS tx k x + 6) x := by
  unfold rmS
  rw [if_pos h, if_pos h6]
theorem rmS_k (h : isoS tx k x = true) (h6 : ¬ 6 < enS tx k x - stS tx k x) : rmS tx k x = advS tx k x := by
  unfold rmS
  rw [if_pos h, if_neg h6]
theorem rmV_n (h : ¬ isoS tx k x = true) : rmV tx k x = -1 := if_neg (fun e => h e.1)
theorem rmV_l (h6 : 6 < enS tx k x - stS tx k x) : rmV tx k x = -1 := if_neg (fun e => e.2 h6)
theorem rmV_k (hg : CR tx k x fa pl ra rs so le wo nu si) (h : isoS tx k x = true) (h6 : ¬ 6 < enS tx k x - stS tx k x) : le.toInt32 = rmV tx k x := by
  have hv : rmV tx k x = nI (pkn tx (stS tx k x) (enS tx k x - stS tx k x)) := if_pos ⟨h, h6⟩
  obtain ⟨_, _, _, c, e⟩ := cr_al hg (iso_nz h)
  have s := (isoS_iff.mp h).1
  have a := (c.2.2.2.2.1 (e.symm.trans s)).1
  obtain ⟨_, b⟩ := sr_all s (by decide) (by decide)
  have hlt : pkn tx (stS tx k x) (enS tx k x - stS tx k x) < 2 ^ 30 := by
    refine Nat.lt_of_lt_of_le (pkn_lt _ _ _ (fun i hi => (srt_1' (b (stS tx k x + i) (by omega) (by omega))).2)) ?_
    exact Nat.le_trans (Nat.pow_le_pow_right (by decide) (show _ ≤ 6 by omega)) (by decide)
  rw [hv, a]
  have e2 : min 12 (ten tx k x.2.2.1 x.2.2.2 - tq tx k x.2.2.1) = enS tx k x - stS tx k x := Nat.min_eq_right (by unfold enS stS at h6; omega)
  rw [e2]
  apply Int32.toInt_inj.mp
  rw [nI_toInt (show pkn tx (stS tx k x) (enS tx k x - stS tx k x) < 2 ^ 31 by omega)]
  have e3 : (nL (pkn tx (stS tx k x) (enS tx k x - stS tx k x))).toInt = (pkn tx (stS tx k x) (enS tx k x - stS tx k x) : Int) := Int64.toInt_ofNat_of_lt (by omega)
  rw [Int64.toInt_toInt32, show tq tx k x.2.2.1 = stS tx k x from rfl, e3]
  exact Int.bmod_eq_of_le (by omega) (by omega)
end RN
set_option maxHeartbeats 4000000 in
set_option maxRecDepth 100000 in
theorem c_rF_advance (l : Launch) (D : va_G) (y : Nat → ClassId) (rd : Nat) (ow : Nat) (tp : Nat) (lk : Nat) (td : Nat) (fa : Int32) (pl : Int32) (so : Int32) (le : Int64) (wo : Int32) (nu : Int32) (si : Int32) (ra : Nat) (k : Nat) (b0 : Int32) (tx : Nat → Nat) (ww : Nat → Int64) (s0 : Nat) (ha : ra ≤ k) (hk : k ≤ 1600) (hB : ∀ j, tx j < 256) (hWW : ∀ w, w < 33 → ww w = nL (pk5 (owf w))) (hs0 : so = nI s0) (hs3 : s0 ≤ 3) : CT l D y ⟨"NineBoards$Reader", "advance", "()V"⟩ prog_8_method_32_code 4 none ({ frames := 1, cells := 0, slots := 0, locals := 21 } : Room) [.ref rd] [(rd, .inr (5, [.int fa, .int pl, .ref ow, .ref tp, .ref lk, .int (nI ra), .int so, .int b0, .long le, .int wo, .int nu, .int si])), (tp, .inr (0, [.ref td, .int (nI k)])), (td, .inl (y 0, 1600, .inl (tby tx))), (ow, .inl (y 1, 33, .inr (.inl ww)))] (QV D [(rd, .inr (5, [.int fa, .int pl, .ref ow, .ref tp, .ref lk, .int (nI ra), .int so, .int b0, .long le, .int wo, .int nu, .int si])), (tp, .inr (0, [.ref td, .int (nI k)])), (td, .inl (y 0, 1600, .inl (tby tx))), (ow, .inl (y 1, 33, .inr (.inl ww)))] (fun (u : Nat × Nat × Int32 × Int64 × Int32 × Int32 × Int32) => u.1 ≤ k ∧ u.2.1 ≤ u.1 ∧ CL tx k ra (if s0 = 1 ∨ s0 = 2 then 1 else 0) u.1 u.2.1 u.2.2.1 u.2.2.2.1 u.2.2.2.2.1 u.2.2.2.2.2.1 u.2.2.2.2.2.2) (fun u => [(rd, .inr (5, [.int fa, .int pl, .ref ow, .ref tp, .ref lk, .int (nI u.1), .int u.2.2.1, .int (nI u.2.1), .long u.2.2.2.1, .int u.2.2.2.2.1, .int u.2.2.2.2.2.1, .int u.2.2.2.2.2.2])), (tp, .inr (0, [.ref td, .int (nI k)])), (td, .inl (y 0, 1600, .inl (tby tx))), (ow, .inl (y 1, 33, .inr (.inl ww)))])) := by
  refine CT.of (by decide) (nb rfl) ?_
  intro p e s m args below meth c C hr
  refine j_lv (lv' := [(0, .ref rd)]) rfl ?_
  refine j_aload_n (pc := 0) C d_Reader_advance_0 rfl 0 rfl ?_
  refine j_get (pc := 1) C gf_Reader_50 0 rfl rfl d_Reader_advance_1 ?_
  refine j_iconst (pc := 4) C (v := 1) d_Reader_advance_4 (by decide) ?_
  refine j_icmp_eq (pc := 5) C (tgt := 16) d_Reader_advance_5 (by decide) (fun c1 => ?_) (fun c1 => ?_)
  · refine j_iconst (pc := 16) C (v := 1) d_Reader_advance_16 (by decide) ?_
    refine j_goto (pc := 17) C (tgt := 21) d_Reader_advance_17 (by decide) ?_
    have hG2 := gl_1 hs0 hs3 c1
    refine j_istore_n (pc := 21) C (lv' := [(1, .int 1), (0, .ref rd)]) d_Reader_advance_21 rfl (by decide) rfl ?_
    refine j_aload_n (pc := 22) C d_Reader_advance_22 rfl 1 rfl ?_
    refine j_get (pc := 23) C gf_Reader_47 0 rfl rfl d_Reader_advance_23 ?_
    refine j_istore_n (pc := 26) C (lv' := [(2, .int (nI ra)), (1, .int 1), (0, .ref rd)]) d_Reader_advance_26 rfl (by decide) rfl ?_
    refine j_aload_n (pc := 27) C d_Reader_advance_27 rfl 2 rfl ?_
    refine j_get (pc := 28) C gf_Reader_19 0 rfl rfl d_Reader_advance_28 ?_
    refine j_get (pc := 31) C gf_Reader_285 1 rfl rfl d_Reader_advance_31 ?_
    refine j_aload_n (pc := 34) C d_Reader_advance_34 rfl 2 rfl ?_
    refine j_get (pc := 35) C gf_Reader_19 0 rfl rfl d_Reader_advance_35 ?_
    refine j_get (pc := 38) C gf_Reader_288 1 rfl rfl d_Reader_advance_38 ?_
    refine j_alen (pc := 41) C 2 0 rfl rfl (v := 1600) rfl d_Reader_advance_41 ?_
    refine j_mmin (pc := 42) C (mt_3 (List.mem_of_getElem? (i := 55) rfl) rfl) (mt_3 (List.mem_of_getElem? (i := 56) rfl) rfl) (mt_1 (List.mem_of_getElem? (i := 3) rfl) rfl) (mt_3 (List.mem_of_getElem? (i := 57) rfl) rfl) (v := nI k) (min_k hk) (by decide) (nb rfl) (by decide) (by decide) d_Reader_advance_42 ?_
    refine j_istore_n (pc := 45) C (lv' := [(3, .int (nI k)), (2, .int (nI ra)), (1, .int 1), (0, .ref rd)]) d_Reader_advance_45 rfl (by decide) rfl ?_
    refine j_loop (α := Nat) (fun a => k - a) (fun a => (a ≤ k) ∧ (ra ≤ a) ∧ ((∀ i, ra ≤ i → i < a → tx i = 32 ∨ tx i = 10))) (fun a => [(rd, .inr (5, [.int fa, .int pl, .ref ow, .ref tp, .ref lk, .int (nI a), .int so, .int b0, .long le, .int wo, .int nu, .int si])), (tp, .inr (0, [.ref td, .int (nI k)])), (td, .inl (y 0, 1600, .inl (tby tx))), (ow, .inl (y 1, 33, .inr (.inl ww)))]) (fun a => [(3, .int (nI k)), (2, .int (nI ra)), (1, .int 1), (0, .ref rd)]) (ra) rfl rfl ⟨(show ra ≤ k by omega), (show ra ≤ ra by omega), (fun i h1 h2 => absurd h1 (by omega))⟩ ?_
    rintro az hP176 ih177
    obtain ⟨ha__, hb__, hc__⟩ := hP176
    have ha_ : az ≤ k := ha__
    have hb_ : ra ≤ az := hb__
    have hc_ : (∀ i, ra ≤ i → i < az → tx i = 32 ∨ tx i = 10) := hc__
    refine j_ws (ws' := [(rd, .inr (5, [.int fa, .int pl, .ref ow, .ref tp, .ref lk, .int (nI az), .int so, .int b0, .long le, .int wo, .int nu, .int si])), (tp, .inr (0, [.ref td, .int (nI k)])), (td, .inl (y 0, 1600, .inl (tby tx))), (ow, .inl (y 1, 33, .inr (.inl ww)))]) rfl ?_
    refine j_lv (lv' := [(3, .int (nI k)), (2, .int (nI ra)), (1, .int 1), (0, .ref rd)]) rfl ?_
    refine j_aload_n (pc := 46) C d_Reader_advance_46 rfl 3 rfl ?_
    refine j_get (pc := 47) C gf_Reader_47 0 rfl rfl d_Reader_advance_47 ?_
    refine j_iload_n (pc := 50) C d_Reader_advance_50 rfl 0 rfl ?_
    by_cases c178 : k ≤ az
    · refine j_icmp_geT (pc := 51) C (tgt := 101) d_Reader_advance_51 (by decide) (show nI k ≤ nI az from nI_le (by omega) (by omega)) ?_
      have hq179 : tq tx k ra = az := sq_eq (by omega) (fun i h1 h2 => ⟨by omega, decide_eq_true (hc_ i h1 h2)⟩) (fun h => by have h1 := h.1; have h2 : tx az = 32 ∨ tx az = 10 := of_decide_eq_true h.2; omega)
      refine j_aload_n (pc := 101) C d_Reader_advance_101 rfl 3 rfl ?_
      refine j_aload_n (pc := 102) C d_Reader_advance_102 rfl 3 rfl ?_
      refine j_get (pc := 103) C gf_Reader_47 0 rfl rfl d_Reader_advance_103 ?_
      refine j_put (pc := 106) C pf_Reader_62 0 (ws' := [(rd, .inr (5, [.int fa, .int pl, .ref ow, .ref tp, .ref lk, .int (nI az), .int so, .int (nI az), .long le, .int wo, .int nu, .int si])), (tp, .inr (0, [.ref td, .int (nI k)])), (td, .inl (y 0, 1600, .inl (tby tx))), (ow, .inl (y 1, 33, .inr (.inl ww)))]) rfl rfl rfl (nl rfl) rfl d_Reader_advance_106 ?_
      refine j_aload_n (pc := 109) C d_Reader_advance_109 rfl 3 rfl ?_
      refine j_get (pc := 110) C gf_Reader_47 0 rfl rfl d_Reader_advance_110 ?_
      refine j_iload_n (pc := 113) C d_Reader_advance_113 rfl 0 rfl ?_
      by_cases c180 : az < k
      · refine j_icmp_ltT (pc := 114) C (tgt := 123) d_Reader_advance_114 (by decide) (show nI az < nI k from nI_lt (by omega) (by omega)) ?_
        refine j_aload_n (pc := 123) C d_Reader_advance_123 rfl 3 rfl ?_
        refine j_aload_n (pc := 124) C d_Reader_advance_124 rfl 3 rfl ?_
        refine j_get (pc := 125) C gf_Reader_19 0 rfl rfl d_Reader_advance_125 ?_
        refine j_get (pc := 128) C gf_Reader_288 1 rfl rfl d_Reader_advance_128 ?_
        refine j_aload_n (pc := 131) C d_Reader_advance_131 rfl 3 rfl ?_
        refine j_get (pc := 132) C gf_Reader_47 0 rfl rfl d_Reader_advance_132 ?_
        have hb181 : tx az < 256 := hB az
        refine j_iald (pc := 135) C 2 rfl (v := nI (tx az)) (vp_in_nI (by omega) (by decide)) (by rw [nI_clamp (by omega)]; rfl) d_Reader_advance_135 ?_
        refine j_put (pc := 136) C pf_Reader_272 0 (ws' := [(rd, .inr (5, [.int fa, .int pl, .ref ow, .ref tp, .ref lk, .int (nI az), .int so, .int (nI az), .long le, .int wo, .int nu, .int (nI (tx az))])), (tp, .inr (0, [.ref td, .int (nI k)])), (td, .inl (y 0, 1600, .inl (tby tx))), (ow, .inl (y 1, 33, .inr (.inl ww)))]) rfl rfl rfl (nl rfl) rfl d_Reader_advance_136 ?_
        refine j_aload_n (pc := 139) C d_Reader_advance_139 rfl 3 rfl ?_
        refine j_iload_n (pc := 140) C d_Reader_advance_140 rfl 2 rfl ?_
        refine j_if_eqF (pc := 141) C (tgt := 156) d_Reader_advance_141 (by decide) (by decide) ?_
        refine j_aload_n (pc := 144) C d_Reader_advance_144 rfl 3 rfl ?_
        refine j_get (pc := 145) C gf_Reader_47 0 rfl rfl d_Reader_advance_145 ?_
        refine j_iload_n (pc := 148) C d_Reader_advance_148 rfl 1 rfl ?_
        by_cases c182 : ¬ az = ra
        · refine j_icmp_neT (pc := 149) C (tgt := 156) d_Reader_advance_149 (by decide) (show ¬ nI az = nI ra from fun e => absurd ((nI_eq (by omega) (by omega)).mp e) (by omega)) ?_
          refine j_aload_n (pc := 156) C d_Reader_advance_156 rfl 3 rfl ?_
          refine j_get (pc := 157) C gf_Reader_272 0 rfl rfl d_Reader_advance_157 ?_
          refine j_callSi (pc := 160) C (c_sortOfF l D y (tx az) (by omega)) kw_Reader_296 ks_Reader_sortOf ⟨by decide, by decide⟩ ⟨by decide, by decide⟩ (wr := [(rd, .inr (5, [.int fa, .int pl, .ref ow, .ref tp, .ref lk, .int (nI az), .int so, .int (nI az), .long le, .int wo, .int nu, .int (nI (tx az))])), (tp, .inr (0, [.ref td, .int (nI k)])), (td, .inl (y 0, 1600, .inl (tby tx))), (ow, .inl (y 1, 33, .inr (.inl ww)))]) [] [0, 1, 2, 3] rfl rfl (by decide) (by decide) (by decide) (As := [.int (nI (tx az))]) (rest := [.ref rd]) rfl (nb rfl) rfl d_Reader_advance_160 (fun r183 _ hr183 => ?_)
          refine j_ws (ws' := [(rd, .inr (5, [.int fa, .int pl, .ref ow, .ref tp, .ref lk, .int (nI az), .int so, .int (nI az), .long le, .int wo, .int nu, .int (nI (tx az))])), (tp, .inr (0, [.ref td, .int (nI k)])), (td, .inl (y 0, 1600, .inl (tby tx))), (ow, .inl (y 1, 33, .inr (.inl ww)))]) rfl ?_
          rcases hr183 with ⟨rfl, xh185⟩ | ⟨rfl, xh186⟩ | ⟨rfl, xh187⟩
          · refine j_put (pc := 163) C pf_Reader_50 0 (ws' := [(rd, .inr (5, [.int fa, .int pl, .ref ow, .ref tp, .ref lk, .int (nI az), .int 1, .int (nI az), .long le, .int wo, .int nu, .int (nI (tx az))])), (tp, .inr (0, [.ref td, .int (nI k)])), (td, .inl (y 0, 1600, .inl (tby tx))), (ow, .inl (y 1, 33, .inr (.inl ww)))]) rfl rfl rfl (nl rfl) rfl d_Reader_advance_163 ?_
            refine j_aload_n (pc := 166) C d_Reader_advance_166 rfl 3 rfl ?_
            refine j_dup (pc := 167) C d_Reader_advance_167 rfl ?_
            refine j_get (pc := 168) C gf_Reader_47 0 rfl rfl d_Reader_advance_168 ?_
            refine j_iconst (pc := 171) C (v := 1) d_Reader_advance_171 (by decide) ?_
            refine j_iadd (pc := 172) C (v := nI (az + 1)) d_Reader_advance_172 (nI_add _ _) ?_
            refine j_put (pc := 173) C pf_Reader_47 0 (ws' := [(rd, .inr (5, [.int fa, .int pl, .ref ow, .ref tp, .ref lk, .int (nI (az + 1)), .int 1, .int (nI az), .long le, .int wo, .int nu, .int (nI (tx az))])), (tp, .inr (0, [.ref td, .int (nI k)])), (td, .inl (y 0, 1600, .inl (tby tx))), (ow, .inl (y 1, 33, .inr (.inl ww)))]) rfl rfl rfl (nl rfl) rfl d_Reader_advance_173 ?_
            refine j_loop (α := Nat) (fun a => k - a) (fun a => (az + 1 ≤ a) ∧ (a ≤ k) ∧ ((∀ i, az ≤ i → i < a → srt (tx i) = 1))) (fun a => [(rd, .inr (5, [.int fa, .int pl, .ref ow, .ref tp, .ref lk, .int (nI a), .int 1, .int (nI az), .long le, .int wo, .int nu, .int (nI (tx az))])), (tp, .inr (0, [.ref td, .int (nI k)])), (td, .inl (y 0, 1600, .inl (tby tx))), (ow, .inl (y 1, 33, .inr (.inl ww)))]) (fun a => [(3, .int (nI k)), (2, .int (nI ra)), (1, .int 1), (0, .ref rd)]) ((az + 1)) rfl rfl ⟨(show az + 1 ≤ (az + 1) by omega), (show (az + 1) ≤ k by omega), (fun i h1 h2 => by rw [show i = az by omega]; exact xh185)⟩ ?_
            rintro cz hP207 ih208
            obtain ⟨hd__, he__, hg__⟩ := hP207
            have hd_ : az + 1 ≤ cz := hd__
            have he_ : cz ≤ k := he__
            have hg_ : (∀ i, az ≤ i → i < cz → srt (tx i) = 1) := hg__
            refine j_ws (ws' := [(rd, .inr (5, [.int fa, .int pl, .ref ow, .ref tp, .ref lk, .int (nI cz), .int 1, .int (nI az), .long le, .int wo, .int nu, .int (nI (tx az))])), (tp, .inr (0, [.ref td, .int (nI k)])), (td, .inl (y 0, 1600, .inl (tby tx))), (ow, .inl (y 1, 33, .inr (.inl ww)))]) rfl ?_
            refine j_lv (lv' := [(3, .int (nI k)), (2, .int (nI ra)), (1, .int 1), (0, .ref rd)]) rfl ?_
            refine j_aload_n (pc := 176) C d_Reader_advance_176 rfl 3 rfl ?_
            refine j_get (pc := 177) C gf_Reader_47 0 rfl rfl d_Reader_advance_177 ?_
            refine j_iload_n (pc := 180) C d_Reader_advance_180 rfl 0 rfl ?_
            by_cases c209 : k ≤ cz
            · refine j_icmp_geT (pc := 181) C (tgt := 227) d_Reader_advance_181 (by decide) (show nI k ≤ nI cz from nI_le (by omega) (by omega)) ?_
              refine j_aload_n (pc := 227) C d_Reader_advance_227 rfl 3 rfl ?_
              refine j_get (pc := 228) C gf_Reader_50 0 rfl rfl d_Reader_advance_228 ?_
              refine j_iconst (pc := 231) C (v := 1) d_Reader_advance_231 (by decide) ?_
              refine j_icmp_neF (pc := 232) C (tgt := 242) d_Reader_advance_232 (by decide) (by decide) ?_
              refine j_aload_n (pc := 235) C d_Reader_advance_235 rfl 3 rfl ?_
              refine j_callVv (pc := 236) C (c_rF_knowWord l D y rd ow tp lk td fa pl 1 le wo nu (nI (tx az)) cz az k tx ww he_ (by omega) hk hB (fun i h1 h2 => srt_1' (hg_ i h1 h2))) kw_Reader_299 kv_Reader_knowWord 0 5 rfl rfl ⟨by decide, by decide⟩ ⟨by decide, by decide⟩ (wr := []) [0, 1, 2, 3] [] rfl rfl (by decide) (by decide) (by decide) (As := []) (rest := []) rfl (nb rfl) rfl d_Reader_advance_236 (fun u210 hu211 => ?_)
              obtain ⟨xh212, xh213⟩ := hu211
              refine j_ws (ws' := [(rd, .inr (5, [.int fa, .int pl, .ref ow, .ref tp, .ref lk, .int (nI cz), .int 1, .int (nI az), .long u210.1, .int u210.2, .int nu, .int (nI (tx az))])), (tp, .inr (0, [.ref td, .int (nI k)])), (td, .inl (y 0, 1600, .inl (tby tx))), (ow, .inl (y 1, 33, .inr (.inl ww)))]) rfl ?_
              refine j_goto (pc := 239) C (tgt := 254) d_Reader_advance_239 (by decide) ?_
              exact j_vret (pc := 254) C hr (cz, az, 1, u210.1, u210.2, nu, nI (tx az)) ⟨show cz ≤ k by omega, show az ≤ cz by omega, (by rw [hG2]; exact cl_word (q := az) (e := cz) hq179 (by omega) (fun h => by have h2 := h.2; omega) hg_ (by omega) (fun h => by have h1 := h.1; have h2 := h.2; omega) hWW xh212 xh213 rfl)⟩ [0, 1, 2, 3] rfl (by decide) (by decide) (by decide) d_Reader_advance_254
            · refine j_icmp_geF (pc := 181) C (tgt := 227) d_Reader_advance_181 (by decide) (show ¬ nI k ≤ nI cz from nI_ge (by omega) (by omega)) ?_
              refine j_aload_n (pc := 184) C d_Reader_advance_184 rfl 3 rfl ?_
              refine j_get (pc := 185) C gf_Reader_50 0 rfl rfl d_Reader_advance_185 ?_
              refine j_iconst (pc := 188) C (v := 3) d_Reader_advance_188 (by decide) ?_
              refine j_icmp_eqF (pc := 189) C (tgt := 227) d_Reader_advance_189 (by decide) (by decide) ?_
              refine j_aload_n (pc := 192) C d_Reader_advance_192 rfl 3 rfl ?_
              refine j_get (pc := 193) C gf_Reader_19 0 rfl rfl d_Reader_advance_193 ?_
              refine j_get (pc := 196) C gf_Reader_288 1 rfl rfl d_Reader_advance_196 ?_
              refine j_aload_n (pc := 199) C d_Reader_advance_199 rfl 3 rfl ?_
              refine j_get (pc := 200) C gf_Reader_47 0 rfl rfl d_Reader_advance_200 ?_
              have hb214 : tx cz < 256 := hB cz
              refine j_iald (pc := 203) C 2 rfl (v := nI (tx cz)) (vp_in_nI (by omega) (by decide)) (by rw [nI_clamp (by omega)]; rfl) d_Reader_advance_203 ?_
              refine j_callSi (pc := 204) C (c_sortOfF l D y (tx cz) (by omega)) kw_Reader_296 ks_Reader_sortOf ⟨by decide, by decide⟩ ⟨by decide, by decide⟩ (wr := [(rd, .inr (5, [.int fa, .int pl, .ref ow, .ref tp, .ref lk, .int (nI cz), .int 1, .int (nI az), .long le, .int wo, .int nu, .int (nI (tx az))])), (tp, .inr (0, [.ref td, .int (nI k)])), (td, .inl (y 0, 1600, .inl (tby tx))), (ow, .inl (y 1, 33, .inr (.inl ww)))]) [] [0, 1, 2, 3] rfl rfl (by decide) (by decide) (by decide) (As := [.int (nI (tx cz))]) (rest := []) rfl (nb rfl) rfl d_Reader_advance_204 (fun r215 _ hr215 => ?_)
              refine j_ws (ws' := [(rd, .inr (5, [.int fa, .int pl, .ref ow, .ref tp, .ref lk, .int (nI cz), .int 1, .int (nI az), .long le, .int wo, .int nu, .int (nI (tx az))])), (tp, .inr (0, [.ref td, .int (nI k)])), (td, .inl (y 0, 1600, .inl (tby tx))), (ow, .inl (y 1, 33, .inr (.inl ww)))]) rfl ?_
              rcases hr215 with ⟨rfl, xh217⟩ | ⟨rfl, xh218⟩ | ⟨rfl, xh219⟩
              · refine j_aload_n (pc := 207) C d_Reader_advance_207 rfl 3 rfl ?_
                refine j_get (pc := 208) C gf_Reader_50 0 rfl rfl d_Reader_advance_208 ?_
                refine j_icmp_neF (pc := 211) C (tgt := 227) d_Reader_advance_211 (by decide) (by decide) ?_
                refine j_aload_n (pc := 214) C d_Reader_advance_214 rfl 3 rfl ?_
                refine j_dup (pc := 215) C d_Reader_advance_215 rfl ?_
                refine j_get (pc := 216) C gf_Reader_47 0 rfl rfl d_Reader_advance_216 ?_
                refine j_iconst (pc := 219) C (v := 1) d_Reader_advance_219 (by decide) ?_
                refine j_iadd (pc := 220) C (v := nI (cz + 1)) d_Reader_advance_220 (nI_add _ _) ?_
                refine j_put (pc := 221) C pf_Reader_47 0 (ws' := [(rd, .inr (5, [.int fa, .int pl, .ref ow, .ref tp, .ref lk, .int (nI (cz + 1)), .int 1, .int (nI az), .long le, .int wo, .int nu, .int (nI (tx az))])), (tp, .inr (0, [.ref td, .int (nI k)])), (td, .inl (y 0, 1600, .inl (tby tx))), (ow, .inl (y 1, 33, .inr (.inl ww)))]) rfl rfl rfl (nl rfl) rfl d_Reader_advance_221 ?_
                refine j_goto (pc := 224) C (tgt := 176) d_Reader_advance_224 (by decide) ?_
                exact ih208 ((cz + 1)) ⟨(show az + 1 ≤ (cz + 1) by omega), (show (cz + 1) ≤ k by omega), (fun i h1 h2 => by
                        by_cases e : i = cz
                        · rw [e]; exact xh217
                        · exact hg_ i h1 (by omega))⟩ (show k - (cz + 1) < k - cz by omega)
              · refine j_aload_n (pc := 207) C d_Reader_advance_207 rfl 3 rfl ?_
                refine j_get (pc := 208) C gf_Reader_50 0 rfl rfl d_Reader_advance_208 ?_
                refine j_icmp_neT (pc := 211) C (tgt := 227) d_Reader_advance_211 (by decide) (by decide) ?_
                refine j_aload_n (pc := 227) C d_Reader_advance_227 rfl 3 rfl ?_
                refine j_get (pc := 228) C gf_Reader_50 0 rfl rfl d_Reader_advance_228 ?_
                refine j_iconst (pc := 231) C (v := 1) d_Reader_advance_231 (by decide) ?_
                refine j_icmp_neF (pc := 232) C (tgt := 242) d_Reader_advance_232 (by decide) (by decide) ?_
                refine j_aload_n (pc := 235) C d_Reader_advance_235 rfl 3 rfl ?_
                refine j_callVv (pc := 236) C (c_rF_knowWord l D y rd ow tp lk td fa pl 1 le wo nu (nI (tx az)) cz az k tx ww he_ (by omega) hk hB (fun i h1 h2 => srt_1' (hg_ i h1 h2))) kw_Reader_299 kv_Reader_knowWord 0 5 rfl rfl ⟨by decide, by decide⟩ ⟨by decide, by decide⟩ (wr := []) [0, 1, 2, 3] [] rfl rfl (by decide) (by decide) (by decide) (As := []) (rest := []) rfl (nb rfl) rfl d_Reader_advance_236 (fun u220 hu221 => ?_)
                obtain ⟨xh222, xh223⟩ := hu221
                refine j_ws (ws' := [(rd, .inr (5, [.int fa, .int pl, .ref ow, .ref tp, .ref lk, .int (nI cz), .int 1, .int (nI az), .long u220.1, .int u220.2, .int nu, .int (nI (tx az))])), (tp, .inr (0, [.ref td, .int (nI k)])), (td, .inl (y 0, 1600, .inl (tby tx))), (ow, .inl (y 1, 33, .inr (.inl ww)))]) rfl ?_
                refine j_goto (pc := 239) C (tgt := 254) d_Reader_advance_239 (by decide) ?_
                exact j_vret (pc := 254) C hr (cz, az, 1, u220.1, u220.2, nu, nI (tx az)) ⟨show cz ≤ k by omega, show az ≤ cz by omega, (by rw [hG2]; exact cl_word (q := az) (e := cz) hq179 (by omega) (fun h => by have h2 := h.2; omega) hg_ (by omega) (fun h => by have h1 := h.1; have h2 := h.2; omega) hWW xh222 xh223 rfl)⟩ [0, 1, 2, 3] rfl (by decide) (by decide) (by decide) d_Reader_advance_254
              · refine j_aload_n (pc := 207) C d_Reader_advance_207 rfl 3 rfl ?_
                refine j_get (pc := 208) C gf_Reader_50 0 rfl rfl d_Reader_advance_208 ?_
                refine j_icmp_neT (pc := 211) C (tgt := 227) d_Reader_advance_211 (by decide) (by decide) ?_
                refine j_aload_n (pc := 227) C d_Reader_advance_227 rfl 3 rfl ?_
                refine j_get (pc := 228) C gf_Reader_50 0 rfl rfl d_Reader_advance_228 ?_
                refine j_iconst (pc := 231) C (v := 1) d_Reader_advance_231 (by decide) ?_
                refine j_icmp_neF (pc := 232) C (tgt := 242) d_Reader_advance_232 (by decide) (by decide) ?_
                refine j_aload_n (pc := 235) C d_Reader_advance_235 rfl 3 rfl ?_
                refine j_callVv (pc := 236) C (c_rF_knowWord l D y rd ow tp lk td fa pl 1 le wo nu (nI (tx az)) cz az k tx ww he_ (by omega) hk hB (fun i h1 h2 => srt_1' (hg_ i h1 h2))) kw_Reader_299 kv_Reader_knowWord 0 5 rfl rfl ⟨by decide, by decide⟩ ⟨by decide, by decide⟩ (wr := []) [0, 1, 2, 3] [] rfl rfl (by decide) (by decide) (by decide) (As := []) (rest := []) rfl (nb rfl) rfl d_Reader_advance_236 (fun u224 hu225 => ?_)
                obtain ⟨xh226, xh227⟩ := hu225
                refine j_ws (ws' := [(rd, .inr (5, [.int fa, .int pl, .ref ow, .ref tp, .ref lk, .int (nI cz), .int 1, .int (nI az), .long u224.1, .int u224.2, .int nu, .int (nI (tx az))])), (tp, .inr (0, [.ref td, .int (nI k)])), (td, .inl (y 0, 1600, .inl (tby tx))), (ow, .inl (y 1, 33, .inr (.inl ww)))]) rfl ?_
                refine j_goto (pc := 239) C (tgt := 254) d_Reader_advance_239 (by decide) ?_
                exact j_vret (pc := 254) C hr (cz, az, 1, u224.1, u224.2, nu, nI (tx az)) ⟨show cz ≤ k by omega, show az ≤ cz by omega, (by rw [hG2]; exact cl_word (q := az) (e := cz) hq179 (by omega) (fun h => by have h2 := h.2; omega) hg_ (by omega) (fun h => by have h1 := h.1; have h2 := h.2; omega) hWW xh226 xh227 rfl)⟩ [0, 1, 2, 3] rfl (by decide) (by decide) (by decide) d_Reader_advance_254
          · refine j_put (pc := 163) C pf_Reader_50 0 (ws' := [(rd, .inr (5, [.int fa, .int pl, .ref ow, .ref tp, .ref lk, .int (nI az), .int 2, .int (nI az), .long le, .int wo, .int nu, .int (nI (tx az))])), (tp, .inr (0, [.ref td, .int (nI k)])), (td, .inl (y 0, 1600, .inl (tby tx))), (ow, .inl (y 1, 33, .inr (.inl ww)))]) rfl rfl rfl (nl rfl) rfl d_Reader_advance_163 ?_
            refine j_aload_n (pc := 166) C d_Reader_advance_166 rfl 3 rfl ?_
            refine j_dup (pc := 167) C d_Reader_advance_167 rfl ?_
            refine j_get (pc := 168) C gf_Reader_47 0 rfl rfl d_Reader_advance_168 ?_
            refine j_iconst (pc := 171) C (v := 1) d_Reader_advance_171 (by decide) ?_
            refine j_iadd (pc := 172) C (v := nI (az + 1)) d_Reader_advance_172 (nI_add _ _) ?_
            refine j_put (pc := 173) C pf_Reader_47 0 (ws' := [(rd, .inr (5, [.int fa, .int pl, .ref ow, .ref tp, .ref lk, .int (nI (az + 1)), .int 2, .int (nI az), .long le, .int wo, .int nu, .int (nI (tx az))])), (tp, .inr (0, [.ref td, .int (nI k)])), (td, .inl (y 0, 1600, .inl (tby tx))), (ow, .inl (y 1, 33, .inr (.inl ww)))]) rfl rfl rfl (nl rfl) rfl d_Reader_advance_173 ?_
            refine j_loop (α := Nat) (fun a => k - a) (fun a => (az + 1 ≤ a) ∧ (a ≤ k) ∧ ((∀ i, az ≤ i → i < a → srt (tx i) = 2))) (fun a => [(rd, .inr (5, [.int fa, .int pl, .ref ow, .ref tp, .ref lk, .int (nI a), .int 2, .int (nI az), .long le, .int wo, .int nu, .int (nI (tx az))])), (tp, .inr (0, [.ref td, .int (nI k)])), (td, .inl (y 0, 1600, .inl (tby tx))), (ow, .inl (y 1, 33, .inr (.inl ww)))]) (fun a => [(3, .int (nI k)), (2, .int (nI ra)), (1, .int 1), (0, .ref rd)]) ((az + 1)) rfl rfl ⟨(show az + 1 ≤ (az + 1) by omega), (show (az + 1) ≤ k by omega), (fun i h1 h2 => by rw [show i = az by omega]; exact xh186)⟩ ?_
            rintro cz hP244 ih245
            obtain ⟨hd__, he__, hg__⟩ := hP244
            have hd_ : az + 1 ≤ cz := hd__
            have he_ : cz ≤ k := he__
            have hg_ : (∀ i, az ≤ i → i < cz → srt (tx i) = 2) := hg__
            refine j_ws (ws' := [(rd, .inr (5, [.int fa, .int pl, .ref ow, .ref tp, .ref lk, .int (nI cz), .int 2, .int (nI az), .long le, .int wo, .int nu, .int (nI (tx az))])), (tp, .inr (0, [.ref td, .int (nI k)])), (td, .inl (y 0, 1600, .inl (tby tx))), (ow, .inl (y 1, 33, .inr (.inl ww)))]) rfl ?_
            refine j_lv (lv' := [(3, .int (nI k)), (2, .int (nI ra)), (1, .int 1), (0, .ref rd)]) rfl ?_
            refine j_aload_n (pc := 176) C d_Reader_advance_176 rfl 3 rfl ?_
            refine j_get (pc := 177) C gf_Reader_47 0 rfl rfl d_Reader_advance_177 ?_
            refine j_iload_n (pc := 180) C d_Reader_advance_180 rfl 0 rfl ?_
            by_cases c246 : k ≤ cz
            · refine j_icmp_geT (pc := 181) C (tgt := 227) d_Reader_advance_181 (by decide) (show nI k ≤ nI cz from nI_le (by omega) (by omega)) ?_
              refine j_aload_n (pc := 227) C d_Reader_advance_227 rfl 3 rfl ?_
              refine j_get (pc := 228) C gf_Reader_50 0 rfl rfl d_Reader_advance_228 ?_
              refine j_iconst (pc := 231) C (v := 1) d_Reader_advance_231 (by decide) ?_
              refine j_icmp_neT (pc := 232) C (tgt := 242) d_Reader_advance_232 (by decide) (by decide) ?_
              refine j_aload_n (pc := 242) C d_Reader_advance_242 rfl 3 rfl ?_
              refine j_get (pc := 243) C gf_Reader_50 0 rfl rfl d_Reader_advance_243 ?_
              refine j_iconst (pc := 246) C (v := 2) d_Reader_advance_246 (by decide) ?_
              refine j_icmp_neF (pc := 247) C (tgt := 254) d_Reader_advance_247 (by decide) (by decide) ?_
              refine j_aload_n (pc := 250) C d_Reader_advance_250 rfl 3 rfl ?_
              refine j_callVv (pc := 251) C (c_rF_knowNumber l D y rd ow tp lk td fa pl 2 le wo nu (nI (tx az)) cz az k tx he_ (by omega) hk hB (fun i h1 h2 => srt_2' (hg_ i h1 h2))) kw_Reader_302 kv_Reader_knowNumber 0 5 rfl rfl ⟨by decide, by decide⟩ ⟨by decide, by decide⟩ (wr := [(ow, .inl (y 1, 33, .inr (.inl ww)))]) [0, 1, 2] [3] rfl rfl (by decide) (by decide) (by decide) (As := []) (rest := []) rfl (nb rfl) rfl d_Reader_advance_251 (fun u247 hu248 => ?_)
              have xh249 := hu248
              refine j_ws (ws' := [(ow, .inl (y 1, 33, .inr (.inl ww))), (rd, .inr (5, [.int fa, .int pl, .ref ow, .ref tp, .ref lk, .int (nI cz), .int 2, .int (nI az), .long le, .int wo, .int u247, .int (nI (tx az))])), (tp, .inr (0, [.ref td, .int (nI k)])), (td, .inl (y 0, 1600, .inl (tby tx)))]) rfl ?_
              exact j_vret (pc := 254) C hr (cz, az, 2, le, wo, u247, nI (tx az)) ⟨show cz ≤ k by omega, show az ≤ cz by omega, (by rw [hG2]; exact cl_num (q := az) (e := cz) hq179 (by omega) (fun h => by have h2 := h.2; omega) hg_ (by omega) (fun h => by have h1 := h.1; have h2 := h.2; omega) xh249 rfl)⟩ [1, 2, 3, 0] rfl (by decide) (by decide) (by decide) d_Reader_advance_254
            · refine j_icmp_geF (pc := 181) C (tgt := 227) d_Reader_advance_181 (by decide) (show ¬ nI k ≤ nI cz from nI_ge (by omega) (by omega)) ?_
              refine j_aload_n (pc := 184) C d_Reader_advance_184 rfl 3 rfl ?_
              refine j_get (pc := 185) C gf_Reader_50 0 rfl rfl d_Reader_advance_185 ?_
              refine j_iconst (pc := 188) C (v := 3) d_Reader_advance_188 (by decide) ?_
              refine j_icmp_eqF (pc := 189) C (tgt := 227) d_Reader_advance_189 (by decide) (by decide) ?_
              refine j_aload_n (pc := 192) C d_Reader_advance_192 rfl 3 rfl ?_
              refine j_get (pc := 193) C gf_Reader_19 0 rfl rfl d_Reader_advance_193 ?_
              refine j_get (pc := 196) C gf_Reader_288 1 rfl rfl d_Reader_advance_196 ?_
              refine j_aload_n (pc := 199) C d_Reader_advance_199 rfl 3 rfl ?_
              refine j_get (pc := 200) C gf_Reader_47 0 rfl rfl d_Reader_advance_200 ?_
              have hb250 : tx cz < 256 := hB cz
              refine j_iald (pc := 203) C 2 rfl (v := nI (tx cz)) (vp_in_nI (by omega) (by decide)) (by rw [nI_clamp (by omega)]; rfl) d_Reader_advance_203 ?_
              refine j_callSi (pc := 204) C (c_sortOfF l D y (tx cz) (by omega)) kw_Reader_296 ks_Reader_sortOf ⟨by decide, by decide⟩ ⟨by decide, by decide⟩ (wr := [(rd, .inr (5, [.int fa, .int pl, .ref ow, .ref tp, .ref lk, .int (nI cz), .int 2, .int (nI az), .long le, .int wo, .int nu, .int (nI (tx az))])), (tp, .inr (0, [.ref td, .int (nI k)])), (td, .inl (y 0, 1600, .inl (tby tx))), (ow, .inl (y 1, 33, .inr (.inl ww)))]) [] [0, 1, 2, 3] rfl rfl (by decide) (by decide) (by decide) (As := [.int (nI (tx cz))]) (rest := []) rfl (nb rfl) rfl d_Reader_advance_204 (fun r251 _ hr251 => ?_)
              refine j_ws (ws' := [(rd, .inr (5, [.int fa, .int pl, .ref ow, .ref tp, .ref lk, .int (nI cz), .int 2, .int (nI az), .long le, .int wo, .int nu, .int (nI (tx az))])), (tp, .inr (0, [.ref td, .int (nI k)])), (td, .inl (y 0, 1600, .inl (tby tx))), (ow, .inl (y 1, 33, .inr (.inl ww)))]) rfl ?_
              rcases hr251 with ⟨rfl, xh253⟩ | ⟨rfl, xh254⟩ | ⟨rfl, xh255⟩
              · refine j_aload_n (pc := 207) C d_Reader_advance_207 rfl 3 rfl ?_
                refine j_get (pc := 208) C gf_Reader_50 0 rfl rfl d_Reader_advance_208 ?_
                refine j_icmp_neT (pc := 211) C (tgt := 227) d_Reader_advance_211 (by decide) (by decide) ?_
                refine j_aload_n (pc := 227) C d_Reader_advance_227 rfl 3 rfl ?_
                refine j_get (pc := 228) C gf_Reader_50 0 rfl rfl d_Reader_advance_228 ?_
                refine j_iconst (pc := 231) C (v := 1) d_Reader_advance_231 (by decide) ?_
                refine j_icmp_neT (pc := 232) C (tgt := 242) d_Reader_advance_232 (by decide) (by decide) ?_
                refine j_aload_n (pc := 242) C d_Reader_advance_242 rfl 3 rfl ?_
                refine j_get (pc := 243) C gf_Reader_50 0 rfl rfl d_Reader_advance_243 ?_
                refine j_iconst (pc := 246) C (v := 2) d_Reader_advance_246 (by decide) ?_
                refine j_icmp_neF (pc := 247) C (tgt := 254) d_Reader_advance_247 (by decide) (by decide) ?_
                refine j_aload_n (pc := 250) C d_Reader_advance_250 rfl 3 rfl ?_
                refine j_callVv (pc := 251) C (c_rF_knowNumber l D y rd ow tp lk td fa pl 2 le wo nu (nI (tx az)) cz az k tx he_ (by omega) hk hB (fun i h1 h2 => srt_2' (hg_ i h1 h2))) kw_Reader_302 kv_Reader_knowNumber 0 5 rfl rfl ⟨by decide, by decide⟩ ⟨by decide, by decide⟩ (wr := [(ow, .inl (y 1, 33, .inr (.inl ww)))]) [0, 1, 2] [3] rfl rfl (by decide) (by decide) (by decide) (As := []) (rest := []) rfl (nb rfl) rfl d_Reader_advance_251 (fun u256 hu257 => ?_)
                have xh258 := hu257
                refine j_ws (ws' := [(ow, .inl (y 1, 33, .inr (.inl ww))), (rd, .inr (5, [.int fa, .int pl, .ref ow, .ref tp, .ref lk, .int (nI cz), .int 2, .int (nI az), .long le, .int wo, .int u256, .int (nI (tx az))])), (tp, .inr (0, [.ref td, .int (nI k)])), (td, .inl (y 0, 1600, .inl (tby tx)))]) rfl ?_
                exact j_vret (pc := 254) C hr (cz, az, 2, le, wo, u256, nI (tx az)) ⟨show cz ≤ k by omega, show az ≤ cz by omega, (by rw [hG2]; exact cl_num (q := az) (e := cz) hq179 (by omega) (fun h => by have h2 := h.2; omega) hg_ (by omega) (fun h => by have h1 := h.1; have h2 := h.2; omega) xh258 rfl)⟩ [1, 2, 3, 0] rfl (by decide) (by decide) (by decide) d_Reader_advance_254
              · refine j_aload_n (pc := 207) C d_Reader_advance_207 rfl 3 rfl ?_
                refine j_get (pc := 208) C gf_Reader_50 0 rfl rfl d_Reader_advance_208 ?_
                refine j_icmp_neF (pc := 211) C (tgt := 227) d_Reader_advance_211 (by decide) (by decide) ?_
                refine j_aload_n (pc := 214) C d_Reader_advance_214 rfl 3 rfl ?_
                refine j_dup (pc := 215) C d_Reader_advance_215 rfl ?_
                refine j_get (pc := 216) C gf_Reader_47 0 rfl rfl d_Reader_advance_216 ?_
                refine j_iconst (pc := 219) C (v := 1) d_Reader_advance_219 (by decide) ?_
                refine j_iadd (pc := 220) C (v := nI (cz + 1)) d_Reader_advance_220 (nI_add _ _) ?_
                refine j_put (pc := 221) C pf_Reader_47 0 (ws' := [(rd, .inr (5, [.int fa, .int pl, .ref ow, .ref tp, .ref lk, .int (nI (cz + 1)), .int 2, .int (nI az), .long le, .int wo, .int nu, .int (nI (tx az))])), (tp, .inr (0, [.ref td, .int (nI k)])), (td, .inl (y 0, 1600, .inl (tby tx))), (ow, .inl (y 1, 33, .inr (.inl ww)))]) rfl rfl rfl (nl rfl) rfl d_Reader_advance_221 ?_
                refine j_goto (pc := 224) C (tgt := 176) d_Reader_advance_224 (by decide) ?_
                exact ih245 ((cz + 1)) ⟨(show az + 1 ≤ (cz + 1) by omega), (show (cz + 1) ≤ k by omega), (fun i h1 h2 => by
                        by_cases e : i = cz
                        · rw [e]; exact xh254
                        · exact hg_ i h1 (by omega))⟩ (show k - (cz + 1) < k - cz by omega)
              · refine j_aload_n (pc := 207) C d_Reader_advance_207 rfl 3 rfl ?_
                refine j_get (pc := 208) C gf_Reader_50 0 rfl rfl d_Reader_advance_208 ?_
                refine j_icmp_neT (pc := 211) C (tgt := 227) d_Reader_advance_211 (by decide) (by decide) ?_
                refine j_aload_n (pc := 227) C d_Reader_advance_227 rfl 3 rfl ?_
                refine j_get (pc := 228) C gf_Reader_50 0 rfl rfl d_Reader_advance_228 ?_
                refine j_iconst (pc := 231) C (v := 1) d_Reader_advance_231 (by decide) ?_
                refine j_icmp_neT (pc := 232) C (tgt := 242) d_Reader_advance_232 (by decide) (by decide) ?_
                refine j_aload_n (pc := 242) C d_Reader_advance_242 rfl 3 rfl ?_
                refine j_get (pc := 243) C gf_Reader_50 0 rfl rfl d_Reader_advance_243 ?_
                refine j_iconst (pc := 246) C (v := 2) d_Reader_advance_246 (by decide) ?_
                refine j_icmp_neF (pc := 247) C (tgt := 254) d_Reader_advance_247 (by decide) (by decide) ?_
                refine j_aload_n (pc := 250) C d_Reader_advance_250 rfl 3 rfl ?_
                refine j_callVv (pc := 251) C (c_rF_knowNumber l D y rd ow tp lk td fa pl 2 le wo nu (nI (tx az)) cz az k tx he_ (by omega) hk hB (fun i h1 h2 => srt_2' (hg_ i h1 h2))) kw_Reader_302 kv_Reader_knowNumber 0 5 rfl rfl ⟨by decide, by decide⟩ ⟨by decide, by decide⟩ (wr := [(ow, .inl (y 1, 33, .inr (.inl ww)))]) [0, 1, 2] [3] rfl rfl (by decide) (by decide) (by decide) (As := []) (rest := []) rfl (nb rfl) rfl d_Reader_advance_251 (fun u259 hu260 => ?_)
                have xh261 := hu260
                refine j_ws (ws' := [(ow, .inl (y 1, 33, .inr (.inl ww))), (rd, .inr (5, [.int fa, .int pl, .ref ow, .ref tp, .ref lk, .int (nI cz), .int 2, .int (nI az), .long le, .int wo, .int u259, .int (nI (tx az))])), (tp, .inr (0, [.ref td, .int (nI k)])), (td, .inl (y 0, 1600, .inl (tby tx)))]) rfl ?_
                exact j_vret (pc := 254) C hr (cz, az, 2, le, wo, u259, nI (tx az)) ⟨show cz ≤ k by omega, show az ≤ cz by omega, (by rw [hG2]; exact cl_num (q := az) (e := cz) hq179 (by omega) (fun h => by have h2 := h.2; omega) hg_ (by omega) (fun h => by have h1 := h.1; have h2 := h.2; omega) xh261 rfl)⟩ [1, 2, 3, 0] rfl (by decide) (by decide) (by decide) d_Reader_advance_254
          · refine j_put (pc := 163) C pf_Reader_50 0 (ws' := [(rd, .inr (5, [.int fa, .int pl, .ref ow, .ref tp, .ref lk, .int (nI az), .int 3, .int (nI az), .long le, .int wo, .int nu, .int (nI (tx az))])), (tp, .inr (0, [.ref td, .int (nI k)])), (td, .inl (y 0, 1600, .inl (tby tx))), (ow, .inl (y 1, 33, .inr (.inl ww)))]) rfl rfl rfl (nl rfl) rfl d_Reader_advance_163 ?_
            refine j_aload_n (pc := 166) C d_Reader_advance_166 rfl 3 rfl ?_
            refine j_dup (pc := 167) C d_Reader_advance_167 rfl ?_
            refine j_get (pc := 168) C gf_Reader_47 0 rfl rfl d_Reader_advance_168 ?_
            refine j_iconst (pc := 171) C (v := 1) d_Reader_advance_171 (by decide) ?_
            refine j_iadd (pc := 172) C (v := nI (az + 1)) d_Reader_advance_172 (nI_add _ _) ?_
            refine j_put (pc := 173) C pf_Reader_47 0 (ws' := [(rd, .inr (5, [.int fa, .int pl, .ref ow, .ref tp, .ref lk, .int (nI (az + 1)), .int 3, .int (nI az), .long le, .int wo, .int nu, .int (nI (tx az))])), (tp, .inr (0, [.ref td, .int (nI k)])), (td, .inl (y 0, 1600, .inl (tby tx))), (ow, .inl (y 1, 33, .inr (.inl ww)))]) rfl rfl rfl (nl rfl) rfl d_Reader_advance_173 ?_
            refine j_aload_n (pc := 176) C d_Reader_advance_176 rfl 3 rfl ?_
            refine j_get (pc := 177) C gf_Reader_47 0 rfl rfl d_Reader_advance_177 ?_
            refine j_iload_n (pc := 180) C d_Reader_advance_180 rfl 0 rfl ?_
            by_cases c262 : k ≤ (az + 1)
            · refine j_icmp_geT (pc := 181) C (tgt := 227) d_Reader_advance_181 (by decide) (show nI k ≤ nI (az + 1) from nI_le (by omega) (by omega)) ?_
              refine j_aload_n (pc := 227) C d_Reader_advance_227 rfl 3 rfl ?_
              refine j_get (pc := 228) C gf_Reader_50 0 rfl rfl d_Reader_advance_228 ?_
              refine j_iconst (pc := 231) C (v := 1) d_Reader_advance_231 (by decide) ?_
              refine j_icmp_neT (pc := 232) C (tgt := 242) d_Reader_advance_232 (by decide) (by decide) ?_
              refine j_aload_n (pc := 242) C d_Reader_advance_242 rfl 3 rfl ?_
              refine j_get (pc := 243) C gf_Reader_50 0 rfl rfl d_Reader_advance_243 ?_
              refine j_iconst (pc := 246) C (v := 2) d_Reader_advance_246 (by decide) ?_
              refine j_icmp_neT (pc := 247) C (tgt := 254) d_Reader_advance_247 (by decide) (by decide) ?_
              exact j_vret (pc := 254) C hr ((az + 1), az, 3, le, wo, nu, nI (tx az)) ⟨show (az + 1) ≤ k by omega, show az ≤ (az + 1) by omega, (by rw [hG2]; exact cl_sign (q := az) hq179 (by omega) (Or.inr xh187) rfl)⟩ [0, 1, 2, 3] rfl (by decide) (by decide) (by decide) d_Reader_advance_254
            · refine j_icmp_geF (pc := 181) C (tgt := 227) d_Reader_advance_181 (by decide) (show ¬ nI k ≤ nI (az + 1) from nI_ge (by omega) (by omega)) ?_
              refine j_aload_n (pc := 184) C d_Reader_advance_184 rfl 3 rfl ?_
              refine j_get (pc := 185) C gf_Reader_50 0 rfl rfl d_Reader_advance_185 ?_
              refine j_iconst (pc := 188) C (v := 3) d_Reader_advance_188 (by decide) ?_
              refine j_icmp_eqT (pc := 189) C (tgt := 227) d_Reader_advance_189 (by decide) (by decide) ?_
              refine j_aload_n (pc := 227) C d_Reader_advance_227 rfl 3 rfl ?_
              refine j_get (pc := 228) C gf_Reader_50 0 rfl rfl d_Reader_advance_228 ?_
              refine j_iconst (pc := 231) C (v := 1) d_Reader_advance_231 (by decide) ?_
              refine j_icmp_neT (pc := 232) C (tgt := 242) d_Reader_advance_232 (by decide) (by decide) ?_
              refine j_aload_n (pc := 242) C d_Reader_advance_242 rfl 3 rfl ?_
              refine j_get (pc := 243) C gf_Reader_50 0 rfl rfl d_Reader_advance_243 ?_
              refine j_iconst (pc := 246) C (v := 2) d_Reader_advance_246 (by decide) ?_
              refine j_icmp_neT (pc := 247) C (tgt := 254) d_Reader_advance_247 (by decide) (by decide) ?_
              exact j_vret (pc := 254) C hr ((az + 1), az, 3, le, wo, nu, nI (tx az)) ⟨show (az + 1) ≤ k by omega, show az ≤ (az + 1) by omega, (by rw [hG2]; exact cl_sign (q := az) hq179 (by omega) (Or.inr xh187) rfl)⟩ [0, 1, 2, 3] rfl (by decide) (by decide) (by decide) d_Reader_advance_254
        · refine j_icmp_neF (pc := 149) C (tgt := 156) d_Reader_advance_149 (by decide) (show nI az = nI ra from (nI_eq (by omega) (by omega)).mpr (by omega)) ?_
          refine j_iconst (pc := 152) C (v := 3) d_Reader_advance_152 (by decide) ?_
          refine j_goto (pc := 153) C (tgt := 163) d_Reader_advance_153 (by decide) ?_
          refine j_put (pc := 163) C pf_Reader_50 0 (ws' := [(rd, .inr (5, [.int fa, .int pl, .ref ow, .ref tp, .ref lk, .int (nI az), .int 3, .int (nI az), .long le, .int wo, .int nu, .int (nI (tx az))])), (tp, .inr (0, [.ref td, .int (nI k)])), (td, .inl (y 0, 1600, .inl (tby tx))), (ow, .inl (y 1, 33, .inr (.inl ww)))]) rfl rfl rfl (nl rfl) rfl d_Reader_advance_163 ?_
          refine j_aload_n (pc := 166) C d_Reader_advance_166 rfl 3 rfl ?_
          refine j_dup (pc := 167) C d_Reader_advance_167 rfl ?_
          refine j_get (pc := 168) C gf_Reader_47 0 rfl rfl d_Reader_advance_168 ?_
          refine j_iconst (pc := 171) C (v := 1) d_Reader_advance_171 (by decide) ?_
          refine j_iadd (pc := 172) C (v := nI (az + 1)) d_Reader_advance_172 (nI_add _ _) ?_
          refine j_put (pc := 173) C pf_Reader_47 0 (ws' := [(rd, .inr (5, [.int fa, .int pl, .ref ow, .ref tp, .ref lk, .int (nI (az + 1)), .int 3, .int (nI az), .long le, .int wo, .int nu, .int (nI (tx az))])), (tp, .inr (0, [.ref td, .int (nI k)])), (td, .inl (y 0, 1600, .inl (tby tx))), (ow, .inl (y 1, 33, .inr (.inl ww)))]) rfl rfl rfl (nl rfl) rfl d_Reader_advance_173 ?_
          refine j_aload_n (pc := 176) C d_Reader_advance_176 rfl 3 rfl ?_
          refine j_get (pc := 177) C gf_Reader_47 0 rfl rfl d_Reader_advance_177 ?_
          refine j_iload_n (pc := 180) C d_Reader_advance_180 rfl 0 rfl ?_
          by_cases c263 : k ≤ (az + 1)
          · refine j_icmp_geT (pc := 181) C (tgt := 227) d_Reader_advance_181 (by decide) (show nI k ≤ nI (az + 1) from nI_le (by omega) (by omega)) ?_
            refine j_aload_n (pc := 227) C d_Reader_advance_227 rfl 3 rfl ?_
            refine j_get (pc := 228) C gf_Reader_50 0 rfl rfl d_Reader_advance_228 ?_
            refine j_iconst (pc := 231) C (v := 1) d_Reader_advance_231 (by decide) ?_
            refine j_icmp_neT (pc := 232) C (tgt := 242) d_Reader_advance_232 (by decide) (by decide) ?_
            refine j_aload_n (pc := 242) C d_Reader_advance_242 rfl 3 rfl ?_
            refine j_get (pc := 243) C gf_Reader_50 0 rfl rfl d_Reader_advance_243 ?_
            refine j_iconst (pc := 246) C (v := 2) d_Reader_advance_246 (by decide) ?_
            refine j_icmp_neT (pc := 247) C (tgt := 254) d_Reader_advance_247 (by decide) (by decide) ?_
            exact j_vret (pc := 254) C hr ((az + 1), az, 3, le, wo, nu, nI (tx az)) ⟨show (az + 1) ≤ k by omega, show az ≤ (az + 1) by omega, (by rw [hG2]; exact cl_sign (q := az) hq179 (by omega) (Or.inl ⟨rfl, by omega⟩) rfl)⟩ [0, 1, 2, 3] rfl (by decide) (by decide) (by decide) d_Reader_advance_254
          · refine j_icmp_geF (pc := 181) C (tgt := 227) d_Reader_advance_181 (by decide) (show ¬ nI k ≤ nI (az + 1) from nI_ge (by omega) (by omega)) ?_
            refine j_aload_n (pc := 184) C d_Reader_advance_184 rfl 3 rfl ?_
            refine j_get (pc := 185) C gf_Reader_50 0 rfl rfl d_Reader_advance_185 ?_
            refine j_iconst (pc := 188) C (v := 3) d_Reader_advance_188 (by decide) ?_
            refine j_icmp_eqT (pc := 189) C (tgt := 227) d_Reader_advance_189 (by decide) (by decide) ?_
            refine j_aload_n (pc := 227) C d_Reader_advance_227 rfl 3 rfl ?_
            refine j_get (pc := 228) C gf_Reader_50 0 rfl rfl d_Reader_advance_228 ?_
            refine j_iconst (pc := 231) C (v := 1) d_Reader_advance_231 (by decide) ?_
            refine j_icmp_neT (pc := 232) C (tgt := 242) d_Reader_advance_232 (by decide) (by decide) ?_
            refine j_aload_n (pc := 242) C d_Reader_advance_242 rfl 3 rfl ?_
            refine j_get (pc := 243) C gf_Reader_50 0 rfl rfl d_Reader_advance_243 ?_
            refine j_iconst (pc := 246) C (v := 2) d_Reader_advance_246 (by decide) ?_
            refine j_icmp_neT (pc := 247) C (tgt := 254) d_Reader_advance_247 (by decide) (by decide) ?_
            exact j_vret (pc := 254) C hr ((az + 1), az, 3, le, wo, nu, nI (tx az)) ⟨show (az + 1) ≤ k by omega, show az ≤ (az + 1) by omega, (by rw [hG2]; exact cl_sign (q := az) hq179 (by omega) (Or.inl ⟨rfl, by omega⟩) rfl)⟩ [0, 1, 2, 3] rfl (by decide) (by decide) (by decide) d_Reader_advance_254
      · refine j_icmp_ltF (pc := 114) C (tgt := 123) d_Reader_advance_114 (by decide) (show ¬ nI az < nI k from nI_nlt (by omega) (by omega)) ?_
        refine j_aload_n (pc := 117) C d_Reader_advance_117 rfl 3 rfl ?_
        refine j_iconst (pc := 118) C (v := 0) d_Reader_advance_118 (by decide) ?_
        refine j_put (pc := 119) C pf_Reader_50 0 (ws' := [(rd, .inr (5, [.int fa, .int pl, .ref ow, .ref tp, .ref lk, .int (nI az), .int 0, .int (nI az), .long le, .int wo, .int nu, .int si])), (tp, .inr (0, [.ref td, .int (nI k)])), (td, .inl (y 0, 1600, .inl (tby tx))), (ow, .inl (y 1, 33, .inr (.inl ww)))]) rfl rfl rfl (nl rfl) rfl d_Reader_advance_119 ?_
        exact j_vret (pc := 122) C hr (az, az, 0, le, wo, nu, si) ⟨show az ≤ k by omega, show az ≤ az by omega, (by rw [hG2]; exact cl_end (q := az) hq179 (by omega))⟩ [0, 1, 2, 3] rfl (by decide) (by decide) (by decide) d_Reader_advance_122
    · refine j_icmp_geF (pc := 51) C (tgt := 101) d_Reader_advance_51 (by decide) (show ¬ nI k ≤ nI az from nI_ge (by omega) (by omega)) ?_
      refine j_aload_n (pc := 54) C d_Reader_advance_54 rfl 3 rfl ?_
      refine j_get (pc := 55) C gf_Reader_19 0 rfl rfl d_Reader_advance_55 ?_
      refine j_get (pc := 58) C gf_Reader_288 1 rfl rfl d_Reader_advance_58 ?_
      refine j_aload_n (pc := 61) C d_Reader_advance_61 rfl 3 rfl ?_
      refine j_get (pc := 62) C gf_Reader_47 0 rfl rfl d_Reader_advance_62 ?_
      have hb264 : tx az < 256 := hB az
      refine j_iald (pc := 65) C 2 rfl (v := nI (tx az)) (vp_in_nI (by omega) (by decide)) (by rw [nI_clamp (by omega)]; rfl) d_Reader_advance_65 ?_
      refine j_bipush (pc := 66) C (v := 32) d_Reader_advance_66 (by decide) ?_
      by_cases c265 : (tx az) = 32
      · refine j_icmp_eqT (pc := 68) C (tgt := 88) d_Reader_advance_68 (by decide) (show nI (tx az) = nI 32 from (nI_eq (by omega) (by omega)).mpr (by omega)) ?_
        refine j_aload_n (pc := 88) C d_Reader_advance_88 rfl 3 rfl ?_
        refine j_dup (pc := 89) C d_Reader_advance_89 rfl ?_
        refine j_get (pc := 90) C gf_Reader_47 0 rfl rfl d_Reader_advance_90 ?_
        refine j_iconst (pc := 93) C (v := 1) d_Reader_advance_93 (by decide) ?_
        refine j_iadd (pc := 94) C (v := nI (az + 1)) d_Reader_advance_94 (nI_add _ _) ?_
        refine j_put (pc := 95) C pf_Reader_47 0 (ws' := [(rd, .inr (5, [.int fa, .int pl, .ref ow, .ref tp, .ref lk, .int (nI (az + 1)), .int so, .int b0, .long le, .int wo, .int nu, .int si])), (tp, .inr (0, [.ref td, .int (nI k)])), (td, .inl (y 0, 1600, .inl (tby tx))), (ow, .inl (y 1, 33, .inr (.inl ww)))]) rfl rfl rfl (nl rfl) rfl d_Reader_advance_95 ?_
        refine j_goto (pc := 98) C (tgt := 46) d_Reader_advance_98 (by decide) ?_
        exact ih177 ((az + 1)) ⟨(show (az + 1) ≤ k by omega), (show ra ≤ (az + 1) by omega), (fun i h1 h2 => by
                by_cases e : i = az
                · rw [e]; omega
                · exact hc_ i h1 (by omega))⟩ (show k - (az + 1) < k - az by omega)
      · refine j_icmp_eqF (pc := 68) C (tgt := 88) d_Reader_advance_68 (by decide) (show ¬ nI (tx az) = nI 32 from fun e => absurd ((nI_eq (by omega) (by omega)).mp e) (by omega)) ?_
        refine j_aload_n (pc := 71) C d_Reader_advance_71 rfl 3 rfl ?_
        refine j_get (pc := 72) C gf_Reader_19 0 rfl rfl d_Reader_advance_72 ?_
        refine j_get (pc := 75) C gf_Reader_288 1 rfl rfl d_Reader_advance_75 ?_
        refine j_aload_n (pc := 78) C d_Reader_advance_78 rfl 3 rfl ?_
        refine j_get (pc := 79) C gf_Reader_47 0 rfl rfl d_Reader_advance_79 ?_
        refine j_iald (pc := 82) C 2 rfl (v := nI (tx az)) (vp_in_nI (by omega) (by decide)) (by rw [nI_clamp (by omega)]; rfl) d_Reader_advance_82 ?_
        refine j_bipush (pc := 83) C (v := 10) d_Reader_advance_83 (by decide) ?_
        by_cases c266 : ¬ (tx az) = 10
        · refine j_icmp_neT (pc := 85) C (tgt := 101) d_Reader_advance_85 (by decide) (show ¬ nI (tx az) = nI 10 from fun e => absurd ((nI_eq (by omega) (by omega)).mp e) (by omega)) ?_
          have hq267 : tq tx k ra = az := sq_eq (by omega) (fun i h1 h2 => ⟨by omega, decide_eq_true (hc_ i h1 h2)⟩) (fun h => by have h1 := h.1; have h2 : tx az = 32 ∨ tx az = 10 := of_decide_eq_true h.2; omega)
          refine j_aload_n (pc := 101) C d_Reader_advance_101 rfl 3 rfl ?_
          refine j_aload_n (pc := 102) C d_Reader_advance_102 rfl 3 rfl ?_
          refine j_get (pc := 103) C gf_Reader_47 0 rfl rfl d_Reader_advance_103 ?_
          refine j_put (pc := 106) C pf_Reader_62 0 (ws' := [(rd, .inr (5, [.int fa, .int pl, .ref ow, .ref tp, .ref lk, .int (nI az), .int so, .int (nI az), .long le, .int wo, .int nu, .int si])), (tp, .inr (0, [.ref td, .int (nI k)])), (td, .inl (y 0, 1600, .inl (tby tx))), (ow, .inl (y 1, 33, .inr (.inl ww)))]) rfl rfl rfl (nl rfl) rfl d_Reader_advance_106 ?_
          refine j_aload_n (pc := 109) C d_Reader_advance_109 rfl 3 rfl ?_
          refine j_get (pc := 110) C gf_Reader_47 0 rfl rfl d_Reader_advance_110 ?_
          refine j_iload_n (pc := 113) C d_Reader_advance_113 rfl 0 rfl ?_
          by_cases c268 : az < k
          · refine j_icmp_ltT (pc := 114) C (tgt := 123) d_Reader_advance_114 (by decide) (show nI az < nI k from nI_lt (by omega) (by omega)) ?_
            refine j_aload_n (pc := 123) C d_Reader_advance_123 rfl 3 rfl ?_
            refine j_aload_n (pc := 124) C d_Reader_advance_124 rfl 3 rfl ?_
            refine j_get (pc := 125) C gf_Reader_19 0 rfl rfl d_Reader_advance_125 ?_
            refine j_get (pc := 128) C gf_Reader_288 1 rfl rfl d_Reader_advance_128 ?_
            refine j_aload_n (pc := 131) C d_Reader_advance_131 rfl 3 rfl ?_
            refine j_get (pc := 132) C gf_Reader_47 0 rfl rfl d_Reader_advance_132 ?_
            refine j_iald (pc := 135) C 2 rfl (v := nI (tx az)) (vp_in_nI (by omega) (by decide)) (by rw [nI_clamp (by omega)]; rfl) d_Reader_advance_135 ?_
            refine j_put (pc := 136) C pf_Reader_272 0 (ws' := [(rd, .inr (5, [.int fa, .int pl, .ref ow, .ref tp, .ref lk, .int (nI az), .int so, .int (nI az), .long le, .int wo, .int nu, .int (nI (tx az))])), (tp, .inr (0, [.ref td, .int (nI k)])), (td, .inl (y 0, 1600, .inl (tby tx))), (ow, .inl (y 1, 33, .inr (.inl ww)))]) rfl rfl rfl (nl rfl) rfl d_Reader_advance_136 ?_
            refine j_aload_n (pc := 139) C d_Reader_advance_139 rfl 3 rfl ?_
            refine j_iload_n (pc := 140) C d_Reader_advance_140 rfl 2 rfl ?_
            refine j_if_eqF (pc := 141) C (tgt := 156) d_Reader_advance_141 (by decide) (by decide) ?_
            refine j_aload_n (pc := 144) C d_Reader_advance_144 rfl 3 rfl ?_
            refine j_get (pc := 145) C gf_Reader_47 0 rfl rfl d_Reader_advance_145 ?_
            refine j_iload_n (pc := 148) C d_Reader_advance_148 rfl 1 rfl ?_
            by_cases c269 : ¬ az = ra
            · refine j_icmp_neT (pc := 149) C (tgt := 156) d_Reader_advance_149 (by decide) (show ¬ nI az = nI ra from fun e => absurd ((nI_eq (by omega) (by omega)).mp e) (by omega)) ?_
              refine j_aload_n (pc := 156) C d_Reader_advance_156 rfl 3 rfl ?_
              refine j_get (pc := 157) C gf_Reader_272 0 rfl rfl d_Reader_advance_157 ?_
              refine j_callSi (pc := 160) C (c_sortOfF l D y (tx az) (by omega)) kw_Reader_296 ks_Reader_sortOf ⟨by decide, by decide⟩ ⟨by decide, by decide⟩ (wr := [(rd, .inr (5, [.int fa, .int pl, .ref ow, .ref tp, .ref lk, .int (nI az), .int so, .int (nI az), .long le, .int wo, .int nu, .int (nI (tx az))])), (tp, .inr (0, [.ref td, .int (nI k)])), (td, .inl (y 0, 1600, .inl (tby tx))), (ow, .inl (y 1, 33, .inr (.inl ww)))]) [] [0, 1, 2, 3] rfl rfl (by decide) (by decide) (by decide) (As := [.int (nI (tx az))]) (rest := [.ref rd]) rfl (nb rfl) rfl d_Reader_advance_160 (fun r270 _ hr270 => ?_)
              refine j_ws (ws' := [(rd, .inr (5, [.int fa, .int pl, .ref ow, .ref tp, .ref lk, .int (nI az), .int so, .int (nI az), .long le, .int wo, .int nu, .int (nI (tx az))])), (tp, .inr (0, [.ref td, .int (nI k)])), (td, .inl (y 0, 1600, .inl (tby tx))), (ow, .inl (y 1, 33, .inr (.inl ww)))]) rfl ?_
              rcases hr270 with ⟨rfl, xh272⟩ | ⟨rfl, xh273⟩ | ⟨rfl, xh274⟩
              · refine j_put (pc := 163) C pf_Reader_50 0 (ws' := [(rd, .inr (5, [.int fa, .int pl, .ref ow, .ref tp, .ref lk, .int (nI az), .int 1, .int (nI az), .long le, .int wo, .int nu, .int (nI (tx az))])), (tp, .inr (0, [.ref td, .int (nI k)])), (td, .inl (y 0, 1600, .inl (tby tx))), (ow, .inl (y 1, 33, .inr (.inl ww)))]) rfl rfl rfl (nl rfl) rfl d_Reader_advance_163 ?_
                refine j_aload_n (pc := 166) C d_Reader_advance_166 rfl 3 rfl ?_
                refine j_dup (pc := 167) C d_Reader_advance_167 rfl ?_
                refine j_get (pc := 168) C gf_Reader_47 0 rfl rfl d_Reader_advance_168 ?_
                refine j_iconst (pc := 171) C (v := 1) d_Reader_advance_171 (by decide) ?_
                refine j_iadd (pc := 172) C (v := nI (az + 1)) d_Reader_advance_172 (nI_add _ _) ?_
                refine j_put (pc := 173) C pf_Reader_47 0 (ws' := [(rd, .inr (5, [.int fa, .int pl, .ref ow, .ref tp, .ref lk, .int (nI (az + 1)), .int 1, .int (nI az), .long le, .int wo, .int nu, .int (nI (tx az))])), (tp, .inr (0, [.ref td, .int (nI k)])), (td, .inl (y 0, 1600, .inl (tby tx))), (ow, .inl (y 1, 33, .inr (.inl ww)))]) rfl rfl rfl (nl rfl) rfl d_Reader_advance_173 ?_
                refine j_loop (α := Nat) (fun a => k - a) (fun a => (az + 1 ≤ a) ∧ (a ≤ k) ∧ ((∀ i, az ≤ i → i < a → srt (tx i) = 1))) (fun a => [(rd, .inr (5, [.int fa, .int pl, .ref ow, .ref tp, .ref lk, .int (nI a), .int 1, .int (nI az), .long le, .int wo, .int nu, .int (nI (tx az))])), (tp, .inr (0, [.ref td, .int (nI k)])), (td, .inl (y 0, 1600, .inl (tby tx))), (ow, .inl (y 1, 33, .inr (.inl ww)))]) (fun a => [(3, .int (nI k)), (2, .int (nI ra)), (1, .int 1), (0, .ref rd)]) ((az + 1)) rfl rfl ⟨(show az + 1 ≤ (az + 1) by omega), (show (az + 1) ≤ k by omega), (fun i h1 h2 => by rw [show i = az by omega]; exact xh272)⟩ ?_
                rintro cz hP294 ih295
                obtain ⟨hd__, he__, hg__⟩ := hP294
                have hd_ : az + 1 ≤ cz := hd__
                have he_ : cz ≤ k := he__
                have hg_ : (∀ i, az ≤ i → i < cz → srt (tx i) = 1) := hg__
                refine j_ws (ws' := [(rd, .inr (5, [.int fa, .int pl, .ref ow, .ref tp, .ref lk, .int (nI cz), .int 1, .int (nI az), .long le, .int wo, .int nu, .int (nI (tx az))])), (tp, .inr (0, [.ref td, .int (nI k)])), (td, .inl (y 0, 1600, .inl (tby tx))), (ow, .inl (y 1, 33, .inr (.inl ww)))]) rfl ?_
                refine j_lv (lv' := [(3, .int (nI k)), (2, .int (nI ra)), (1, .int 1), (0, .ref rd)]) rfl ?_
                refine j_aload_n (pc := 176) C d_Reader_advance_176 rfl 3 rfl ?_
                refine j_get (pc := 177) C gf_Reader_47 0 rfl rfl d_Reader_advance_177 ?_
                refine j_iload_n (pc := 180) C d_Reader_advance_180 rfl 0 rfl ?_
                by_cases c296 : k ≤ cz
                · refine j_icmp_geT (pc := 181) C (tgt := 227) d_Reader_advance_181 (by decide) (show nI k ≤ nI cz from nI_le (by omega) (by omega)) ?_
                  refine j_aload_n (pc := 227) C d_Reader_advance_227 rfl 3 rfl ?_
                  refine j_get (pc := 228) C gf_Reader_50 0 rfl rfl d_Reader_advance_228 ?_
                  refine j_iconst (pc := 231) C (v := 1) d_Reader_advance_231 (by decide) ?_
                  refine j_icmp_neF (pc := 232) C (tgt := 242) d_Reader_advance_232 (by decide) (by decide) ?_
                  refine j_aload_n (pc := 235) C d_Reader_advance_235 rfl 3 rfl ?_
                  refine j_callVv (pc := 236) C (c_rF_knowWord l D y rd ow tp lk td fa pl 1 le wo nu (nI (tx az)) cz az k tx ww he_ (by omega) hk hB (fun i h1 h2 => srt_1' (hg_ i h1 h2))) kw_Reader_299 kv_Reader_knowWord 0 5 rfl rfl ⟨by decide, by decide⟩ ⟨by decide, by decide⟩ (wr := []) [0, 1, 2, 3] [] rfl rfl (by decide) (by decide) (by decide) (As := []) (rest := []) rfl (nb rfl) rfl d_Reader_advance_236 (fun u297 hu298 => ?_)
                  obtain ⟨xh299, xh300⟩ := hu298
                  refine j_ws (ws' := [(rd, .inr (5, [.int fa, .int pl, .ref ow, .ref tp, .ref lk, .int (nI cz), .int 1, .int (nI az), .long u297.1, .int u297.2, .int nu, .int (nI (tx az))])), (tp, .inr (0, [.ref td, .int (nI k)])), (td, .inl (y 0, 1600, .inl (tby tx))), (ow, .inl (y 1, 33, .inr (.inl ww)))]) rfl ?_
                  refine j_goto (pc := 239) C (tgt := 254) d_Reader_advance_239 (by decide) ?_
                  exact j_vret (pc := 254) C hr (cz, az, 1, u297.1, u297.2, nu, nI (tx az)) ⟨show cz ≤ k by omega, show az ≤ cz by omega, (by rw [hG2]; exact cl_word (q := az) (e := cz) hq267 (by omega) (fun h => by have h2 := h.2; omega) hg_ (by omega) (fun h => by have h1 := h.1; have h2 := h.2; omega) hWW xh299 xh300 rfl)⟩ [0, 1, 2, 3] rfl (by decide) (by decide) (by decide) d_Reader_advance_254
                · refine j_icmp_geF (pc := 181) C (tgt := 227) d_Reader_advance_181 (by decide) (show ¬ nI k ≤ nI cz from nI_ge (by omega) (by omega)) ?_
                  refine j_aload_n (pc := 184) C d_Reader_advance_184 rfl 3 rfl ?_
                  refine j_get (pc := 185) C gf_Reader_50 0 rfl rfl d_Reader_advance_185 ?_
                  refine j_iconst (pc := 188) C (v := 3) d_Reader_advance_188 (by decide) ?_
                  refine j_icmp_eqF (pc := 189) C (tgt := 227) d_Reader_advance_189 (by decide) (by decide) ?_
                  refine j_aload_n (pc := 192) C d_Reader_advance_192 rfl 3 rfl ?_
                  refine j_get (pc := 193) C gf_Reader_19 0 rfl rfl d_Reader_advance_193 ?_
                  refine j_get (pc := 196) C gf_Reader_288 1 rfl rfl d_Reader_advance_196 ?_
                  refine j_aload_n (pc := 199) C d_Reader_advance_199 rfl 3 rfl ?_
                  refine j_get (pc := 200) C gf_Reader_47 0 rfl rfl d_Reader_advance_200 ?_
                  have hb301 : tx cz < 256 := hB cz
                  refine j_iald (pc := 203) C 2 rfl (v := nI (tx cz)) (vp_in_nI (by omega) (by decide)) (by rw [nI_clamp (by omega)]; rfl) d_Reader_advance_203 ?_
                  refine j_callSi (pc := 204) C (c_sortOfF l D y (tx cz) (by omega)) kw_Reader_296 ks_Reader_sortOf ⟨by decide, by decide⟩ ⟨by decide, by decide⟩ (wr := [(rd, .inr (5, [.int fa, .int pl, .ref ow, .ref tp, .ref lk, .int (nI cz), .int 1, .int (nI az), .long le, .int wo, .int nu, .int (nI (tx az))])), (tp, .inr (0, [.ref td, .int (nI k)])), (td, .inl (y 0, 1600, .inl (tby tx))), (ow, .inl (y 1, 33, .inr (.inl ww)))]) [] [0, 1, 2, 3] rfl rfl (by decide) (by decide) (by decide) (As := [.int (nI (tx cz))]) (rest := []) rfl (nb rfl) rfl d_Reader_advance_204 (fun r302 _ hr302 => ?_)
                  refine j_ws (ws' := [(rd, .inr (5, [.int fa, .int pl, .ref ow, .ref tp, .ref lk, .int (nI cz), .int 1, .int (nI az), .long le, .int wo, .int nu, .int (nI (tx az))])), (tp, .inr (0, [.ref td, .int (nI k)])), (td, .inl (y 0, 1600, .inl (tby tx))), (ow, .inl (y 1, 33, .inr (.inl ww)))]) rfl ?_
                  rcases hr302 with ⟨rfl, xh304⟩ | ⟨rfl, xh305⟩ | ⟨rfl, xh306⟩
                  · refine j_aload_n (pc := 207) C d_Reader_advance_207 rfl 3 rfl ?_
                    refine j_get (pc := 208) C gf_Reader_50 0 rfl rfl d_Reader_advance_208 ?_
                    refine j_icmp_neF (pc := 211) C (tgt := 227) d_Reader_advance_211 (by decide) (by decide) ?_
                    refine j_aload_n (pc := 214) C d_Reader_advance_214 rfl 3 rfl ?_
                    refine j_dup (pc := 215) C d_Reader_advance_215 rfl ?_
                    refine j_get (pc := 216) C gf_Reader_47 0 rfl rfl d_Reader_advance_216 ?_
                    refine j_iconst (pc := 219) C (v := 1) d_Reader_advance_219 (by decide) ?_
                    refine j_iadd (pc := 220) C (v := nI (cz + 1)) d_Reader_advance_220 (nI_add _ _) ?_
                    refine j_put (pc := 221) C pf_Reader_47 0 (ws' := [(rd, .inr (5, [.int fa, .int pl, .ref ow, .ref tp, .ref lk, .int (nI (cz + 1)), .int 1, .int (nI az), .long le, .int wo, .int nu, .int (nI (tx az))])), (tp, .inr (0, [.ref td, .int (nI k)])), (td, .inl (y 0, 1600, .inl (tby tx))), (ow, .inl (y 1, 33, .inr (.inl ww)))]) rfl rfl rfl (nl rfl) rfl d_Reader_advance_221 ?_
                    refine j_goto (pc := 224) C (tgt := 176) d_Reader_advance_224 (by decide) ?_
                    exact ih295 ((cz + 1)) ⟨(show az + 1 ≤ (cz + 1) by omega), (show (cz + 1) ≤ k by omega), (fun i h1 h2 => by
                            by_cases e : i = cz
                            · rw [e]; exact xh304
                            · exact hg_ i h1 (by omega))⟩ (show k - (cz + 1) < k - cz by omega)
                  · refine j_aload_n (pc := 207) C d_Reader_advance_207 rfl 3 rfl ?_
                    refine j_get (pc := 208) C gf_Reader_50 0 rfl rfl d_Reader_advance_208 ?_
                    refine j_icmp_neT (pc := 211) C (tgt := 227) d_Reader_advance_211 (by decide) (by decide) ?_
                    refine j_aload_n (pc := 227) C d_Reader_advance_227 rfl 3 rfl ?_
                    refine j_get (pc := 228) C gf_Reader_50 0 rfl rfl d_Reader_advance_228 ?_
                    refine j_iconst (pc := 231) C (v := 1) d_Reader_advance_231 (by decide) ?_
                    refine j_icmp_neF (pc := 232) C (tgt := 242) d_Reader_advance_232 (by decide) (by decide) ?_
                    refine j_aload_n (pc := 235) C d_Reader_advance_235 rfl 3 rfl ?_
                    refine j_callVv (pc := 236) C (c_rF_knowWord l D y rd ow tp lk td fa pl 1 le wo nu (nI (tx az)) cz az k tx ww he_ (by omega) hk hB (fun i h1 h2 => srt_1' (hg_ i h1 h2))) kw_Reader_299 kv_Reader_knowWord 0 5 rfl rfl ⟨by decide, by decide⟩ ⟨by decide, by decide⟩ (wr := []) [0, 1, 2, 3] [] rfl rfl (by decide) (by decide) (by decide) (As := []) (rest := []) rfl (nb rfl) rfl d_Reader_advance_236 (fun u307 hu308 => ?_)
                    obtain ⟨xh309, xh310⟩ := hu308
                    refine j_ws (ws' := [(rd, .inr (5, [.int fa, .int pl, .ref ow, .ref tp, .ref lk, .int (nI cz), .int 1, .int (nI az), .long u307.1, .int u307.2, .int nu, .int (nI (tx az))])), (tp, .inr (0, [.ref td, .int (nI k)])), (td, .inl (y 0, 1600, .inl (tby tx))), (ow, .inl (y 1, 33, .inr (.inl ww)))]) rfl ?_
                    refine j_goto (pc := 239) C (tgt := 254) d_Reader_advance_239 (by decide) ?_
                    exact j_vret (pc := 254) C hr (cz, az, 1, u307.1, u307.2, nu, nI (tx az)) ⟨show cz ≤ k by omega, show az ≤ cz by omega, (by rw [hG2]; exact cl_word (q := az) (e := cz) hq267 (by omega) (fun h => by have h2 := h.2; omega) hg_ (by omega) (fun h => by have h1 := h.1; have h2 := h.2; omega) hWW xh309 xh310 rfl)⟩ [0, 1, 2, 3] rfl (by decide) (by decide) (by decide) d_Reader_advance_254
                  · refine j_aload_n (pc := 207) C d_Reader_advance_207 rfl 3 rfl ?_
                    refine j_get (pc := 208) C gf_Reader_50 0 rfl rfl d_Reader_advance_208 ?_
                    refine j_icmp_neT (pc := 211) C (tgt := 227) d_Reader_advance_211 (by decide) (by decide) ?_
                    refine j_aload_n (pc := 227) C d_Reader_advance_227 rfl 3 rfl ?_
                    refine j_get (pc := 228) C gf_Reader_50 0 rfl rfl d_Reader_advance_228 ?_
                    refine j_iconst (pc := 231) C (v := 1) d_Reader_advance_231 (by decide) ?_
                    refine j_icmp_neF (pc := 232) C (tgt := 242) d_Reader_advance_232 (by decide) (by decide) ?_
                    refine j_aload_n (pc := 235) C d_Reader_advance_235 rfl 3 rfl ?_
                    refine j_callVv (pc := 236) C (c_rF_knowWord l D y rd ow tp lk td fa pl 1 le wo nu (nI (tx az)) cz az k tx ww he_ (by omega) hk hB (fun i h1 h2 => srt_1' (hg_ i h1 h2))) kw_Reader_299 kv_Reader_knowWord 0 5 rfl rfl ⟨by decide, by decide⟩ ⟨by decide, by decide⟩ (wr := []) [0, 1, 2, 3] [] rfl rfl (by decide) (by decide) (by decide) (As := []) (rest := []) rfl (nb rfl) rfl d_Reader_advance_236 (fun u311 hu312 => ?_)
                    obtain ⟨xh313, xh314⟩ := hu312
                    refine j_ws (ws' := [(rd, .inr (5, [.int fa, .int pl, .ref ow, .ref tp, .ref lk, .int (nI cz), .int 1, .int (nI az), .long u311.1, .int u311.2, .int nu, .int (nI (tx az))])), (tp, .inr (0, [.ref td, .int (nI k)])), (td, .inl (y 0, 1600, .inl (tby tx))), (ow, .inl (y 1, 33, .inr (.inl ww)))]) rfl ?_
                    refine j_goto (pc := 239) C (tgt := 254) d_Reader_advance_239 (by decide) ?_
                    exact j_vret (pc := 254) C hr (cz, az, 1, u311.1, u311.2, nu, nI (tx az)) ⟨show cz ≤ k by omega, show az ≤ cz by omega, (by rw [hG2]; exact cl_word (q := az) (e := cz) hq267 (by omega) (fun h => by have h2 := h.2; omega) hg_ (by omega) (fun h => by have h1 := h.1; have h2 := h.2; omega) hWW xh313 xh314 rfl)⟩ [0, 1, 2, 3] rfl (by decide) (by decide) (by decide) d_Reader_advance_254
              · refine j_put (pc := 163) C pf_Reader_50 0 (ws' := [(rd, .inr (5, [.int fa, .int pl, .ref ow, .ref tp, .ref lk, .int (nI az), .int 2, .int (nI az), .long le, .int wo, .int nu, .int (nI (tx az))])), (tp, .inr (0, [.ref td, .int (nI k)])), (td, .inl (y 0, 1600, .inl (tby tx))), (ow, .inl (y 1, 33, .inr (.inl ww)))]) rfl rfl rfl (nl rfl) rfl d_Reader_advance_163 ?_
                refine j_aload_n (pc := 166) C d_Reader_advance_166 rfl 3 rfl ?_
                refine j_dup (pc := 167) C d_Reader_advance_167 rfl ?_
                refine j_get (pc := 168) C gf_Reader_47 0 rfl rfl d_Reader_advance_168 ?_
                refine j_iconst (pc := 171) C (v := 1) d_Reader_advance_171 (by decide) ?_
                refine j_iadd (pc := 172) C (v := nI (az + 1)) d_Reader_advance_172 (nI_add _ _) ?_
                refine j_put (pc := 173) C pf_Reader_47 0 (ws' := [(rd, .inr (5, [.int fa, .int pl, .ref ow, .ref tp, .ref lk, .int (nI (az + 1)), .int 2, .int (nI az), .long le, .int wo, .int nu, .int (nI (tx az))])), (tp, .inr (0, [.ref td, .int (nI k)])), (td, .inl (y 0, 1600, .inl (tby tx))), (ow, .inl (y 1, 33, .inr (.inl ww)))]) rfl rfl rfl (nl rfl) rfl d_Reader_advance_173 ?_
                refine j_loop (α := Nat) (fun a => k - a) (fun a => (az + 1 ≤ a) ∧ (a ≤ k) ∧ ((∀ i, az ≤ i → i < a → srt (tx i) = 2))) (fun a => [(rd, .inr (5, [.int fa, .int pl, .ref ow, .ref tp, .ref lk, .int (nI a), .int 2, .int (nI az), .long le, .int wo, .int nu, .int (nI (tx az))])), (tp, .inr (0, [.ref td, .int (nI k)])), (td, .inl (y 0, 1600, .inl (tby tx))), (ow, .inl (y 1, 33, .inr (.inl ww)))]) (fun a => [(3, .int (nI k)), (2, .int (nI ra)), (1, .int 1), (0, .ref rd)]) ((az + 1)) rfl rfl ⟨(show az + 1 ≤ (az + 1) by omega), (show (az + 1) ≤ k by omega), (fun i h1 h2 => by rw [show i = az by omega]; exact xh273)⟩ ?_
                rintro cz hP331 ih332
                obtain ⟨hd__, he__, hg__⟩ := hP331
                have hd_ : az + 1 ≤ cz := hd__
                have he_ : cz ≤ k := he__
                have hg_ : (∀ i, az ≤ i → i < cz → srt (tx i) = 2) := hg__
                refine j_ws (ws' := [(rd, .inr (5, [.int fa, .int pl, .ref ow, .ref tp, .ref lk, .int (nI cz), .int 2, .int (nI az), .long le, .int wo, .int nu, .int (nI (tx az))])), (tp, .inr (0, [.ref td, .int (nI k)])), (td, .inl (y 0, 1600, .inl (tby tx))), (ow, .inl (y 1, 33, .inr (.inl ww)))]) rfl ?_
                refine j_lv (lv' := [(3, .int (nI k)), (2, .int (nI ra)), (1, .int 1), (0, .ref rd)]) rfl ?_
                refine j_aload_n (pc := 176) C d_Reader_advance_176 rfl 3 rfl ?_
                refine j_get (pc := 177) C gf_Reader_47 0 rfl rfl d_Reader_advance_177 ?_
                refine j_iload_n (pc := 180) C d_Reader_advance_180 rfl 0 rfl ?_
                by_cases c333 : k ≤ cz
                · refine j_icmp_geT (pc := 181) C (tgt := 227) d_Reader_advance_181 (by decide) (show nI k ≤ nI cz from nI_le (by omega) (by omega)) ?_
                  refine j_aload_n (pc := 227) C d_Reader_advance_227 rfl 3 rfl ?_
                  refine j_get (pc := 228) C gf_Reader_50 0 rfl rfl d_Reader_advance_228 ?_
                  refine j_iconst (pc := 231) C (v := 1) d_Reader_advance_231 (by decide) ?_
                  refine j_icmp_neT (pc := 232) C (tgt := 242) d_Reader_advance_232 (by decide) (by decide) ?_
                  refine j_aload_n (pc := 242) C d_Reader_advance_242 rfl 3 rfl ?_
                  refine j_get (pc := 243) C gf_Reader_50 0 rfl rfl d_Reader_advance_243 ?_
                  refine j_iconst (pc := 246) C (v := 2) d_Reader_advance_246 (by decide) ?_
                  refine j_icmp_neF (pc := 247) C (tgt := 254) d_Reader_advance_247 (by decide) (by decide) ?_
                  refine j_aload_n (pc := 250) C d_Reader_advance_250 rfl 3 rfl ?_
                  refine j_callVv (pc := 251) C (c_rF_knowNumber l D y rd ow tp lk td fa pl 2 le wo nu (nI (tx az)) cz az k tx he_ (by omega) hk hB (fun i h1 h2 => srt_2' (hg_ i h1 h2))) kw_Reader_302 kv_Reader_knowNumber 0 5 rfl rfl ⟨by decide, by decide⟩ ⟨by decide, by decide⟩ (wr := [(ow, .inl (y 1, 33, .inr (.inl ww)))]) [0, 1, 2] [3] rfl rfl (by decide) (by decide) (by decide) (As := []) (rest := []) rfl (nb rfl) rfl d_Reader_advance_251 (fun u334 hu335 => ?_)
                  have xh336 := hu335
                  refine j_ws (ws' := [(ow, .inl (y 1, 33, .inr (.inl ww))), (rd, .inr (5, [.int fa, .int pl, .ref ow, .ref tp, .ref lk, .int (nI cz), .int 2, .int (nI az), .long le, .int wo, .int u334, .int (nI (tx az))])), (tp, .inr (0, [.ref td, .int (nI k)])), (td, .inl (y 0, 1600, .inl (tby tx)))]) rfl ?_
                  exact j_vret (pc := 254) C hr (cz, az, 2, le, wo, u334, nI (tx az)) ⟨show cz ≤ k by omega, show az ≤ cz by omega, (by rw [hG2]; exact cl_num (q := az) (e := cz) hq267 (by omega) (fun h => by have h2 := h.2; omega) hg_ (by omega) (fun h => by have h1 := h.1; have h2 := h.2; omega) xh336 rfl)⟩ [1, 2, 3, 0] rfl (by decide) (by decide) (by decide) d_Reader_advance_254
                · refine j_icmp_geF (pc := 181) C (tgt := 227) d_Reader_advance_181 (by decide) (show ¬ nI k ≤ nI cz from nI_ge (by omega) (by omega)) ?_
                  refine j_aload_n (pc := 184) C d_Reader_advance_184 rfl 3 rfl ?_
                  refine j_get (pc := 185) C gf_Reader_50 0 rfl rfl d_Reader_advance_185 ?_
                  refine j_iconst (pc := 188) C (v := 3) d_Reader_advance_188 (by decide) ?_
                  refine j_icmp_eqF (pc := 189) C (tgt := 227) d_Reader_advance_189 (by decide) (by decide) ?_
                  refine j_aload_n (pc := 192) C d_Reader_advance_192 rfl 3 rfl ?_
                  refine j_get (pc := 193) C gf_Reader_19 0 rfl rfl d_Reader_advance_193 ?_
                  refine j_get (pc := 196) C gf_Reader_288 1 rfl rfl d_Reader_advance_196 ?_
                  refine j_aload_n (pc := 199) C d_Reader_advance_199 rfl 3 rfl ?_
                  refine j_get (pc := 200) C gf_Reader_47 0 rfl rfl d_Reader_advance_200 ?_
                  have hb337 : tx cz < 256 := hB cz
                  refine j_iald (pc := 203) C 2 rfl (v := nI (tx cz)) (vp_in_nI (by omega) (by decide)) (by rw [nI_clamp (by omega)]; rfl) d_Reader_advance_203 ?_
                  refine j_callSi (pc := 204) C (c_sortOfF l D y (tx cz) (by omega)) kw_Reader_296 ks_Reader_sortOf ⟨by decide, by decide⟩ ⟨by decide, by decide⟩ (wr := [(rd, .inr (5, [.int fa, .int pl, .ref ow, .ref tp, .ref lk, .int (nI cz), .int 2, .int (nI az), .long le, .int wo, .int nu, .int (nI (tx az))])), (tp, .inr (0, [.ref td, .int (nI k)])), (td, .inl (y 0, 1600, .inl (tby tx))), (ow, .inl (y 1, 33, .inr (.inl ww)))]) [] [0, 1, 2, 3] rfl rfl (by decide) (by decide) (by decide) (As := [.int (nI (tx cz))]) (rest := []) rfl (nb rfl) rfl d_Reader_advance_204 (fun r338 _ hr338 => ?_)
                  refine j_ws (ws' := [(rd, .inr (5, [.int fa, .int pl, .ref ow, .ref tp, .ref lk, .int (nI cz), .int 2, .int (nI az), .long le, .int wo, .int nu, .int (nI (tx az))])), (tp, .inr (0, [.ref td, .int (nI k)])), (td, .inl (y 0, 1600, .inl (tby tx))), (ow, .inl (y 1, 33, .inr (.inl ww)))]) rfl ?_
                  rcases hr338 with ⟨rfl, xh340⟩ | ⟨rfl, xh341⟩ | ⟨rfl, xh342⟩
                  · refine j_aload_n (pc := 207) C d_Reader_advance_207 rfl 3 rfl ?_
                    refine j_get (pc := 208) C gf_Reader_50 0 rfl rfl d_Reader_advance_208 ?_
                    refine j_icmp_neT (pc := 211) C (tgt := 227) d_Reader_advance_211 (by decide) (by decide) ?_
                    refine j_aload_n (pc := 227) C d_Reader_advance_227 rfl 3 rfl ?_
                    refine j_get (pc := 228) C gf_Reader_50 0 rfl rfl d_Reader_advance_228 ?_
                    refine j_iconst (pc := 231) C (v := 1) d_Reader_advance_231 (by decide) ?_
                    refine j_icmp_neT (pc := 232) C (tgt := 242) d_Reader_advance_232 (by decide) (by decide) ?_
                    refine j_aload_n (pc := 242) C d_Reader_advance_242 rfl 3 rfl ?_
                    refine j_get (pc := 243) C gf_Reader_50 0 rfl rfl d_Reader_advance_243 ?_
                    refine j_iconst (pc := 246) C (v := 2) d_Reader_advance_246 (by decide) ?_
                    refine j_icmp_neF (pc := 247) C (tgt := 254) d_Reader_advance_247 (by decide) (by decide) ?_
                    refine j_aload_n (pc := 250) C d_Reader_advance_250 rfl 3 rfl ?_
                    refine j_callVv (pc := 251) C (c_rF_knowNumber l D y rd ow tp lk td fa pl 2 le wo nu (nI (tx az)) cz az k tx he_ (by omega) hk hB (fun i h1 h2 => srt_2' (hg_ i h1 h2))) kw_Reader_302 kv_Reader_knowNumber 0 5 rfl rfl ⟨by decide, by decide⟩ ⟨by decide, by decide⟩ (wr := [(ow, .inl (y 1, 33, .inr (.inl ww)))]) [0, 1, 2] [3] rfl rfl (by decide) (by decide) (by decide) (As := []) (rest := []) rfl (nb rfl) rfl d_Reader_advance_251 (fun u343 hu344 => ?_)
                    have xh345 := hu344
                    refine j_ws (ws' := [(ow, .inl (y 1, 33, .inr (.inl ww))), (rd, .inr (5, [.int fa, .int pl, .ref ow, .ref tp, .ref lk, .int (nI cz), .int 2, .int (nI az), .long le, .int wo, .int u343, .int (nI (tx az))])), (tp, .inr (0, [.ref td, .int (nI k)])), (td, .inl (y 0, 1600, .inl (tby tx)))]) rfl ?_
                    exact j_vret (pc := 254) C hr (cz, az, 2, le, wo, u343, nI (tx az)) ⟨show cz ≤ k by omega, show az ≤ cz by omega, (by rw [hG2]; exact cl_num (q := az) (e := cz) hq267 (by omega) (fun h => by have h2 := h.2; omega) hg_ (by omega) (fun h => by have h1 := h.1; have h2 := h.2; omega) xh345 rfl)⟩ [1, 2, 3, 0] rfl (by decide) (by decide) (by decide) d_Reader_advance_254
                  · refine j_aload_n (pc := 207) C d_Reader_advance_207 rfl 3 rfl ?_
                    refine j_get (pc := 208) C gf_Reader_50 0 rfl rfl d_Reader_advance_208 ?_
                    refine j_icmp_neF (pc := 211) C (tgt := 227) d_Reader_advance_211 (by decide) (by decide) ?_
                    refine j_aload_n (pc := 214) C d_Reader_advance_214 rfl 3 rfl ?_
                    refine j_dup (pc := 215) C d_Reader_advance_215 rfl ?_
                    refine j_get (pc := 216) C gf_Reader_47 0 rfl rfl d_Reader_advance_216 ?_
                    refine j_iconst (pc := 219) C (v := 1) d_Reader_advance_219 (by decide) ?_
                    refine j_iadd (pc := 220) C (v := nI (cz + 1)) d_Reader_advance_220 (nI_add _ _) ?_
                    refine j_put (pc := 221) C pf_Reader_47 0 (ws' := [(rd, .inr (5, [.int fa, .int pl, .ref ow, .ref tp, .ref lk, .int (nI (cz + 1)), .int 2, .int (nI az), .long le, .int wo, .int nu, .int (nI (tx az))])), (tp, .inr (0, [.ref td, .int (nI k)])), (td, .inl (y 0, 1600, .inl (tby tx))), (ow, .inl (y 1, 33, .inr (.inl ww)))]) rfl rfl rfl (nl rfl) rfl d_Reader_advance_221 ?_
                    refine j_goto (pc := 224) C (tgt := 176) d_Reader_advance_224 (by decide) ?_
                    exact ih332 ((cz + 1)) ⟨(show az + 1 ≤ (cz + 1) by omega), (show (cz + 1) ≤ k by omega), (fun i h1 h2 => by
                            by_cases e : i = cz
                            · rw [e]; exact xh341
                            · exact hg_ i h1 (by omega))⟩ (show k - (cz + 1) < k - cz by omega)
                  · refine j_aload_n (pc := 207) C d_Reader_advance_207 rfl 3 rfl ?_
                    refine j_get (pc := 208) C gf_Reader_50 0 rfl rfl d_Reader_advance_208 ?_
                    refine j_icmp_neT (pc := 211) C (tgt := 227) d_Reader_advance_211 (by decide) (by decide) ?_
                    refine j_aload_n (pc := 227) C d_Reader_advance_227 rfl 3 rfl ?_
                    refine j_get (pc := 228) C gf_Reader_50 0 rfl rfl d_Reader_advance_228 ?_
                    refine j_iconst (pc := 231) C (v := 1) d_Reader_advance_231 (by decide) ?_
                    refine j_icmp_neT (pc := 232) C (tgt := 242) d_Reader_advance_232 (by decide) (by decide) ?_
                    refine j_aload_n (pc := 242) C d_Reader_advance_242 rfl 3 rfl ?_
                    refine j_get (pc := 243) C gf_Reader_50 0 rfl rfl d_Reader_advance_243 ?_
                    refine j_iconst (pc := 246) C (v := 2) d_Reader_advance_246 (by decide) ?_
                    refine j_icmp_neF (pc := 247) C (tgt := 254) d_Reader_advance_247 (by decide) (by decide) ?_
                    refine j_aload_n (pc := 250) C d_Reader_advance_250 rfl 3 rfl ?_
                    refine j_callVv (pc := 251) C (c_rF_knowNumber l D y rd ow tp lk td fa pl 2 le wo nu (nI (tx az)) cz az k tx he_ (by omega) hk hB (fun i h1 h2 => srt_2' (hg_ i h1 h2))) kw_Reader_302 kv_Reader_knowNumber 0 5 rfl rfl ⟨by decide, by decide⟩ ⟨by decide, by decide⟩ (wr := [(ow, .inl (y 1, 33, .inr (.inl ww)))]) [0, 1, 2] [3] rfl rfl (by decide) (by decide) (by decide) (As := []) (rest := []) rfl (nb rfl) rfl d_Reader_advance_251 (fun u346 hu347 => ?_)
                    have xh348 := hu347
                    refine j_ws (ws' := [(ow, .inl (y 1, 33, .inr (.inl ww))), (rd, .inr (5, [.int fa, .int pl, .ref ow, .ref tp, .ref lk, .int (nI cz), .int 2, .int (nI az), .long le, .int wo, .int u346, .int (nI (tx az))])), (tp, .inr (0, [.ref td, .int (nI k)])), (td, .inl (y 0, 1600, .inl (tby tx)))]) rfl ?_
                    exact j_vret (pc := 254) C hr (cz, az, 2, le, wo, u346, nI (tx az)) ⟨show cz ≤ k by omega, show az ≤ cz by omega, (by rw [hG2]; exact cl_num (q := az) (e := cz) hq267 (by omega) (fun h => by have h2 := h.2; omega) hg_ (by omega) (fun h => by have h1 := h.1; have h2 := h.2; omega) xh348 rfl)⟩ [1, 2, 3, 0] rfl (by decide) (by decide) (by decide) d_Reader_advance_254
              · refine j_put (pc := 163) C pf_Reader_50 0 (ws' := [(rd, .inr (5, [.int fa, .int pl, .ref ow, .ref tp, .ref lk, .int (nI az), .int 3, .int (nI az), .long le, .int wo, .int nu, .int (nI (tx az))])), (tp, .inr (0, [.ref td, .int (nI k)])), (td, .inl (y 0, 1600, .inl (tby tx))), (ow, .inl (y 1, 33, .inr (.inl ww)))]) rfl rfl rfl (nl rfl) rfl d_Reader_advance_163 ?_
                refine j_aload_n (pc := 166) C d_Reader_advance_166 rfl 3 rfl ?_
                refine j_dup (pc := 167) C d_Reader_advance_167 rfl ?_
                refine j_get (pc := 168) C gf_Reader_47 0 rfl rfl d_Reader_advance_168 ?_
                refine j_iconst (pc := 171) C (v := 1) d_Reader_advance_171 (by decide) ?_
                refine j_iadd (pc := 172) C (v := nI (az + 1)) d_Reader_advance_172 (nI_add _ _) ?_
                refine j_put (pc := 173) C pf_Reader_47 0 (ws' := [(rd, .inr (5, [.int fa, .int pl, .ref ow, .ref tp, .ref lk, .int (nI (az + 1)), .int 3, .int (nI az), .long le, .int wo, .int nu, .int (nI (tx az))])), (tp, .inr (0, [.ref td, .int (nI k)])), (td, .inl (y 0, 1600, .inl (tby tx))), (ow, .inl (y 1, 33, .inr (.inl ww)))]) rfl rfl rfl (nl rfl) rfl d_Reader_advance_173 ?_
                refine j_aload_n (pc := 176) C d_Reader_advance_176 rfl 3 rfl ?_
                refine j_get (pc := 177) C gf_Reader_47 0 rfl rfl d_Reader_advance_177 ?_
                refine j_iload_n (pc := 180) C d_Reader_advance_180 rfl 0 rfl ?_
                by_cases c349 : k ≤ (az + 1)
                · refine j_icmp_geT (pc := 181) C (tgt := 227) d_Reader_advance_181 (by decide) (show nI k ≤ nI (az + 1) from nI_le (by omega) (by omega)) ?_
                  refine j_aload_n (pc := 227) C d_Reader_advance_227 rfl 3 rfl ?_
                  refine j_get (pc := 228) C gf_Reader_50 0 rfl rfl d_Reader_advance_228 ?_
                  refine j_iconst (pc := 231) C (v := 1) d_Reader_advance_231 (by decide) ?_
                  refine j_icmp_neT (pc := 232) C (tgt := 242) d_Reader_advance_232 (by decide) (by decide) ?_
                  refine j_aload_n (pc := 242) C d_Reader_advance_242 rfl 3 rfl ?_
                  refine j_get (pc := 243) C gf_Reader_50 0 rfl rfl d_Reader_advance_243 ?_
                  refine j_iconst (pc := 246) C (v := 2) d_Reader_advance_246 (by decide) ?_
                  refine j_icmp_neT (pc := 247) C (tgt := 254) d_Reader_advance_247 (by decide) (by decide) ?_
                  exact j_vret (pc := 254) C hr ((az + 1), az, 3, le, wo, nu, nI (tx az)) ⟨show (az + 1) ≤ k by omega, show az ≤ (az + 1) by omega, (by rw [hG2]; exact cl_sign (q := az) hq267 (by omega) (Or.inr xh274) rfl)⟩ [0, 1, 2, 3] rfl (by decide) (by decide) (by decide) d_Reader_advance_254
                · refine j_icmp_geF (pc := 181) C (tgt := 227) d_Reader_advance_181 (by decide) (show ¬ nI k ≤ nI (az + 1) from nI_ge (by omega) (by omega)) ?_
                  refine j_aload_n (pc := 184) C d_Reader_advance_184 rfl 3 rfl ?_
                  refine j_get (pc := 185) C gf_Reader_50 0 rfl rfl d_Reader_advance_185 ?_
                  refine j_iconst (pc := 188) C (v := 3) d_Reader_advance_188 (by decide) ?_
                  refine j_icmp_eqT (pc := 189) C (tgt := 227) d_Reader_advance_189 (by decide) (by decide) ?_
                  refine j_aload_n (pc := 227) C d_Reader_advance_227 rfl 3 rfl ?_
                  refine j_get (pc := 228) C gf_Reader_50 0 rfl rfl d_Reader_advance_228 ?_
                  refine j_iconst (pc := 231) C (v := 1) d_Reader_advance_231 (by decide) ?_
                  refine j_icmp_neT (pc := 232) C (tgt := 242) d_Reader_advance_232 (by decide) (by decide) ?_
                  refine j_aload_n (pc := 242) C d_Reader_advance_242 rfl 3 rfl ?_
                  refine j_get (pc := 243) C gf_Reader_50 0 rfl rfl d_Reader_advance_243 ?_
                  refine j_iconst (pc := 246) C (v := 2) d_Reader_advance_246 (by decide) ?_
                  refine j_icmp_neT (pc := 247) C (tgt := 254) d_Reader_advance_247 (by decide) (by decide) ?_
                  exact j_vret (pc := 254) C hr ((az + 1), az, 3, le, wo, nu, nI (tx az)) ⟨show (az + 1) ≤ k by omega, show az ≤ (az + 1) by omega, (by rw [hG2]; exact cl_sign (q := az) hq267 (by omega) (Or.inr xh274) rfl)⟩ [0, 1, 2, 3] rfl (by decide) (by decide) (by decide) d_Reader_advance_254
            · refine j_icmp_neF (pc := 149) C (tgt := 156) d_Reader_advance_149 (by decide) (show nI az = nI ra from (nI_eq (by omega) (by omega)).mpr (by omega)) ?_
              refine j_iconst (pc := 152) C (v := 3) d_Reader_advance_152 (by decide) ?_
              refine j_goto (pc := 153) C (tgt := 163) d_Reader_advance_153 (by decide) ?_
              refine j_put (pc := 163) C pf_Reader_50 0 (ws' := [(rd, .inr (5, [.int fa, .int pl, .ref ow, .ref tp, .ref lk, .int (nI az), .int 3, .int (nI az), .long le, .int wo, .int nu, .int (nI (tx az))])), (tp, .inr (0, [.ref td, .int (nI k)])), (td, .inl (y 0, 1600, .inl (tby tx))), (ow, .inl (y 1, 33, .inr (.inl ww)))]) rfl rfl rfl (nl rfl) rfl d_Reader_advance_163 ?_
              refine j_aload_n (pc := 166) C d_Reader_advance_166 rfl 3 rfl ?_
              refine j_dup (pc := 167) C d_Reader_advance_167 rfl ?_
              refine j_get (pc := 168) C gf_Reader_47 0 rfl rfl d_Reader_advance_168 ?_
              refine j_iconst (pc := 171) C (v := 1) d_Reader_advance_171 (by decide) ?_
              refine j_iadd (pc := 172) C (v := nI (az + 1)) d_Reader_advance_172 (nI_add _ _) ?_
              refine j_put (pc := 173) C pf_Reader_47 0 (ws' := [(rd, .inr (5, [.int fa, .int pl, .ref ow, .ref tp, .ref lk, .int (nI (az + 1)), .int 3, .int (nI az), .long le, .int wo, .int nu, .int (nI (tx az))])), (tp, .inr (0, [.ref td, .int (nI k)])), (td, .inl (y 0, 1600, .inl (tby tx))), (ow, .inl (y 1, 33, .inr (.inl ww)))]) rfl rfl rfl (nl rfl) rfl d_Reader_advance_173 ?_
              refine j_aload_n (pc := 176) C d_Reader_advance_176 rfl 3 rfl ?_
              refine j_get (pc := 177) C gf_Reader_47 0 rfl rfl d_Reader_advance_177 ?_
              refine j_iload_n (pc := 180) C d_Reader_advance_180 rfl 0 rfl ?_
              by_cases c350 : k ≤ (az + 1)
              · refine j_icmp_geT (pc := 181) C (tgt := 227) d_Reader_advance_181 (by decide) (show nI k ≤ nI (az + 1) from nI_le (by omega) (by omega)) ?_
                refine j_aload_n (pc := 227) C d_Reader_advance_227 rfl 3 rfl ?_
                refine j_get (pc := 228) C gf_Reader_50 0 rfl rfl d_Reader_advance_228 ?_
                refine j_iconst (pc := 231) C (v := 1) d_Reader_advance_231 (by decide) ?_
                refine j_icmp_neT (pc := 232) C (tgt := 242) d_Reader_advance_232 (by decide) (by decide) ?_
                refine j_aload_n (pc := 242) C d_Reader_advance_242 rfl 3 rfl ?_
                refine j_get (pc := 243) C gf_Reader_50 0 rfl rfl d_Reader_advance_243 ?_
                refine j_iconst (pc := 246) C (v := 2) d_Reader_advance_246 (by decide) ?_
                refine j_icmp_neT (pc := 247) C (tgt := 254) d_Reader_advance_247 (by decide) (by decide) ?_
                exact j_vret (pc := 254) C hr ((az + 1), az, 3, le, wo, nu, nI (tx az)) ⟨show (az + 1) ≤ k by omega, show az ≤ (az + 1) by omega, (by rw [hG2]; exact cl_sign (q := az) hq267 (by omega) (Or.inl ⟨rfl, by omega⟩) rfl)⟩ [0, 1, 2, 3] rfl (by decide) (by decide) (by decide) d_Reader_advance_254
              · refine j_icmp_geF (pc := 181) C (tgt := 227) d_Reader_advance_181 (by decide) (show ¬ nI k ≤ nI (az + 1) from nI_ge (by omega) (by omega)) ?_
                refine j_aload_n (pc := 184) C d_Reader_advance_184 rfl 3 rfl ?_
                refine j_get (pc := 185) C gf_Reader_50 0 rfl rfl d_Reader_advance_185 ?_
                refine j_iconst (pc := 188) C (v := 3) d_Reader_advance_188 (by decide) ?_
                refine j_icmp_eqT (pc := 189) C (tgt := 227) d_Reader_advance_189 (by decide) (by decide) ?_
                refine j_aload_n (pc := 227) C d_Reader_advance_227 rfl 3 rfl ?_
                refine j_get (pc := 228) C gf_Reader_50 0 rfl rfl d_Reader_advance_228 ?_
                refine j_iconst (pc := 231) C (v := 1) d_Reader_advance_231 (by decide) ?_
                refine j_icmp_neT (pc := 232) C (tgt := 242) d_Reader_advance_232 (by decide) (by decide) ?_
                refine j_aload_n (pc := 242) C d_Reader_advance_242 rfl 3 rfl ?_
                refine j_get (pc := 243) C gf_Reader_50 0 rfl rfl d_Reader_advance_243 ?_
                refine j_iconst (pc := 246) C (v := 2) d_Reader_advance_246 (by decide) ?_
                refine j_icmp_neT (pc := 247) C (tgt := 254) d_Reader_advance_247 (by decide) (by decide) ?_
                exact j_vret (pc := 254) C hr ((az + 1), az, 3, le, wo, nu, nI (tx az)) ⟨show (az + 1) ≤ k by omega, show az ≤ (az + 1) by omega, (by rw [hG2]; exact cl_sign (q := az) hq267 (by omega) (Or.inl ⟨rfl, by omega⟩) rfl)⟩ [0, 1, 2, 3] rfl (by decide) (by decide) (by decide) d_Reader_advance_254
          · refine j_icmp_ltF (pc := 114) C (tgt := 123) d_Reader_advance_114 (by decide) (show ¬ nI az < nI k from nI_nlt (by omega) (by omega)) ?_
            refine j_aload_n (pc := 117) C d_Reader_advance_117 rfl 3 rfl ?_
            refine j_iconst (pc := 118) C (v := 0) d_Reader_advance_118 (by decide) ?_
            refine j_put (pc := 119) C pf_Reader_50 0 (ws' := [(rd, .inr (5, [.int fa, .int pl, .ref ow, .ref tp, .ref lk, .int (nI az), .int 0, .int (nI az), .long le, .int wo, .int nu, .int si])), (tp, .inr (0, [.ref td, .int (nI k)])), (td, .inl (y 0, 1600, .inl (tby tx))), (ow, .inl (y 1, 33, .inr (.inl ww)))]) rfl rfl rfl (nl rfl) rfl d_Reader_advance_119 ?_
            exact j_vret (pc := 122) C hr (az, az, 0, le, wo, nu, si) ⟨show az ≤ k by omega, show az ≤ az by omega, (by rw [hG2]; exact cl_end (q := az) hq267 (by omega))⟩ [0, 1, 2, 3] rfl (by decide) (by decide) (by decide) d_Reader_advance_122
        · refine j_icmp_neF (pc := 85) C (tgt := 101) d_Reader_advance_85 (by decide) (show nI (tx az) = nI 10 from (nI_eq (by omega) (by omega)).mpr (by omega)) ?_
          refine j_aload_n (pc := 88) C d_Reader_advance_88 rfl 3 rfl ?_
          refine j_dup (pc := 89) C d_Reader_advance_89 rfl ?_
          refine j_get (pc := 90) C gf_Reader_47 0 rfl rfl d_Reader_advance_90 ?_
          refine j_iconst (pc := 93) C (v := 1) d_Reader_advance_93 (by decide) ?_
          refine j_iadd (pc := 94) C (v := nI (az + 1)) d_Reader_advance_94 (nI_add _ _) ?_
          refine j_put (pc := 95) C pf_Reader_47 0 (ws' := [(rd, .inr (5, [.int fa, .int pl, .ref ow, .ref tp, .ref lk, .int (nI (az + 1)), .int so, .int b0, .long le, .int wo, .int nu, .int si])), (tp, .inr (0, [.ref td, .int (nI k)])), (td, .inl (y 0, 1600, .inl (tby tx))), (ow, .inl (y 1, 33, .inr (.inl ww)))]) rfl rfl rfl (nl rfl) rfl d_Reader_advance_95 ?_
          refine j_goto (pc := 98) C (tgt := 46) d_Reader_advance_98 (by decide) ?_
          exact ih177 ((az + 1)) ⟨(show (az + 1) ≤ k by omega), (show ra ≤ (az + 1) by omega), (fun i h1 h2 => by
                  by_cases e : i = az
                  · rw [e]; omega
                  · exact hc_ i h1 (by omega))⟩ (show k - (az + 1) < k - az by omega)
  · refine j_aload_n (pc := 8) C d_Reader_advance_8 rfl 0 rfl ?_
    refine j_get (pc := 9) C gf_Reader_50 0 rfl rfl d_Reader_advance_9 ?_
    refine j_iconst (pc := 12) C (v := 2) d_Reader_advance_12 (by decide) ?_
    refine j_icmp_ne (pc := 13) C (tgt := 20) d_Reader_advance_13 (by decide) (fun c351 => ?_) (fun c351 => ?_)
    · refine j_iconst (pc := 20) C (v := 0) d_Reader_advance_20 (by decide) ?_
      have hG352 := gl_0 hs0 c1 c351
      refine j_istore_n (pc := 21) C (lv' := [(1, .int 0), (0, .ref rd)]) d_Reader_advance_21 rfl (by decide) rfl ?_
      refine j_aload_n (pc := 22) C d_Reader_advance_22 rfl 1 rfl ?_
      refine j_get (pc := 23) C gf_Reader_47 0 rfl rfl d_Reader_advance_23 ?_
      refine j_istore_n (pc := 26) C (lv' := [(2, .int (nI ra)), (1, .int 0), (0, .ref rd)]) d_Reader_advance_26 rfl (by decide) rfl ?_
      refine j_aload_n (pc := 27) C d_Reader_advance_27 rfl 2 rfl ?_
      refine j_get (pc := 28) C gf_Reader_19 0 rfl rfl d_Reader_advance_28 ?_
      refine j_get (pc := 31) C gf_Reader_285 1 rfl rfl d_Reader_advance_31 ?_
      refine j_aload_n (pc := 34) C d_Reader_advance_34 rfl 2 rfl ?_
      refine j_get (pc := 35) C gf_Reader_19 0 rfl rfl d_Reader_advance_35 ?_
      refine j_get (pc := 38) C gf_Reader_288 1 rfl rfl d_Reader_advance_38 ?_
      refine j_alen (pc := 41) C 2 0 rfl rfl (v := 1600) rfl d_Reader_advance_41 ?_
      refine j_mmin (pc := 42) C (mt_3 (List.mem_of_getElem? (i := 55) rfl) rfl) (mt_3 (List.mem_of_getElem? (i := 56) rfl) rfl) (mt_1 (List.mem_of_getElem? (i := 3) rfl) rfl) (mt_3 (List.mem_of_getElem? (i := 57) rfl) rfl) (v := nI k) (min_k hk) (by decide) (nb rfl) (by decide) (by decide) d_Reader_advance_42 ?_
      refine j_istore_n (pc := 45) C (lv' := [(3, .int (nI k)), (2, .int (nI ra)), (1, .int 0), (0, .ref rd)]) d_Reader_advance_45 rfl (by decide) rfl ?_
      refine j_loop (α := Nat) (fun a => k - a) (fun a => (a ≤ k) ∧ (ra ≤ a) ∧ ((∀ i, ra ≤ i → i < a → tx i = 32 ∨ tx i = 10))) (fun a => [(rd, .inr (5, [.int fa, .int pl, .ref ow, .ref tp, .ref lk, .int (nI a), .int so, .int b0, .long le, .int wo, .int nu, .int si])), (tp, .inr (0, [.ref td, .int (nI k)])), (td, .inl (y 0, 1600, .inl (tby tx))), (ow, .inl (y 1, 33, .inr (.inl ww)))]) (fun a => [(3, .int (nI k)), (2, .int (nI ra)), (1, .int 0), (0, .ref rd)]) (ra) rfl rfl ⟨(show ra ≤ k by omega), (show ra ≤ ra by omega), (fun i h1 h2 => absurd h1 (by omega))⟩ ?_
      rintro az hP522 ih523
      obtain ⟨ha__, hb__, hc__⟩ := hP522
      have ha_ : az ≤ k := ha__
      have hb_ : ra ≤ az := hb__
      have hc_ : (∀ i, ra ≤ i → i < az → tx i = 32 ∨ tx i = 10) := hc__
      refine j_ws (ws' := [(rd, .inr (5, [.int fa, .int pl, .ref ow, .ref tp, .ref lk, .int (nI az), .int so, .int b0, .long le, .int wo, .int nu, .int si])), (tp, .inr (0, [.ref td, .int (nI k)])), (td, .inl (y 0, 1600, .inl (tby tx))), (ow, .inl (y 1, 33, .inr (.inl ww)))]) rfl ?_
      refine j_lv (lv' := [(3, .int (nI k)), (2, .int (nI ra)), (1, .int 0), (0, .ref rd)]) rfl ?_
      refine j_aload_n (pc := 46) C d_Reader_advance_46 rfl 3 rfl ?_
      refine j_get (pc := 47) C gf_Reader_47 0 rfl rfl d_Reader_advance_47 ?_
      refine j_iload_n (pc := 50) C d_Reader_advance_50 rfl 0 rfl ?_
      by_cases c524 : k ≤ az
      · refine j_icmp_geT (pc := 51) C (tgt := 101) d_Reader_advance_51 (by decide) (show nI k ≤ nI az from nI_le (by omega) (by omega)) ?_
        have hq525 : tq tx k ra = az := sq_eq (by omega) (fun i h1 h2 => ⟨by omega, decide_eq_true (hc_ i h1 h2)⟩) (fun h => by have h1 := h.1; have h2 : tx az = 32 ∨ tx az = 10 := of_decide_eq_true h.2; omega)
        refine j_aload_n (pc := 101) C d_Reader_advance_101 rfl 3 rfl ?_
        refine j_aload_n (pc := 102) C d_Reader_advance_102 rfl 3 rfl ?_
        refine j_get (pc := 103) C gf_Reader_47 0 rfl rfl d_Reader_advance_103 ?_
        refine j_put (pc := 106) C pf_Reader_62 0 (ws' := [(rd, .inr (5, [.int fa, .int pl, .ref ow, .ref tp, .ref lk, .int (nI az), .int so, .int (nI az), .long le, .int wo, .int nu, .int si])), (tp, .inr (0, [.ref td, .int (nI k)])), (td, .inl (y 0, 1600, .inl (tby tx))), (ow, .inl (y 1, 33, .inr (.inl ww)))]) rfl rfl rfl (nl rfl) rfl d_Reader_advance_106 ?_
        refine j_aload_n (pc := 109) C d_Reader_advance_109 rfl 3 rfl ?_
        refine j_get (pc := 110) C gf_Reader_47 0 rfl rfl d_Reader_advance_110 ?_
        refine j_iload_n (pc := 113) C d_Reader_advance_113 rfl 0 rfl ?_
        by_cases c526 : az < k
        · refine j_icmp_ltT (pc := 114) C (tgt := 123) d_Reader_advance_114 (by decide) (show nI az < nI k from nI_lt (by omega) (by omega)) ?_
          refine j_aload_n (pc := 123) C d_Reader_advance_123 rfl 3 rfl ?_
          refine j_aload_n (pc := 124) C d_Reader_advance_124 rfl 3 rfl ?_
          refine j_get (pc := 125) C gf_Reader_19 0 rfl rfl d_Reader_advance_125 ?_
          refine j_get (pc := 128) C gf_Reader_288 1 rfl rfl d_Reader_advance_128 ?_
          refine j_aload_n (pc := 131) C d_Reader_advance_131 rfl 3 rfl ?_
          refine j_get (pc := 132) C gf_Reader_47 0 rfl rfl d_Reader_advance_132 ?_
          have hb527 : tx az < 256 := hB az
          refine j_iald (pc := 135) C 2 rfl (v := nI (tx az)) (vp_in_nI (by omega) (by decide)) (by rw [nI_clamp (by omega)]; rfl) d_Reader_advance_135 ?_
          refine j_put (pc := 136) C pf_Reader_272 0 (ws' := [(rd, .inr (5, [.int fa, .int pl, .ref ow, .ref tp, .ref lk, .int (nI az), .int so, .int (nI az), .long le, .int wo, .int nu, .int (nI (tx az))])), (tp, .inr (0, [.ref td, .int (nI k)])), (td, .inl (y 0, 1600, .inl (tby tx))), (ow, .inl (y 1, 33, .inr (.inl ww)))]) rfl rfl rfl (nl rfl) rfl d_Reader_advance_136 ?_
          refine j_aload_n (pc := 139) C d_Reader_advance_139 rfl 3 rfl ?_
          refine j_iload_n (pc := 140) C d_Reader_advance_140 rfl 2 rfl ?_
          refine j_if_eqT (pc := 141) C (tgt := 156) d_Reader_advance_141 (by decide) (by decide) ?_
          refine j_aload_n (pc := 156) C d_Reader_advance_156 rfl 3 rfl ?_
          refine j_get (pc := 157) C gf_Reader_272 0 rfl rfl d_Reader_advance_157 ?_
          refine j_callSi (pc := 160) C (c_sortOfF l D y (tx az) (by omega)) kw_Reader_296 ks_Reader_sortOf ⟨by decide, by decide⟩ ⟨by decide, by decide⟩ (wr := [(rd, .inr (5, [.int fa, .int pl, .ref ow, .ref tp, .ref lk, .int (nI az), .int so, .int (nI az), .long le, .int wo, .int nu, .int (nI (tx az))])), (tp, .inr (0, [.ref td, .int (nI k)])), (td, .inl (y 0, 1600, .inl (tby tx))), (ow, .inl (y 1, 33, .inr (.inl ww)))]) [] [0, 1, 2, 3] rfl rfl (by decide) (by decide) (by decide) (As := [.int (nI (tx az))]) (rest := [.ref rd]) rfl (nb rfl) rfl d_Reader_advance_160 (fun r528 _ hr528 => ?_)
          refine j_ws (ws' := [(rd, .inr (5, [.int fa, .int pl, .ref ow, .ref tp, .ref lk, .int (nI az), .int so, .int (nI az), .long le, .int wo, .int nu, .int (nI (tx az))])), (tp, .inr (0, [.ref td, .int (nI k)])), (td, .inl (y 0, 1600, .inl (tby tx))), (ow, .inl (y 1, 33, .inr (.inl ww)))]) rfl ?_
          rcases hr528 with ⟨rfl, xh530⟩ | ⟨rfl, xh531⟩ | ⟨rfl, xh532⟩
          · refine j_put (pc := 163) C pf_Reader_50 0 (ws' := [(rd, .inr (5, [.int fa, .int pl, .ref ow, .ref tp, .ref lk, .int (nI az), .int 1, .int (nI az), .long le, .int wo, .int nu, .int (nI (tx az))])), (tp, .inr (0, [.ref td, .int (nI k)])), (td, .inl (y 0, 1600, .inl (tby tx))), (ow, .inl (y 1, 33, .inr (.inl ww)))]) rfl rfl rfl (nl rfl) rfl d_Reader_advance_163 ?_
            refine j_aload_n (pc := 166) C d_Reader_advance_166 rfl 3 rfl ?_
            refine j_dup (pc := 167) C d_Reader_advance_167 rfl ?_
            refine j_get (pc := 168) C gf_Reader_47 0 rfl rfl d_Reader_advance_168 ?_
            refine j_iconst (pc := 171) C (v := 1) d_Reader_advance_171 (by decide) ?_
            refine j_iadd (pc := 172) C (v := nI (az + 1)) d_Reader_advance_172 (nI_add _ _) ?_
            refine j_put (pc := 173) C pf_Reader_47 0 (ws' := [(rd, .inr (5, [.int fa, .int pl, .ref ow, .ref tp, .ref lk, .int (nI (az + 1)), .int 1, .int (nI az), .long le, .int wo, .int nu, .int (nI (tx az))])), (tp, .inr (0, [.ref td, .int (nI k)])), (td, .inl (y 0, 1600, .inl (tby tx))), (ow, .inl (y 1, 33, .inr (.inl ww)))]) rfl rfl rfl (nl rfl) rfl d_Reader_advance_173 ?_
            refine j_loop (α := Nat) (fun a => k - a) (fun a => (az + 1 ≤ a) ∧ (a ≤ k) ∧ ((∀ i, az ≤ i → i < a → srt (tx i) = 1))) (fun a => [(rd, .inr (5, [.int fa, .int pl, .ref ow, .ref tp, .ref lk, .int (nI a), .int 1, .int (nI az), .long le, .int wo, .int nu, .int (nI (tx az))])), (tp, .inr (0, [.ref td, .int (nI k)])), (td, .inl (y 0, 1600, .inl (tby tx))), (ow, .inl (y 1, 33, .inr (.inl ww)))]) (fun a => [(3, .int (nI k)), (2, .int (nI ra)), (1, .int 0), (0, .ref rd)]) ((az + 1)) rfl rfl ⟨(show az + 1 ≤ (az + 1) by omega), (show (az + 1) ≤ k by omega), (fun i h1 h2 => by rw [show i = az by omega]; exact xh530)⟩ ?_
            rintro cz hP552 ih553
            obtain ⟨hd__, he__, hg__⟩ := hP552
            have hd_ : az + 1 ≤ cz := hd__
            have he_ : cz ≤ k := he__
            have hg_ : (∀ i, az ≤ i → i < cz → srt (tx i) = 1) := hg__
            refine j_ws (ws' := [(rd, .inr (5, [.int fa, .int pl, .ref ow, .ref tp, .ref lk, .int (nI cz), .int 1, .int (nI az), .long le, .int wo, .int nu, .int (nI (tx az))])), (tp, .inr (0, [.ref td, .int (nI k)])), (td, .inl (y 0, 1600, .inl (tby tx))), (ow, .inl (y 1, 33, .inr (.inl ww)))]) rfl ?_
            refine j_lv (lv' := [(3, .int (nI k)), (2, .int (nI ra)), (1, .int 0), (0, .ref rd)]) rfl ?_
            refine j_aload_n (pc := 176) C d_Reader_advance_176 rfl 3 rfl ?_
            refine j_get (pc := 177) C gf_Reader_47 0 rfl rfl d_Reader_advance_177 ?_
            refine j_iload_n (pc := 180) C d_Reader_advance_180 rfl 0 rfl ?_
            by_cases c554 : k ≤ cz
            · refine j_icmp_geT (pc := 181) C (tgt := 227) d_Reader_advance_181 (by decide) (show nI k ≤ nI cz from nI_le (by omega) (by omega)) ?_
              refine j_aload_n (pc := 227) C d_Reader_advance_227 rfl 3 rfl ?_
              refine j_get (pc := 228) C gf_Reader_50 0 rfl rfl d_Reader_advance_228 ?_
              refine j_iconst (pc := 231) C (v := 1) d_Reader_advance_231 (by decide) ?_
              refine j_icmp_neF (pc := 232) C (tgt := 242) d_Reader_advance_232 (by decide) (by decide) ?_
              refine j_aload_n (pc := 235) C d_Reader_advance_235 rfl 3 rfl ?_
              refine j_callVv (pc := 236) C (c_rF_knowWord l D y rd ow tp lk td fa pl 1 le wo nu (nI (tx az)) cz az k tx ww he_ (by omega) hk hB (fun i h1 h2 => srt_1' (hg_ i h1 h2))) kw_Reader_299 kv_Reader_knowWord 0 5 rfl rfl ⟨by decide, by decide⟩ ⟨by decide, by decide⟩ (wr := []) [0, 1, 2, 3] [] rfl rfl (by decide) (by decide) (by decide) (As := []) (rest := []) rfl (nb rfl) rfl d_Reader_advance_236 (fun u555 hu556 => ?_)
              obtain ⟨xh557, xh558⟩ := hu556
              refine j_ws (ws' := [(rd, .inr (5, [.int fa, .int pl, .ref ow, .ref tp, .ref lk, .int (nI cz), .int 1, .int (nI az), .long u555.1, .int u555.2, .int nu, .int (nI (tx az))])), (tp, .inr (0, [.ref td, .int (nI k)])), (td, .inl (y 0, 1600, .inl (tby tx))), (ow, .inl (y 1, 33, .inr (.inl ww)))]) rfl ?_
              refine j_goto (pc := 239) C (tgt := 254) d_Reader_advance_239 (by decide) ?_
              exact j_vret (pc := 254) C hr (cz, az, 1, u555.1, u555.2, nu, nI (tx az)) ⟨show cz ≤ k by omega, show az ≤ cz by omega, (by rw [hG352]; exact cl_word (q := az) (e := cz) hq525 (by omega) (fun h => absurd h.1 (by decide)) hg_ (by omega) (fun h => by have h1 := h.1; have h2 := h.2; omega) hWW xh557 xh558 rfl)⟩ [0, 1, 2, 3] rfl (by decide) (by decide) (by decide) d_Reader_advance_254
            · refine j_icmp_geF (pc := 181) C (tgt := 227) d_Reader_advance_181 (by decide) (show ¬ nI k ≤ nI cz from nI_ge (by omega) (by omega)) ?_
              refine j_aload_n (pc := 184) C d_Reader_advance_184 rfl 3 rfl ?_
              refine j_get (pc := 185) C gf_Reader_50 0 rfl rfl d_Reader_advance_185 ?_
              refine j_iconst (pc := 188) C (v := 3) d_Reader_advance_188 (by decide) ?_
              refine j_icmp_eqF (pc := 189) C (tgt := 227) d_Reader_advance_189 (by decide) (by decide) ?_
              refine j_aload_n (pc := 192) C d_Reader_advance_192 rfl 3 rfl ?_
              refine j_get (pc := 193) C gf_Reader_19 0 rfl rfl d_Reader_advance_193 ?_
              refine j_get (pc := 196) C gf_Reader_288 1 rfl rfl d_Reader_advance_196 ?_
              refine j_aload_n (pc := 199) C d_Reader_advance_199 rfl 3 rfl ?_
              refine j_get (pc := 200) C gf_Reader_47 0 rfl rfl d_Reader_advance_200 ?_
              have hb559 : tx cz < 256 := hB cz
              refine j_iald (pc := 203) C 2 rfl (v := nI (tx cz)) (vp_in_nI (by omega) (by decide)) (by rw [nI_clamp (by omega)]; rfl) d_Reader_advance_203 ?_
              refine j_callSi (pc := 204) C (c_sortOfF l D y (tx cz) (by omega)) kw_Reader_296 ks_Reader_sortOf ⟨by decide, by decide⟩ ⟨by decide, by decide⟩ (wr := [(rd, .inr (5, [.int fa, .int pl, .ref ow, .ref tp, .ref lk, .int (nI cz), .int 1, .int (nI az), .long le, .int wo, .int nu, .int (nI (tx az))])), (tp, .inr (0, [.ref td, .int (nI k)])), (td, .inl (y 0, 1600, .inl (tby tx))), (ow, .inl (y 1, 33, .inr (.inl ww)))]) [] [0, 1, 2, 3] rfl rfl (by decide) (by decide) (by decide) (As := [.int (nI (tx cz))]) (rest := []) rfl (nb rfl) rfl d_Reader_advance_204 (fun r560 _ hr560 => ?_)
              refine j_ws (ws' := [(rd, .inr (5, [.int fa, .int pl, .ref ow, .ref tp, .ref lk, .int (nI cz), .int 1, .int (nI az), .long le, .int wo, .int nu, .int (nI (tx az))])), (tp, .inr (0, [.ref td, .int (nI k)])), (td, .inl (y 0, 1600, .inl (tby tx))), (ow, .inl (y 1, 33, .inr (.inl ww)))]) rfl ?_
              rcases hr560 with ⟨rfl, xh562⟩ | ⟨rfl, xh563⟩ | ⟨rfl, xh564⟩
              · refine j_aload_n (pc := 207) C d_Reader_advance_207 rfl 3 rfl ?_
                refine j_get (pc := 208) C gf_Reader_50 0 rfl rfl d_Reader_advance_208 ?_
                refine j_icmp_neF (pc := 211) C (tgt := 227) d_Reader_advance_211 (by decide) (by decide) ?_
                refine j_aload_n (pc := 214) C d_Reader_advance_214 rfl 3 rfl ?_
                refine j_dup (pc := 215) C d_Reader_advance_215 rfl ?_
                refine j_get (pc := 216) C gf_Reader_47 0 rfl rfl d_Reader_advance_216 ?_
                refine j_iconst (pc := 219) C (v := 1) d_Reader_advance_219 (by decide) ?_
                refine j_iadd (pc := 220) C (v := nI (cz + 1)) d_Reader_advance_220 (nI_add _ _) ?_
                refine j_put (pc := 221) C pf_Reader_47 0 (ws' := [(rd, .inr (5, [.int fa, .int pl, .ref ow, .ref tp, .ref lk, .int (nI (cz + 1)), .int 1, .int (nI az), .long le, .int wo, .int nu, .int (nI (tx az))])), (tp, .inr (0, [.ref td, .int (nI k)])), (td, .inl (y 0, 1600, .inl (tby tx))), (ow, .inl (y 1, 33, .inr (.inl ww)))]) rfl rfl rfl (nl rfl) rfl d_Reader_advance_221 ?_
                refine j_goto (pc := 224) C (tgt := 176) d_Reader_advance_224 (by decide) ?_
                exact ih553 ((cz + 1)) ⟨(show az + 1 ≤ (cz + 1) by omega), (show (cz + 1) ≤ k by omega), (fun i h1 h2 => by
                        by_cases e : i = cz
                        · rw [e]; exact xh562
                        · exact hg_ i h1 (by omega))⟩ (show k - (cz + 1) < k - cz by omega)
              · refine j_aload_n (pc := 207) C d_Reader_advance_207 rfl 3 rfl ?_
                refine j_get (pc := 208) C gf_Reader_50 0 rfl rfl d_Reader_advance_208 ?_
                refine j_icmp_neT (pc := 211) C (tgt := 227) d_Reader_advance_211 (by decide) (by decide) ?_
                refine j_aload_n (pc := 227) C d_Reader_advance_227 rfl 3 rfl ?_
                refine j_get (pc := 228) C gf_Reader_50 0 rfl rfl d_Reader_advance_228 ?_
                refine j_iconst (pc := 231) C (v := 1) d_Reader_advance_231 (by decide) ?_
                refine j_icmp_neF (pc := 232) C (tgt := 242) d_Reader_advance_232 (by decide) (by decide) ?_
                refine j_aload_n (pc := 235) C d_Reader_advance_235 rfl 3 rfl ?_
                refine j_callVv (pc := 236) C (c_rF_knowWord l D y rd ow tp lk td fa pl 1 le wo nu (nI (tx az)) cz az k tx ww he_ (by omega) hk hB (fun i h1 h2 => srt_1' (hg_ i h1 h2))) kw_Reader_299 kv_Reader_knowWord 0 5 rfl rfl ⟨by decide, by decide⟩ ⟨by decide, by decide⟩ (wr := []) [0, 1, 2, 3] [] rfl rfl (by decide) (by decide) (by decide) (As := []) (rest := []) rfl (nb rfl) rfl d_Reader_advance_236 (fun u565 hu566 => ?_)
                obtain ⟨xh567, xh568⟩ := hu566
                refine j_ws (ws' := [(rd, .inr (5, [.int fa, .int pl, .ref ow, .ref tp, .ref lk, .int (nI cz), .int 1, .int (nI az), .long u565.1, .int u565.2, .int nu, .int (nI (tx az))])), (tp, .inr (0, [.ref td, .int (nI k)])), (td, .inl (y 0, 1600, .inl (tby tx))), (ow, .inl (y 1, 33, .inr (.inl ww)))]) rfl ?_
                refine j_goto (pc := 239) C (tgt := 254) d_Reader_advance_239 (by decide) ?_
                exact j_vret (pc := 254) C hr (cz, az, 1, u565.1, u565.2, nu, nI (tx az)) ⟨show cz ≤ k by omega, show az ≤ cz by omega, (by rw [hG352]; exact cl_word (q := az) (e := cz) hq525 (by omega) (fun h => absurd h.1 (by decide)) hg_ (by omega) (fun h => by have h1 := h.1; have h2 := h.2; omega) hWW xh567 xh568 rfl)⟩ [0, 1, 2, 3] rfl (by decide) (by decide) (by decide) d_Reader_advance_254
              · refine j_aload_n (pc := 207) C d_Reader_advance_207 rfl 3 rfl ?_
                refine j_get (pc := 208) C gf_Reader_50 0 rfl rfl d_Reader_advance_208 ?_
                refine j_icmp_neT (pc := 211) C (tgt := 227) d_Reader_advance_211 (by decide) (by decide) ?_
                refine j_aload_n (pc := 227) C d_Reader_advance_227 rfl 3 rfl ?_
                refine j_get (pc := 228) C gf_Reader_50 0 rfl rfl d_Reader_advance_228 ?_
                refine j_iconst (pc := 231) C (v := 1) d_Reader_advance_231 (by decide) ?_
                refine j_icmp_neF (pc := 232) C (tgt := 242) d_Reader_advance_232 (by decide) (by decide) ?_
                refine j_aload_n (pc := 235) C d_Reader_advance_235 rfl 3 rfl ?_
                refine j_callVv (pc := 236) C (c_rF_knowWord l D y rd ow tp lk td fa pl 1 le wo nu (nI (tx az)) cz az k tx ww he_ (by omega) hk hB (fun i h1 h2 => srt_1' (hg_ i h1 h2))) kw_Reader_299 kv_Reader_knowWord 0 5 rfl rfl ⟨by decide, by decide⟩ ⟨by decide, by decide⟩ (wr := []) [0, 1, 2, 3] [] rfl rfl (by decide) (by decide) (by decide) (As := []) (rest := []) rfl (nb rfl) rfl d_Reader_advance_236 (fun u569 hu570 => ?_)
                obtain ⟨xh571, xh572⟩ := hu570
                refine j_ws (ws' := [(rd, .inr (5, [.int fa, .int pl, .ref ow, .ref tp, .ref lk, .int (nI cz), .int 1, .int (nI az), .long u569.1, .int u569.2, .int nu, .int (nI (tx az))])), (tp, .inr (0, [.ref td, .int (nI k)])), (td, .inl (y 0, 1600, .inl (tby tx))), (ow, .inl (y 1, 33, .inr (.inl ww)))]) rfl ?_
                refine j_goto (pc := 239) C (tgt := 254) d_Reader_advance_239 (by decide) ?_
                exact j_vret (pc := 254) C hr (cz, az, 1, u569.1, u569.2, nu, nI (tx az)) ⟨show cz ≤ k by omega, show az ≤ cz by omega, (by rw [hG352]; exact cl_word (q := az) (e := cz) hq525 (by omega) (fun h => absurd h.1 (by decide)) hg_ (by omega) (fun h => by have h1 := h.1; have h2 := h.2; omega) hWW xh571 xh572 rfl)⟩ [0, 1, 2, 3] rfl (by decide) (by decide) (by decide) d_Reader_advance_254
          · refine j_put (pc := 163) C pf_Reader_50 0 (ws' := [(rd, .inr (5, [.int fa, .int pl, .ref ow, .ref tp, .ref lk, .int (nI az), .int 2, .int (nI az), .long le, .int wo, .int nu, .int (nI (tx az))])), (tp, .inr (0, [.ref td, .int (nI k)])), (td, .inl (y 0, 1600, .inl (tby tx))), (ow, .inl (y 1, 33, .inr (.inl ww)))]) rfl rfl rfl (nl rfl) rfl d_Reader_advance_163 ?_
            refine j_aload_n (pc := 166) C d_Reader_advance_166 rfl 3 rfl ?_
            refine j_dup (pc := 167) C d_Reader_advance_167 rfl ?_
            refine j_get (pc := 168) C gf_Reader_47 0 rfl rfl d_Reader_advance_168 ?_
            refine j_iconst (pc := 171) C (v := 1) d_Reader_advance_171 (by decide) ?_
            refine j_iadd (pc := 172) C (v := nI (az + 1)) d_Reader_advance_172 (nI_add _ _) ?_
            refine j_put (pc := 173) C pf_Reader_47 0 (ws' := [(rd, .inr (5, [.int fa, .int pl, .ref ow, .ref tp, .ref lk, .int (nI (az + 1)), .int 2, .int (nI az), .long le, .int wo, .int nu, .int (nI (tx az))])), (tp, .inr (0, [.ref td, .int (nI k)])), (td, .inl (y 0, 1600, .inl (tby tx))), (ow, .inl (y 1, 33, .inr (.inl ww)))]) rfl rfl rfl (nl rfl) rfl d_Reader_advance_173 ?_
            refine j_loop (α := Nat) (fun a => k - a) (fun a => (az + 1 ≤ a) ∧ (a ≤ k) ∧ ((∀ i, az ≤ i → i < a → srt (tx i) = 2))) (fun a => [(rd, .inr (5, [.int fa, .int pl, .ref ow, .ref tp, .ref lk, .int (nI a), .int 2, .int (nI az), .long le, .int wo, .int nu, .int (nI (tx az))])), (tp, .inr (0, [.ref td, .int (nI k)])), (td, .inl (y 0, 1600, .inl (tby tx))), (ow, .inl (y 1, 33, .inr (.inl ww)))]) (fun a => [(3, .int (nI k)), (2, .int (nI ra)), (1, .int 0), (0, .ref rd)]) ((az + 1)) rfl rfl ⟨(show az + 1 ≤ (az + 1) by omega), (show (az + 1) ≤ k by omega), (fun i h1 h2 => by rw [show i = az by omega]; exact xh531)⟩ ?_
            rintro cz hP589 ih590
            obtain ⟨hd__, he__, hg__⟩ := hP589
            have hd_ : az + 1 ≤ cz := hd__
            have he_ : cz ≤ k := he__
            have hg_ : (∀ i, az ≤ i → i < cz → srt (tx i) = 2) := hg__
            refine j_ws (ws' := [(rd, .inr (5, [.int fa, .int pl, .ref ow, .ref tp, .ref lk, .int (nI cz), .int 2, .int (nI az), .long le, .int wo, .int nu, .int (nI (tx az))])), (tp, .inr (0, [.ref td, .int (nI k)])), (td, .inl (y 0, 1600, .inl (tby tx))), (ow, .inl (y 1, 33, .inr (.inl ww)))]) rfl ?_
            refine j_lv (lv' := [(3, .int (nI k)), (2, .int (nI ra)), (1, .int 0), (0, .ref rd)]) rfl ?_
            refine j_aload_n (pc := 176) C d_Reader_advance_176 rfl 3 rfl ?_
            refine j_get (pc := 177) C gf_Reader_47 0 rfl rfl d_Reader_advance_177 ?_
            refine j_iload_n (pc := 180) C d_Reader_advance_180 rfl 0 rfl ?_
            by_cases c591 : k ≤ cz
            · refine j_icmp_geT (pc := 181) C (tgt := 227) d_Reader_advance_181 (by decide) (show nI k ≤ nI cz from nI_le (by omega) (by omega)) ?_
              refine j_aload_n (pc := 227) C d_Reader_advance_227 rfl 3 rfl ?_
              refine j_get (pc := 228) C gf_Reader_50 0 rfl rfl d_Reader_advance_228 ?_
              refine j_iconst (pc := 231) C (v := 1) d_Reader_advance_231 (by decide) ?_
              refine j_icmp_neT (pc := 232) C (tgt := 242) d_Reader_advance_232 (by decide) (by decide) ?_
              refine j_aload_n (pc := 242) C d_Reader_advance_242 rfl 3 rfl ?_
              refine j_get (pc := 243) C gf_Reader_50 0 rfl rfl d_Reader_advance_243 ?_
              refine j_iconst (pc := 246) C (v := 2) d_Reader_advance_246 (by decide) ?_
              refine j_icmp_neF (pc := 247) C (tgt := 254) d_Reader_advance_247 (by decide) (by decide) ?_
              refine j_aload_n (pc := 250) C d_Reader_advance_250 rfl 3 rfl ?_
              refine j_callVv (pc := 251) C (c_rF_knowNumber l D y rd ow tp lk td fa pl 2 le wo nu (nI (tx az)) cz az k tx he_ (by omega) hk hB (fun i h1 h2 => srt_2' (hg_ i h1 h2))) kw_Reader_302 kv_Reader_knowNumber 0 5 rfl rfl ⟨by decide, by decide⟩ ⟨by decide, by decide⟩ (wr := [(ow, .inl (y 1, 33, .inr (.inl ww)))]) [0, 1, 2] [3] rfl rfl (by decide) (by decide) (by decide) (As := []) (rest := []) rfl (nb rfl) rfl d_Reader_advance_251 (fun u592 hu593 => ?_)
              have xh594 := hu593
              refine j_ws (ws' := [(ow, .inl (y 1, 33, .inr (.inl ww))), (rd, .inr (5, [.int fa, .int pl, .ref ow, .ref tp, .ref lk, .int (nI cz), .int 2, .int (nI az), .long le, .int wo, .int u592, .int (nI (tx az))])), (tp, .inr (0, [.ref td, .int (nI k)])), (td, .inl (y 0, 1600, .inl (tby tx)))]) rfl ?_
              exact j_vret (pc := 254) C hr (cz, az, 2, le, wo, u592, nI (tx az)) ⟨show cz ≤ k by omega, show az ≤ cz by omega, (by rw [hG352]; exact cl_num (q := az) (e := cz) hq525 (by omega) (fun h => absurd h.1 (by decide)) hg_ (by omega) (fun h => by have h1 := h.1; have h2 := h.2; omega) xh594 rfl)⟩ [1, 2, 3, 0] rfl (by decide) (by decide) (by decide) d_Reader_advance_254
            · refine j_icmp_geF (pc := 181) C (tgt := 227) d_Reader_advance_181 (by decide) (show ¬ nI k ≤ nI cz from nI_ge (by omega) (by omega)) ?_
              refine j_aload_n (pc := 184) C d_Reader_advance_184 rfl 3 rfl ?_
              refine j_get (pc := 185) C gf_Reader_50 0 rfl rfl d_Reader_advance_185 ?_
              refine j_iconst (pc := 188) C (v := 3) d_Reader_advance_188 (by decide) ?_
              refine j_icmp_eqF (pc := 189) C (tgt := 227) d_Reader_advance_189 (by decide) (by decide) ?_
              refine j_aload_n (pc := 192) C d_Reader_advance_192 rfl 3 rfl ?_
              refine j_get (pc := 193) C gf_Reader_19 0 rfl rfl d_Reader_advance_193 ?_
              refine j_get (pc := 196) C gf_Reader_288 1 rfl rfl d_Reader_advance_196 ?_
              refine j_aload_n (pc := 199) C d_Reader_advance_199 rfl 3 rfl ?_
              refine j_get (pc := 200) C gf_Reader_47 0 rfl rfl d_Reader_advance_200 ?_
              have hb595 : tx cz < 256 := hB cz
              refine j_iald (pc := 203) C 2 rfl (v := nI (tx cz)) (vp_in_nI (by omega) (by decide)) (by rw [nI_clamp (by omega)]; rfl) d_Reader_advance_203 ?_
              refine j_callSi (pc := 204) C (c_sortOfF l D y (tx cz) (by omega)) kw_Reader_296 ks_Reader_sortOf ⟨by decide, by decide⟩ ⟨by decide, by decide⟩ (wr := [(rd, .inr (5, [.int fa, .int pl, .ref ow, .ref tp, .ref lk, .int (nI cz), .int 2, .int (nI az), .long le, .int wo, .int nu, .int (nI (tx az))])), (tp, .inr (0, [.ref td, .int (nI k)])), (td, .inl (y 0, 1600, .inl (tby tx))), (ow, .inl (y 1, 33, .inr (.inl ww)))]) [] [0, 1, 2, 3] rfl rfl (by decide) (by decide) (by decide) (As := [.int (nI (tx cz))]) (rest := []) rfl (nb rfl) rfl d_Reader_advance_204 (fun r596 _ hr596 => ?_)
              refine j_ws (ws' := [(rd, .inr (5, [.int fa, .int pl, .ref ow, .ref tp, .ref lk, .int (nI cz), .int 2, .int (nI az), .long le, .int wo, .int nu, .int (nI (tx az))])), (tp, .inr (0, [.ref td, .int (nI k)])), (td, .inl (y 0, 1600, .inl (tby tx))), (ow, .inl (y 1, 33, .inr (.inl ww)))]) rfl ?_
              rcases hr596 with ⟨rfl, xh598⟩ | ⟨rfl, xh599⟩ | ⟨rfl, xh600⟩
              · refine j_aload_n (pc := 207) C d_Reader_advance_207 rfl 3 rfl ?_
                refine j_get (pc := 208) C gf_Reader_50 0 rfl rfl d_Reader_advance_208 ?_
                refine j_icmp_neT (pc := 211) C (tgt := 227) d_Reader_advance_211 (by decide) (by decide) ?_
                refine j_aload_n (pc := 227) C d_Reader_advance_227 rfl 3 rfl ?_
                refine j_get (pc := 228) C gf_Reader_50 0 rfl rfl d_Reader_advance_228 ?_
                refine j_iconst (pc := 231) C (v := 1) d_Reader_advance_231 (by decide) ?_
                refine j_icmp_neT (pc := 232) C (tgt := 242) d_Reader_advance_232 (by decide) (by decide) ?_
                refine j_aload_n (pc := 242) C d_Reader_advance_242 rfl 3 rfl ?_
                refine j_get (pc := 243) C gf_Reader_50 0 rfl rfl d_Reader_advance_243 ?_
                refine j_iconst (pc := 246) C (v := 2) d_Reader_advance_246 (by decide) ?_
                refine j_icmp_neF (pc := 247) C (tgt := 254) d_Reader_advance_247 (by decide) (by decide) ?_
                refine j_aload_n (pc := 250) C d_Reader_advance_250 rfl 3 rfl ?_
                refine j_callVv (pc := 251) C (c_rF_knowNumber l D y rd ow tp lk td fa pl 2 le wo nu (nI (tx az)) cz az k tx he_ (by omega) hk hB (fun i h1 h2 => srt_2' (hg_ i h1 h2))) kw_Reader_302 kv_Reader_knowNumber 0 5 rfl rfl ⟨by decide, by decide⟩ ⟨by decide, by decide⟩ (wr := [(ow, .inl (y 1, 33, .inr (.inl ww)))]) [0, 1, 2] [3] rfl rfl (by decide) (by decide) (by decide) (As := []) (rest := []) rfl (nb rfl) rfl d_Reader_advance_251 (fun u601 hu602 => ?_)
                have xh603 := hu602
                refine j_ws (ws' := [(ow, .inl (y 1, 33, .inr (.inl ww))), (rd, .inr (5, [.int fa, .int pl, .ref ow, .ref tp, .ref lk, .int (nI cz), .int 2, .int (nI az), .long le, .int wo, .int u601, .int (nI (tx az))])), (tp, .inr (0, [.ref td, .int (nI k)])), (td, .inl (y 0, 1600, .inl (tby tx)))]) rfl ?_
                exact j_vret (pc := 254) C hr (cz, az, 2, le, wo, u601, nI (tx az)) ⟨show cz ≤ k by omega, show az ≤ cz by omega, (by rw [hG352]; exact cl_num (q := az) (e := cz) hq525 (by omega) (fun h => absurd h.1 (by decide)) hg_ (by omega) (fun h => by have h1 := h.1; have h2 := h.2; omega) xh603 rfl)⟩ [1, 2, 3, 0] rfl (by decide) (by decide) (by decide) d_Reader_advance_254
              · refine j_aload_n (pc := 207) C d_Reader_advance_207 rfl 3 rfl ?_
                refine j_get (pc := 208) C gf_Reader_50 0 rfl rfl d_Reader_advance_208 ?_
                refine j_icmp_neF (pc := 211) C (tgt := 227) d_Reader_advance_211 (by decide) (by decide) ?_
                refine j_aload_n (pc := 214) C d_Reader_advance_214 rfl 3 rfl ?_
                refine j_dup (pc := 215) C d_Reader_advance_215 rfl ?_
                refine j_get (pc := 216) C gf_Reader_47 0 rfl rfl d_Reader_advance_216 ?_
                refine j_iconst (pc := 219) C (v := 1) d_Reader_advance_219 (by decide) ?_
                refine j_iadd (pc := 220) C (v := nI (cz + 1)) d_Reader_advance_220 (nI_add _ _) ?_
                refine j_put (pc := 221) C pf_Reader_47 0 (ws' := [(rd, .inr (5, [.int fa, .int pl, .ref ow, .ref tp, .ref lk, .int (nI (cz + 1)), .int 2, .int (nI az), .long le, .int wo, .int nu, .int (nI (tx az))])), (tp, .inr (0, [.ref td, .int (nI k)])), (td, .inl (y 0, 1600, .inl (tby tx))), (ow, .inl (y 1, 33, .inr (.inl ww)))]) rfl rfl rfl (nl rfl) rfl d_Reader_advance_221 ?_
                refine j_goto (pc := 224) C (tgt := 176) d_Reader_advance_224 (by decide) ?_
                exact ih590 ((cz + 1)) ⟨(show az + 1 ≤ (cz + 1) by omega), (show (cz + 1) ≤ k by omega), (fun i h1 h2 => by
                        by_cases e : i = cz
                        · rw [e]; exact xh599
                        · exact hg_ i h1 (by omega))⟩ (show k - (cz + 1) < k - cz by omega)
              · refine j_aload_n (pc := 207) C d_Reader_advance_207 rfl 3 rfl ?_
                refine j_get (pc := 208) C gf_Reader_50 0 rfl rfl d_Reader_advance_208 ?_
                refine j_icmp_neT (pc := 211) C (tgt := 227) d_Reader_advance_211 (by decide) (by decide) ?_
                refine j_aload_n (pc := 227) C d_Reader_advance_227 rfl 3 rfl ?_
                refine j_get (pc := 228) C gf_Reader_50 0 rfl rfl d_Reader_advance_228 ?_
                refine j_iconst (pc := 231) C (v := 1) d_Reader_advance_231 (by decide) ?_
                refine j_icmp_neT (pc := 232) C (tgt := 242) d_Reader_advance_232 (by decide) (by decide) ?_
                refine j_aload_n (pc := 242) C d_Reader_advance_242 rfl 3 rfl ?_
                refine j_get (pc := 243) C gf_Reader_50 0 rfl rfl d_Reader_advance_243 ?_
                refine j_iconst (pc := 246) C (v := 2) d_Reader_advance_246 (by decide) ?_
                refine j_icmp_neF (pc := 247) C (tgt := 254) d_Reader_advance_247 (by decide) (by decide) ?_
                refine j_aload_n (pc := 250) C d_Reader_advance_250 rfl 3 rfl ?_
                refine j_callVv (pc := 251) C (c_rF_knowNumber l D y rd ow tp lk td fa pl 2 le wo nu (nI (tx az)) cz az k tx he_ (by omega) hk hB (fun i h1 h2 => srt_2' (hg_ i h1 h2))) kw_Reader_302 kv_Reader_knowNumber 0 5 rfl rfl ⟨by decide, by decide⟩ ⟨by decide, by decide⟩ (wr := [(ow, .inl (y 1, 33, .inr (.inl ww)))]) [0, 1, 2] [3] rfl rfl (by decide) (by decide) (by decide) (As := []) (rest := []) rfl (nb rfl) rfl d_Reader_advance_251 (fun u604 hu605 => ?_)
                have xh606 := hu605
                refine j_ws (ws' := [(ow, .inl (y 1, 33, .inr (.inl ww))), (rd, .inr (5, [.int fa, .int pl, .ref ow, .ref tp, .ref lk, .int (nI cz), .int 2, .int (nI az), .long le, .int wo, .int u604, .int (nI (tx az))])), (tp, .inr (0, [.ref td, .int (nI k)])), (td, .inl (y 0, 1600, .inl (tby tx)))]) rfl ?_
                exact j_vret (pc := 254) C hr (cz, az, 2, le, wo, u604, nI (tx az)) ⟨show cz ≤ k by omega, show az ≤ cz by omega, (by rw [hG352]; exact cl_num (q := az) (e := cz) hq525 (by omega) (fun h => absurd h.1 (by decide)) hg_ (by omega) (fun h => by have h1 := h.1; have h2 := h.2; omega) xh606 rfl)⟩ [1, 2, 3, 0] rfl (by decide) (by decide) (by decide) d_Reader_advance_254
          · refine j_put (pc := 163) C pf_Reader_50 0 (ws' := [(rd, .inr (5, [.int fa, .int pl, .ref ow, .ref tp, .ref lk, .int (nI az), .int 3, .int (nI az), .long le, .int wo, .int nu, .int (nI (tx az))])), (tp, .inr (0, [.ref td, .int (nI k)])), (td, .inl (y 0, 1600, .inl (tby tx))), (ow, .inl (y 1, 33, .inr (.inl ww)))]) rfl rfl rfl (nl rfl) rfl d_Reader_advance_163 ?_
            refine j_aload_n (pc := 166) C d_Reader_advance_166 rfl 3 rfl ?_
            refine j_dup (pc := 167) C d_Reader_advance_167 rfl ?_
            refine j_get (pc := 168) C gf_Reader_47 0 rfl rfl d_Reader_advance_168 ?_
            refine j_iconst (pc := 171) C (v := 1) d_Reader_advance_171 (by decide) ?_
            refine j_iadd (pc := 172) C (v := nI (az + 1)) d_Reader_advance_172 (nI_add _ _) ?_
            refine j_put (pc := 173) C pf_Reader_47 0 (ws' := [(rd, .inr (5, [.int fa, .int pl, .ref ow, .ref tp, .ref lk, .int (nI (az + 1)), .int 3, .int (nI az), .long le, .int wo, .int nu, .int (nI (tx az))])), (tp, .inr (0, [.ref td, .int (nI k)])), (td, .inl (y 0, 1600, .inl (tby tx))), (ow, .inl (y 1, 33, .inr (.inl ww)))]) rfl rfl rfl (nl rfl) rfl d_Reader_advance_173 ?_
            refine j_aload_n (pc := 176) C d_Reader_advance_176 rfl 3 rfl ?_
            refine j_get (pc := 177) C gf_Reader_47 0 rfl rfl d_Reader_advance_177 ?_
            refine j_iload_n (pc := 180) C d_Reader_advance_180 rfl 0 rfl ?_
            by_cases c607 : k ≤ (az + 1)
            · refine j_icmp_geT (pc := 181) C (tgt := 227) d_Reader_advance_181 (by decide) (show nI k ≤ nI (az + 1) from nI_le (by omega) (by omega)) ?_
              refine j_aload_n (pc := 227) C d_Reader_advance_227 rfl 3 rfl ?_
              refine j_get (pc := 228) C gf_Reader_50 0 rfl rfl d_Reader_advance_228 ?_
              refine j_iconst (pc := 231) C (v := 1) d_Reader_advance_231 (by decide) ?_
              refine j_icmp_neT (pc := 232) C (tgt := 242) d_Reader_advance_232 (by decide) (by decide) ?_
              refine j_aload_n (pc := 242) C d_Reader_advance_242 rfl 3 rfl ?_
              refine j_get (pc := 243) C gf_Reader_50 0 rfl rfl d_Reader_advance_243 ?_
              refine j_iconst (pc := 246) C (v := 2) d_Reader_advance_246 (by decide) ?_
              refine j_icmp_neT (pc := 247) C (tgt := 254) d_Reader_advance_247 (by decide) (by decide) ?_
              exact j_vret (pc := 254) C hr ((az + 1), az, 3, le, wo, nu, nI (tx az)) ⟨show (az + 1) ≤ k by omega, show az ≤ (az + 1) by omega, (by rw [hG352]; exact cl_sign (q := az) hq525 (by omega) (Or.inr xh532) rfl)⟩ [0, 1, 2, 3] rfl (by decide) (by decide) (by decide) d_Reader_advance_254
            · refine j_icmp_geF (pc := 181) C (tgt := 227) d_Reader_advance_181 (by decide) (show ¬ nI k ≤ nI (az + 1) from nI_ge (by omega) (by omega)) ?_
              refine j_aload_n (pc := 184) C d_Reader_advance_184 rfl 3 rfl ?_
              refine j_get (pc := 185) C gf_Reader_50 0 rfl rfl d_Reader_advance_185 ?_
              refine j_iconst (pc := 188) C (v := 3) d_Reader_advance_188 (by decide) ?_
              refine j_icmp_eqT (pc := 189) C (tgt := 227) d_Reader_advance_189 (by decide) (by decide) ?_
              refine j_aload_n (pc := 227) C d_Reader_advance_227 rfl 3 rfl ?_
              refine j_get (pc := 228) C gf_Reader_50 0 rfl rfl d_Reader_advance_228 ?_
              refine j_iconst (pc := 231) C (v := 1) d_Reader_advance_231 (by decide) ?_
              refine j_icmp_neT (pc := 232) C (tgt := 242) d_Reader_advance_232 (by decide) (by decide) ?_
              refine j_aload_n (pc := 242) C d_Reader_advance_242 rfl 3 rfl ?_
              refine j_get (pc := 243) C gf_Reader_50 0 rfl rfl d_Reader_advance_243 ?_
              refine j_iconst (pc := 246) C (v := 2) d_Reader_advance_246 (by decide) ?_
              refine j_icmp_neT (pc := 247) C (tgt := 254) d_Reader_advance_247 (by decide) (by decide) ?_
              exact j_vret (pc := 254) C hr ((az + 1), az, 3, le, wo, nu, nI (tx az)) ⟨show (az + 1) ≤ k by omega, show az ≤ (az + 1) by omega, (by rw [hG352]; exact cl_sign (q := az) hq525 (by omega) (Or.inr xh532) rfl)⟩ [0, 1, 2, 3] rfl (by decide) (by decide) (by decide) d_Reader_advance_254
        · refine j_icmp_ltF (pc := 114) C (tgt := 123) d_Reader_advance_114 (by decide) (show ¬ nI az < nI k from nI_nlt (by omega) (by omega)) ?_
          refine j_aload_n (pc := 117) C d_Reader_advance_117 rfl 3 rfl ?_
          refine j_iconst (pc := 118) C (v := 0) d_Reader_advance_118 (by decide) ?_
          refine j_put (pc := 119) C pf_Reader_50 0 (ws' := [(rd, .inr (5, [.int fa, .int pl, .ref ow, .ref tp, .ref lk, .int (nI az), .int 0, .int (nI az), .long le, .int wo, .int nu, .int si])), (tp, .inr (0, [.ref td, .int (nI k)])), (td, .inl (y 0, 1600, .inl (tby tx))), (ow, .inl (y 1, 33, .inr (.inl ww)))]) rfl rfl rfl (nl rfl) rfl d_Reader_advance_119 ?_
          exact j_vret (pc := 122) C hr (az, az, 0, le, wo, nu, si) ⟨show az ≤ k by omega, show az ≤ az by omega, (by rw [hG352]; exact cl_end (q := az) hq525 (by omega))⟩ [0, 1, 2, 3] rfl (by decide) (by decide) (by decide) d_Reader_advance_122
      · refine j_icmp_geF (pc := 51) C (tgt := 101) d_Reader_advance_51 (by decide) (show ¬ nI k ≤ nI az from nI_ge (by omega) (by omega)) ?_
        refine j_aload_n (pc := 54) C d_Reader_advance_54 rfl 3 rfl ?_
        refine j_get (pc := 55) C gf_Reader_19 0 rfl rfl d_Reader_advance_55 ?_
        refine j_get (pc := 58) C gf_Reader_288 1 rfl rfl d_Reader_advance_58 ?_
        refine j_aload_n (pc := 61) C d_Reader_advance_61 rfl 3 rfl ?_
        refine j_get (pc := 62) C gf_Reader_47 0 rfl rfl d_Reader_advance_62 ?_
        have hb608 : tx az < 256 := hB az
        refine j_iald (pc := 65) C 2 rfl (v := nI (tx az)) (vp_in_nI (by omega) (by decide)) (by rw [nI_clamp (by omega)]; rfl) d_Reader_advance_65 ?_
        refine j_bipush (pc := 66) C (v := 32) d_Reader_advance_66 (by decide) ?_
        by_cases c609 : (tx az) = 32
        · refine j_icmp_eqT (pc := 68) C (tgt := 88) d_Reader_advance_68 (by decide) (show nI (tx az) = nI 32 from (nI_eq (by omega) (by omega)).mpr (by omega)) ?_
          refine j_aload_n (pc := 88) C d_Reader_advance_88 rfl 3 rfl ?_
          refine j_dup (pc := 89) C d_Reader_advance_89 rfl ?_
          refine j_get (pc := 90) C gf_Reader_47 0 rfl rfl d_Reader_advance_90 ?_
          refine j_iconst (pc := 93) C (v := 1) d_Reader_advance_93 (by decide) ?_
          refine j_iadd (pc := 94) C (v := nI (az + 1)) d_Reader_advance_94 (nI_add _ _) ?_
          refine j_put (pc := 95) C pf_Reader_47 0 (ws' := [(rd, .inr (5, [.int fa, .int pl, .ref ow, .ref tp, .ref lk, .int (nI (az + 1)), .int so, .int b0, .long le, .int wo, .int nu, .int si])), (tp, .inr (0, [.ref td, .int (nI k)])), (td, .inl (y 0, 1600, .inl (tby tx))), (ow, .inl (y 1, 33, .inr (.inl ww)))]) rfl rfl rfl (nl rfl) rfl d_Reader_advance_95 ?_
          refine j_goto (pc := 98) C (tgt := 46) d_Reader_advance_98 (by decide) ?_
          exact ih523 ((az + 1)) ⟨(show (az + 1) ≤ k by omega), (show ra ≤ (az + 1) by omega), (fun i h1 h2 => by
                  by_cases e : i = az
                  · rw [e]; omega
                  · exact hc_ i h1 (by omega))⟩ (show k - (az + 1) < k - az by omega)
        · refine j_icmp_eqF (pc := 68) C (tgt := 88) d_Reader_advance_68 (by decide) (show ¬ nI (tx az) = nI 32 from fun e => absurd ((nI_eq (by omega) (by omega)).mp e) (by omega)) ?_
          refine j_aload_n (pc := 71) C d_Reader_advance_71 rfl 3 rfl ?_
          refine j_get (pc := 72) C gf_Reader_19 0 rfl rfl d_Reader_advance_72 ?_
          refine j_get (pc := 75) C gf_Reader_288 1 rfl rfl d_Reader_advance_75 ?_
          refine j_aload_n (pc := 78) C d_Reader_advance_78 rfl 3 rfl ?_
          refine j_get (pc := 79) C gf_Reader_47 0 rfl rfl d_Reader_advance_79 ?_
          refine j_iald (pc := 82) C 2 rfl (v := nI (tx az)) (vp_in_nI (by omega) (by decide)) (by rw [nI_clamp (by omega)]; rfl) d_Reader_advance_82 ?_
          refine j_bipush (pc := 83) C (v := 10) d_Reader_advance_83 (by decide) ?_
          by_cases c610 : ¬ (tx az) = 10
          · refine j_icmp_neT (pc := 85) C (tgt := 101) d_Reader_advance_85 (by decide) (show ¬ nI (tx az) = nI 10 from fun e => absurd ((nI_eq (by omega) (by omega)).mp e) (by omega)) ?_
            have hq611 : tq tx k ra = az := sq_eq (by omega) (fun i h1 h2 => ⟨by omega, decide_eq_true (hc_ i h1 h2)⟩) (fun h => by have h1 := h.1; have h2 : tx az = 32 ∨ tx az = 10 := of_decide_eq_true h.2; omega)
            refine j_aload_n (pc := 101) C d_Reader_advance_101 rfl 3 rfl ?_
            refine j_aload_n (pc := 102) C d_Reader_advance_102 rfl 3 rfl ?_
            refine j_get (pc := 103) C gf_Reader_47 0 rfl rfl d_Reader_advance_103 ?_
            refine j_put (pc := 106) C pf_Reader_62 0 (ws' := [(rd, .inr (5, [.int fa, .int pl, .ref ow, .ref tp, .ref lk, .int (nI az), .int so, .int (nI az), .long le, .int wo, .int nu, .int si])), (tp, .inr (0, [.ref td, .int (nI k)])), (td, .inl (y 0, 1600, .inl (tby tx))), (ow, .inl (y 1, 33, .inr (.inl ww)))]) rfl rfl rfl (nl rfl) rfl d_Reader_advance_106 ?_
            refine j_aload_n (pc := 109) C d_Reader_advance_109 rfl 3 rfl ?_
            refine j_get (pc := 110) C gf_Reader_47 0 rfl rfl d_Reader_advance_110 ?_
            refine j_iload_n (pc := 113) C d_Reader_advance_113 rfl 0 rfl ?_
            by_cases c612 : az < k
            · refine j_icmp_ltT (pc := 114) C (tgt := 123) d_Reader_advance_114 (by decide) (show nI az < nI k from nI_lt (by omega) (by omega)) ?_
              refine j_aload_n (pc := 123) C d_Reader_advance_123 rfl 3 rfl ?_
              refine j_aload_n (pc := 124) C d_Reader_advance_124 rfl 3 rfl ?_
              refine j_get (pc := 125) C gf_Reader_19 0 rfl rfl d_Reader_advance_125 ?_
              refine j_get (pc := 128) C gf_Reader_288 1 rfl rfl d_Reader_advance_128 ?_
              refine j_aload_n (pc := 131) C d_Reader_advance_131 rfl 3 rfl ?_
              refine j_get (pc := 132) C gf_Reader_47 0 rfl rfl d_Reader_advance_132 ?_
              refine j_iald (pc := 135) C 2 rfl (v := nI (tx az)) (vp_in_nI (by omega) (by decide)) (by rw [nI_clamp (by omega)]; rfl) d_Reader_advance_135 ?_
              refine j_put (pc := 136) C pf_Reader_272 0 (ws' := [(rd, .inr (5, [.int fa, .int pl, .ref ow, .ref tp, .ref lk, .int (nI az), .int so, .int (nI az), .long le, .int wo, .int nu, .int (nI (tx az))])), (tp, .inr (0, [.ref td, .int (nI k)])), (td, .inl (y 0, 1600, .inl (tby tx))), (ow, .inl (y 1, 33, .inr (.inl ww)))]) rfl rfl rfl (nl rfl) rfl d_Reader_advance_136 ?_
              refine j_aload_n (pc := 139) C d_Reader_advance_139 rfl 3 rfl ?_
              refine j_iload_n (pc := 140) C d_Reader_advance_140 rfl 2 rfl ?_
              refine j_if_eqT (pc := 141) C (tgt := 156) d_Reader_advance_141 (by decide) (by decide) ?_
              refine j_aload_n (pc := 156) C d_Reader_advance_156 rfl 3 rfl ?_
              refine j_get (pc := 157) C gf_Reader_272 0 rfl rfl d_Reader_advance_157 ?_
              refine j_callSi (pc := 160) C (c_sortOfF l D y (tx az) (by omega)) kw_Reader_296 ks_Reader_sortOf ⟨by decide, by decide⟩ ⟨by decide, by decide⟩ (wr := [(rd, .inr (5, [.int fa, .int pl, .ref ow, .ref tp, .ref lk, .int (nI az), .int so, .int (nI az), .long le, .int wo, .int nu, .int (nI (tx az))])), (tp, .inr (0, [.ref td, .int (nI k)])), (td, .inl (y 0, 1600, .inl (tby tx))), (ow, .inl (y 1, 33, .inr (.inl ww)))]) [] [0, 1, 2, 3] rfl rfl (by decide) (by decide) (by decide) (As := [.int (nI (tx az))]) (rest := [.ref rd]) rfl (nb rfl) rfl d_Reader_advance_160 (fun r613 _ hr613 => ?_)
              refine j_ws (ws' := [(rd, .inr (5, [.int fa, .int pl, .ref ow, .ref tp, .ref lk, .int (nI az), .int so, .int (nI az), .long le, .int wo, .int nu, .int (nI (tx az))])), (tp, .inr (0, [.ref td, .int (nI k)])), (td, .inl (y 0, 1600, .inl (tby tx))), (ow, .inl (y 1, 33, .inr (.inl ww)))]) rfl ?_
              rcases hr613 with ⟨rfl, xh615⟩ | ⟨rfl, xh616⟩ | ⟨rfl, xh617⟩
              · refine j_put (pc := 163) C pf_Reader_50 0 (ws' := [(rd, .inr (5, [.int fa, .int pl, .ref ow, .ref tp, .ref lk, .int (nI az), .int 1, .int (nI az), .long le, .int wo, .int nu, .int (nI (tx az))])), (tp, .inr (0, [.ref td, .int (nI k)])), (td, .inl (y 0, 1600, .inl (tby tx))), (ow, .inl (y 1, 33, .inr (.inl ww)))]) rfl rfl rfl (nl rfl) rfl d_Reader_advance_163 ?_
                refine j_aload_n (pc := 166) C d_Reader_advance_166 rfl 3 rfl ?_
                refine j_dup (pc := 167) C d_Reader_advance_167 rfl ?_
                refine j_get (pc := 168) C gf_Reader_47 0 rfl rfl d_Reader_advance_168 ?_
                refine j_iconst (pc := 171) C (v := 1) d_Reader_advance_171 (by decide) ?_
                refine j_iadd (pc := 172) C (v := nI (az + 1)) d_Reader_advance_172 (nI_add _ _) ?_
                refine j_put (pc := 173) C pf_Reader_47 0 (ws' := [(rd, .inr (5, [.int fa, .int pl, .ref ow, .ref tp, .ref lk, .int (nI (az + 1)), .int 1, .int (nI az), .long le, .int wo, .int nu, .int (nI (tx az))])), (tp, .inr (0, [.ref td, .int (nI k)])), (td, .inl (y 0, 1600, .inl (tby tx))), (ow, .inl (y 1, 33, .inr (.inl ww)))]) rfl rfl rfl (nl rfl) rfl d_Reader_advance_173 ?_
                refine j_loop (α := Nat) (fun a => k - a) (fun a => (az + 1 ≤ a) ∧ (a ≤ k) ∧ ((∀ i, az ≤ i → i < a → srt (tx i) = 1))) (fun a => [(rd, .inr (5, [.int fa, .int pl, .ref ow, .ref tp, .ref lk, .int (nI a), .int 1, .int (nI az), .long le, .int wo, .int nu, .int (nI (tx az))])), (tp, .inr (0, [.ref td, .int (nI k)])), (td, .inl (y 0, 1600, .inl (tby tx))), (ow, .inl (y 1, 33, .inr (.inl ww)))]) (fun a => [(3, .int (nI k)), (2, .int (nI ra)), (1, .int 0), (0, .ref rd)]) ((az + 1)) rfl rfl ⟨(show az + 1 ≤ (az + 1) by omega), (show (az + 1) ≤ k by omega), (fun i h1 h2 => by rw [show i = az by omega]; exact xh615)⟩ ?_
                rintro cz hP637 ih638
                obtain ⟨hd__, he__, hg__⟩ := hP637
                have hd_ : az + 1 ≤ cz := hd__
                have he_ : cz ≤ k := he__
                have hg_ : (∀ i, az ≤ i → i < cz → srt (tx i) = 1) := hg__
                refine j_ws (ws' := [(rd, .inr (5, [.int fa, .int pl, .ref ow, .ref tp, .ref lk, .int (nI cz), .int 1, .int (nI az), .long le, .int wo, .int nu, .int (nI (tx az))])), (tp, .inr (0, [.ref td, .int (nI k)])), (td, .inl (y 0, 1600, .inl (tby tx))), (ow, .inl (y 1, 33, .inr (.inl ww)))]) rfl ?_
                refine j_lv (lv' := [(3, .int (nI k)), (2, .int (nI ra)), (1, .int 0), (0, .ref rd)]) rfl ?_
                refine j_aload_n (pc := 176) C d_Reader_advance_176 rfl 3 rfl ?_
                refine j_get (pc := 177) C gf_Reader_47 0 rfl rfl d_Reader_advance_177 ?_
                refine j_iload_n (pc := 180) C d_Reader_advance_180 rfl 0 rfl ?_
                by_cases c639 : k ≤ cz
                · refine j_icmp_geT (pc := 181) C (tgt := 227) d_Reader_advance_181 (by decide) (show nI k ≤ nI cz from nI_le (by omega) (by omega)) ?_
                  refine j_aload_n (pc := 227) C d_Reader_advance_227 rfl 3 rfl ?_
                  refine j_get (pc := 228) C gf_Reader_50 0 rfl rfl d_Reader_advance_228 ?_
                  refine j_iconst (pc := 231) C (v := 1) d_Reader_advance_231 (by decide) ?_
                  refine j_icmp_neF (pc := 232) C (tgt := 242) d_Reader_advance_232 (by decide) (by decide) ?_
                  refine j_aload_n (pc := 235) C d_Reader_advance_235 rfl 3 rfl ?_
                  refine j_callVv (pc := 236) C (c_rF_knowWord l D y rd ow tp lk td fa pl 1 le wo nu (nI (tx az)) cz az k tx ww he_ (by omega) hk hB (fun i h1 h2 => srt_1' (hg_ i h1 h2))) kw_Reader_299 kv_Reader_knowWord 0 5 rfl rfl ⟨by decide, by decide⟩ ⟨by decide, by decide⟩ (wr := []) [0, 1, 2, 3] [] rfl rfl (by decide) (by decide) (by decide) (As := []) (rest := []) rfl (nb rfl) rfl d_Reader_advance_236 (fun u640 hu641 => ?_)
                  obtain ⟨xh642, xh643⟩ := hu641
                  refine j_ws (ws' := [(rd, .inr (5, [.int fa, .int pl, .ref ow, .ref tp, .ref lk, .int (nI cz), .int 1, .int (nI az), .long u640.1, .int u640.2, .int nu, .int (nI (tx az))])), (tp, .inr (0, [.ref td, .int (nI k)])), (td, .inl (y 0, 1600, .inl (tby tx))), (ow, .inl (y 1, 33, .inr (.inl ww)))]) rfl ?_
                  refine j_goto (pc := 239) C (tgt := 254) d_Reader_advance_239 (by decide) ?_
                  exact j_vret (pc := 254) C hr (cz, az, 1, u640.1, u640.2, nu, nI (tx az)) ⟨show cz ≤ k by omega, show az ≤ cz by omega, (by rw [hG352]; exact cl_word (q := az) (e := cz) hq611 (by omega) (fun h => absurd h.1 (by decide)) hg_ (by omega) (fun h => by have h1 := h.1; have h2 := h.2; omega) hWW xh642 xh643 rfl)⟩ [0, 1, 2, 3] rfl (by decide) (by decide) (by decide) d_Reader_advance_254
                · refine j_icmp_geF (pc := 181) C (tgt := 227) d_Reader_advance_181 (by decide) (show ¬ nI k ≤ nI cz from nI_ge (by omega) (by omega)) ?_
                  refine j_aload_n (pc := 184) C d_Reader_advance_184 rfl 3 rfl ?_
                  refine j_get (pc := 185) C gf_Reader_50 0 rfl rfl d_Reader_advance_185 ?_
                  refine j_iconst (pc := 188) C (v := 3) d_Reader_advance_188 (by decide) ?_
                  refine j_icmp_eqF (pc := 189) C (tgt := 227) d_Reader_advance_189 (by decide) (by decide) ?_
                  refine j_aload_n (pc := 192) C d_Reader_advance_192 rfl 3 rfl ?_
                  refine j_get (pc := 193) C gf_Reader_19 0 rfl rfl d_Reader_advance_193 ?_
                  refine j_get (pc := 196) C gf_Reader_288 1 rfl rfl d_Reader_advance_196 ?_
                  refine j_aload_n (pc := 199) C d_Reader_advance_199 rfl 3 rfl ?_
                  refine j_get (pc := 200) C gf_Reader_47 0 rfl rfl d_Reader_advance_200 ?_
                  have hb644 : tx cz < 256 := hB cz
                  refine j_iald (pc := 203) C 2 rfl (v := nI (tx cz)) (vp_in_nI (by omega) (by decide)) (by rw [nI_clamp (by omega)]; rfl) d_Reader_advance_203 ?_
                  refine j_callSi (pc := 204) C (c_sortOfF l D y (tx cz) (by omega)) kw_Reader_296 ks_Reader_sortOf ⟨by decide, by decide⟩ ⟨by decide, by decide⟩ (wr := [(rd, .inr (5, [.int fa, .int pl, .ref ow, .ref tp, .ref lk, .int (nI cz), .int 1, .int (nI az), .long le, .int wo, .int nu, .int (nI (tx az))])), (tp, .inr (0, [.ref td, .int (nI k)])), (td, .inl (y 0, 1600, .inl (tby tx))), (ow, .inl (y 1, 33, .inr (.inl ww)))]) [] [0, 1, 2, 3] rfl rfl (by decide) (by decide) (by decide) (As := [.int (nI (tx cz))]) (rest := []) rfl (nb rfl) rfl d_Reader_advance_204 (fun r645 _ hr645 => ?_)
                  refine j_ws (ws' := [(rd, .inr (5, [.int fa, .int pl, .ref ow, .ref tp, .ref lk, .int (nI cz), .int 1, .int (nI az), .long le, .int wo, .int nu, .int (nI (tx az))])), (tp, .inr (0, [.ref td, .int (nI k)])), (td, .inl (y 0, 1600, .inl (tby tx))), (ow, .inl (y 1, 33, .inr (.inl ww)))]) rfl ?_
                  rcases hr645 with ⟨rfl, xh647⟩ | ⟨rfl, xh648⟩ | ⟨rfl, xh649⟩
                  · refine j_aload_n (pc := 207) C d_Reader_advance_207 rfl 3 rfl ?_
                    refine j_get (pc := 208) C gf_Reader_50 0 rfl rfl d_Reader_advance_208 ?_
                    refine j_icmp_neF (pc := 211) C (tgt := 227) d_Reader_advance_211 (by decide) (by decide) ?_
                    refine j_aload_n (pc := 214) C d_Reader_advance_214 rfl 3 rfl ?_
                    refine j_dup (pc := 215) C d_Reader_advance_215 rfl ?_
                    refine j_get (pc := 216) C gf_Reader_47 0 rfl rfl d_Reader_advance_216 ?_
                    refine j_iconst (pc := 219) C (v := 1) d_Reader_advance_219 (by decide) ?_
                    refine j_iadd (pc := 220) C (v := nI (cz + 1)) d_Reader_advance_220 (nI_add _ _) ?_
                    refine j_put (pc := 221) C pf_Reader_47 0 (ws' := [(rd, .inr (5, [.int fa, .int pl, .ref ow, .ref tp, .ref lk, .int (nI (cz + 1)), .int 1, .int (nI az), .long le, .int wo, .int nu, .int (nI (tx az))])), (tp, .inr (0, [.ref td, .int (nI k)])), (td, .inl (y 0, 1600, .inl (tby tx))), (ow, .inl (y 1, 33, .inr (.inl ww)))]) rfl rfl rfl (nl rfl) rfl d_Reader_advance_221 ?_
                    refine j_goto (pc := 224) C (tgt := 176) d_Reader_advance_224 (by decide) ?_
                    exact ih638 ((cz + 1)) ⟨(show az + 1 ≤ (cz + 1) by omega), (show (cz + 1) ≤ k by omega), (fun i h1 h2 => by
                            by_cases e : i = cz
                            · rw [e]; exact xh647
                            · exact hg_ i h1 (by omega))⟩ (show k - (cz + 1) < k - cz by omega)
                  · refine j_aload_n (pc := 207) C d_Reader_advance_207 rfl 3 rfl ?_
                    refine j_get (pc := 208) C gf_Reader_50 0 rfl rfl d_Reader_advance_208 ?_
                    refine j_icmp_neT (pc := 211) C (tgt := 227) d_Reader_advance_211 (by decide) (by decide) ?_
                    refine j_aload_n (pc := 227) C d_Reader_advance_227 rfl 3 rfl ?_
                    refine j_get (pc := 228) C gf_Reader_50 0 rfl rfl d_Reader_advance_228 ?_
                    refine j_iconst (pc := 231) C (v := 1) d_Reader_advance_231 (by decide) ?_
                    refine j_icmp_neF (pc := 232) C (tgt := 242) d_Reader_advance_232 (by decide) (by decide) ?_
                    refine j_aload_n (pc := 235) C d_Reader_advance_235 rfl 3 rfl ?_
                    refine j_callVv (pc := 236) C (c_rF_knowWord l D y rd ow tp lk td fa pl 1 le wo nu (nI (tx az)) cz az k tx ww he_ (by omega) hk hB (fun i h1 h2 => srt_1' (hg_ i h1 h2))) kw_Reader_299 kv_Reader_knowWord 0 5 rfl rfl ⟨by decide, by decide⟩ ⟨by decide, by decide⟩ (wr := []) [0, 1, 2, 3] [] rfl rfl (by decide) (by decide) (by decide) (As := []) (rest := []) rfl (nb rfl) rfl d_Reader_advance_236 (fun u650 hu651 => ?_)
                    obtain ⟨xh652, xh653⟩ := hu651
                    refine j_ws (ws' := [(rd, .inr (5, [.int fa, .int pl, .ref ow, .ref tp, .ref lk, .int (nI cz), .int 1, .int (nI az), .long u650.1, .int u650.2, .int nu, .int (nI (tx az))])), (tp, .inr (0, [.ref td, .int (nI k)])), (td, .inl (y 0, 1600, .inl (tby tx))), (ow, .inl (y 1, 33, .inr (.inl ww)))]) rfl ?_
                    refine j_goto (pc := 239) C (tgt := 254) d_Reader_advance_239 (by decide) ?_
                    exact j_vret (pc := 254) C hr (cz, az, 1, u650.1, u650.2, nu, nI (tx az)) ⟨show cz ≤ k by omega, show az ≤ cz by omega, (by rw [hG352]; exact cl_word (q := az) (e := cz) hq611 (by omega) (fun h => absurd h.1 (by decide)) hg_ (by omega) (fun h => by have h1 := h.1; have h2 := h.2; omega) hWW xh652 xh653 rfl)⟩ [0, 1, 2, 3] rfl (by decide) (by decide) (by decide) d_Reader_advance_254
                  · refine j_aload_n (pc := 207) C d_Reader_advance_207 rfl 3 rfl ?_
                    refine j_get (pc := 208) C gf_Reader_50 0 rfl rfl d_Reader_advance_208 ?_
                    refine j_icmp_neT (pc := 211) C (tgt := 227) d_Reader_advance_211 (by decide) (by decide) ?_
                    refine j_aload_n (pc := 227) C d_Reader_advance_227 rfl 3 rfl ?_
                    refine j_get (pc := 228) C gf_Reader_50 0 rfl rfl d_Reader_advance_228 ?_
                    refine j_iconst (pc := 231) C (v := 1) d_Reader_advance_231 (by decide) ?_
                    refine j_icmp_neF (pc := 232) C (tgt := 242) d_Reader_advance_232 (by decide) (by decide) ?_
                    refine j_aload_n (pc := 235) C d_Reader_advance_235 rfl 3 rfl ?_
                    refine j_callVv (pc := 236) C (c_rF_knowWord l D y rd ow tp lk td fa pl 1 le wo nu (nI (tx az)) cz az k tx ww he_ (by omega) hk hB (fun i h1 h2 => srt_1' (hg_ i h1 h2))) kw_Reader_299 kv_Reader_knowWord 0 5 rfl rfl ⟨by decide, by decide⟩ ⟨by decide, by decide⟩ (wr := []) [0, 1, 2, 3] [] rfl rfl (by decide) (by decide) (by decide) (As := []) (rest := []) rfl (nb rfl) rfl d_Reader_advance_236 (fun u654 hu655 => ?_)
                    obtain ⟨xh656, xh657⟩ := hu655
                    refine j_ws (ws' := [(rd, .inr (5, [.int fa, .int pl, .ref ow, .ref tp, .ref lk, .int (nI cz), .int 1, .int (nI az), .long u654.1, .int u654.2, .int nu, .int (nI (tx az))])), (tp, .inr (0, [.ref td, .int (nI k)])), (td, .inl (y 0, 1600, .inl (tby tx))), (ow, .inl (y 1, 33, .inr (.inl ww)))]) rfl ?_
                    refine j_goto (pc := 239) C (tgt := 254) d_Reader_advance_239 (by decide) ?_
                    exact j_vret (pc := 254) C hr (cz, az, 1, u654.1, u654.2, nu, nI (tx az)) ⟨show cz ≤ k by omega, show az ≤ cz by omega, (by rw [hG352]; exact cl_word (q := az) (e := cz) hq611 (by omega) (fun h => absurd h.1 (by decide)) hg_ (by omega) (fun h => by have h1 := h.1; have h2 := h.2; omega) hWW xh656 xh657 rfl)⟩ [0, 1, 2, 3] rfl (by decide) (by decide) (by decide) d_Reader_advance_254
              · refine j_put (pc := 163) C pf_Reader_50 0 (ws' := [(rd, .inr (5, [.int fa, .int pl, .ref ow, .ref tp, .ref lk, .int (nI az), .int 2, .int (nI az), .long le, .int wo, .int nu, .int (nI (tx az))])), (tp, .inr (0, [.ref td, .int (nI k)])), (td, .inl (y 0, 1600, .inl (tby tx))), (ow, .inl (y 1, 33, .inr (.inl ww)))]) rfl rfl rfl (nl rfl) rfl d_Reader_advance_163 ?_
                refine j_aload_n (pc := 166) C d_Reader_advance_166 rfl 3 rfl ?_
                refine j_dup (pc := 167) C d_Reader_advance_167 rfl ?_
                refine j_get (pc := 168) C gf_Reader_47 0 rfl rfl d_Reader_advance_168 ?_
                refine j_iconst (pc := 171) C (v := 1) d_Reader_advance_171 (by decide) ?_
                refine j_iadd (pc := 172) C (v := nI (az + 1)) d_Reader_advance_172 (nI_add _ _) ?_
                refine j_put (pc := 173) C pf_Reader_47 0 (ws' := [(rd, .inr (5, [.int fa, .int pl, .ref ow, .ref tp, .ref lk, .int (nI (az + 1)), .int 2, .int (nI az), .long le, .int wo, .int nu, .int (nI (tx az))])), (tp, .inr (0, [.ref td, .int (nI k)])), (td, .inl (y 0, 1600, .inl (tby tx))), (ow, .inl (y 1, 33, .inr (.inl ww)))]) rfl rfl rfl (nl rfl) rfl d_Reader_advance_173 ?_
                refine j_loop (α := Nat) (fun a => k - a) (fun a => (az + 1 ≤ a) ∧ (a ≤ k) ∧ ((∀ i, az ≤ i → i < a → srt (tx i) = 2))) (fun a => [(rd, .inr (5, [.int fa, .int pl, .ref ow, .ref tp, .ref lk, .int (nI a), .int 2, .int (nI az), .long le, .int wo, .int nu, .int (nI (tx az))])), (tp, .inr (0, [.ref td, .int (nI k)])), (td, .inl (y 0, 1600, .inl (tby tx))), (ow, .inl (y 1, 33, .inr (.inl ww)))]) (fun a => [(3, .int (nI k)), (2, .int (nI ra)), (1, .int 0), (0, .ref rd)]) ((az + 1)) rfl rfl ⟨(show az + 1 ≤ (az + 1) by omega), (show (az + 1) ≤ k by omega), (fun i h1 h2 => by rw [show i = az by omega]; exact xh616)⟩ ?_
                rintro cz hP674 ih675
                obtain ⟨hd__, he__, hg__⟩ := hP674
                have hd_ : az + 1 ≤ cz := hd__
                have he_ : cz ≤ k := he__
                have hg_ : (∀ i, az ≤ i → i < cz → srt (tx i) = 2) := hg__
                refine j_ws (ws' := [(rd, .inr (5, [.int fa, .int pl, .ref ow, .ref tp, .ref lk, .int (nI cz), .int 2, .int (nI az), .long le, .int wo, .int nu, .int (nI (tx az))])), (tp, .inr (0, [.ref td, .int (nI k)])), (td, .inl (y 0, 1600, .inl (tby tx))), (ow, .inl (y 1, 33, .inr (.inl ww)))]) rfl ?_
                refine j_lv (lv' := [(3, .int (nI k)), (2, .int (nI ra)), (1, .int 0), (0, .ref rd)]) rfl ?_
                refine j_aload_n (pc := 176) C d_Reader_advance_176 rfl 3 rfl ?_
                refine j_get (pc := 177) C gf_Reader_47 0 rfl rfl d_Reader_advance_177 ?_
                refine j_iload_n (pc := 180) C d_Reader_advance_180 rfl 0 rfl ?_
                by_cases c676 : k ≤ cz
                · refine j_icmp_geT (pc := 181) C (tgt := 227) d_Reader_advance_181 (by decide) (show nI k ≤ nI cz from nI_le (by omega) (by omega)) ?_
                  refine j_aload_n (pc := 227) C d_Reader_advance_227 rfl 3 rfl ?_
                  refine j_get (pc := 228) C gf_Reader_50 0 rfl rfl d_Reader_advance_228 ?_
                  refine j_iconst (pc := 231) C (v := 1) d_Reader_advance_231 (by decide) ?_
                  refine j_icmp_neT (pc := 232) C (tgt := 242) d_Reader_advance_232 (by decide) (by decide) ?_
                  refine j_aload_n (pc := 242) C d_Reader_advance_242 rfl 3 rfl ?_
                  refine j_get (pc := 243) C gf_Reader_50 0 rfl rfl d_Reader_advance_243 ?_
                  refine j_iconst (pc := 246) C (v := 2) d_Reader_advance_246 (by decide) ?_
                  refine j_icmp_neF (pc := 247) C (tgt := 254) d_Reader_advance_247 (by decide) (by decide) ?_
                  refine j_aload_n (pc := 250) C d_Reader_advance_250 rfl 3 rfl ?_
                  refine j_callVv (pc := 251) C (c_rF_knowNumber l D y rd ow tp lk td fa pl 2 le wo nu (nI (tx az)) cz az k tx he_ (by omega) hk hB (fun i h1 h2 => srt_2' (hg_ i h1 h2))) kw_Reader_302 kv_Reader_knowNumber 0 5 rfl rfl ⟨by decide, by decide⟩ ⟨by decide, by decide⟩ (wr := [(ow, .inl (y 1, 33, .inr (.inl ww)))]) [0, 1, 2] [3] rfl rfl (by decide) (by decide) (by decide) (As := []) (rest := []) rfl (nb rfl) rfl d_Reader_advance_251 (fun u677 hu678 => ?_)
                  have xh679 := hu678
                  refine j_ws (ws' := [(ow, .inl (y 1, 33, .inr (.inl ww))), (rd, .inr (5, [.int fa, .int pl, .ref ow, .ref tp, .ref lk, .int (nI cz), .int 2, .int (nI az), .long le, .int wo, .int u677, .int (nI (tx az))])), (tp, .inr (0, [.ref td, .int (nI k)])), (td, .inl (y 0, 1600, .inl (tby tx)))]) rfl ?_
                  exact j_vret (pc := 254) C hr (cz, az, 2, le, wo, u677, nI (tx az)) ⟨show cz ≤ k by omega, show az ≤ cz by omega, (by rw [hG352]; exact cl_num (q := az) (e := cz) hq611 (by omega) (fun h => absurd h.1 (by decide)) hg_ (by omega) (fun h => by have h1 := h.1; have h2 := h.2; omega) xh679 rfl)⟩ [1, 2, 3, 0] rfl (by decide) (by decide) (by decide) d_Reader_advance_254
                · refine j_icmp_geF (pc := 181) C (tgt := 227) d_Reader_advance_181 (by decide) (show ¬ nI k ≤ nI cz from nI_ge (by omega) (by omega)) ?_
                  refine j_aload_n (pc := 184) C d_Reader_advance_184 rfl 3 rfl ?_
                  refine j_get (pc := 185) C gf_Reader_50 0 rfl rfl d_Reader_advance_185 ?_
                  refine j_iconst (pc := 188) C (v := 3) d_Reader_advance_188 (by decide) ?_
                  refine j_icmp_eqF (pc := 189) C (tgt := 227) d_Reader_advance_189 (by decide) (by decide) ?_
                  refine j_aload_n (pc := 192) C d_Reader_advance_192 rfl 3 rfl ?_
                  refine j_get (pc := 193) C gf_Reader_19 0 rfl rfl d_Reader_advance_193 ?_
                  refine j_get (pc := 196) C gf_Reader_288 1 rfl rfl d_Reader_advance_196 ?_
                  refine j_aload_n (pc := 199) C d_Reader_advance_199 rfl 3 rfl ?_
                  refine j_get (pc := 200) C gf_Reader_47 0 rfl rfl d_Reader_advance_200 ?_
                  have hb680 : tx cz < 256 := hB cz
                  refine j_iald (pc := 203) C 2 rfl (v := nI (tx cz)) (vp_in_nI (by omega) (by decide)) (by rw [nI_clamp (by omega)]; rfl) d_Reader_advance_203 ?_
                  refine j_callSi (pc := 204) C (c_sortOfF l D y (tx cz) (by omega)) kw_Reader_296 ks_Reader_sortOf ⟨by decide, by decide⟩ ⟨by decide, by decide⟩ (wr := [(rd, .inr (5, [.int fa, .int pl, .ref ow, .ref tp, .ref lk, .int (nI cz), .int 2, .int (nI az), .long le, .int wo, .int nu, .int (nI (tx az))])), (tp, .inr (0, [.ref td, .int (nI k)])), (td, .inl (y 0, 1600, .inl (tby tx))), (ow, .inl (y 1, 33, .inr (.inl ww)))]) [] [0, 1, 2, 3] rfl rfl (by decide) (by decide) (by decide) (As := [.int (nI (tx cz))]) (rest := []) rfl (nb rfl) rfl d_Reader_advance_204 (fun r681 _ hr681 => ?_)
                  refine j_ws (ws' := [(rd, .inr (5, [.int fa, .int pl, .ref ow, .ref tp, .ref lk, .int (nI cz), .int 2, .int (nI az), .long le, .int wo, .int nu, .int (nI (tx az))])), (tp, .inr (0, [.ref td, .int (nI k)])), (td, .inl (y 0, 1600, .inl (tby tx))), (ow, .inl (y 1, 33, .inr (.inl ww)))]) rfl ?_
                  rcases hr681 with ⟨rfl, xh683⟩ | ⟨rfl, xh684⟩ | ⟨rfl, xh685⟩
                  · refine j_aload_n (pc := 207) C d_Reader_advance_207 rfl 3 rfl ?_
                    refine j_get (pc := 208) C gf_Reader_50 0 rfl rfl d_Reader_advance_208 ?_
                    refine j_icmp_neT (pc := 211) C (tgt := 227) d_Reader_advance_211 (by decide) (by decide) ?_
                    refine j_aload_n (pc := 227) C d_Reader_advance_227 rfl 3 rfl ?_
                    refine j_get (pc := 228) C gf_Reader_50 0 rfl rfl d_Reader_advance_228 ?_
                    refine j_iconst (pc := 231) C (v := 1) d_Reader_advance_231 (by decide) ?_
                    refine j_icmp_neT (pc := 232) C (tgt := 242) d_Reader_advance_232 (by decide) (by decide) ?_
                    refine j_aload_n (pc := 242) C d_Reader_advance_242 rfl 3 rfl ?_
                    refine j_get (pc := 243) C gf_Reader_50 0 rfl rfl d_Reader_advance_243 ?_
                    refine j_iconst (pc := 246) C (v := 2) d_Reader_advance_246 (by decide) ?_
                    refine j_icmp_neF (pc := 247) C (tgt := 254) d_Reader_advance_247 (by decide) (by decide) ?_
                    refine j_aload_n (pc := 250) C d_Reader_advance_250 rfl 3 rfl ?_
                    refine j_callVv (pc := 251) C (c_rF_knowNumber l D y rd ow tp lk td fa pl 2 le wo nu (nI (tx az)) cz az k tx he_ (by omega) hk hB (fun i h1 h2 => srt_2' (hg_ i h1 h2))) kw_Reader_302 kv_Reader_knowNumber 0 5 rfl rfl ⟨by decide, by decide⟩ ⟨by decide, by decide⟩ (wr := [(ow, .inl (y 1, 33, .inr (.inl ww)))]) [0, 1, 2] [3] rfl rfl (by decide) (by decide) (by decide) (As := []) (rest := []) rfl (nb rfl) rfl d_Reader_advance_251 (fun u686 hu687 => ?_)
                    have xh688 := hu687
                    refine j_ws (ws' := [(ow, .inl (y 1, 33, .inr (.inl ww))), (rd, .inr (5, [.int fa, .int pl, .ref ow, .ref tp, .ref lk, .int (nI cz), .int 2, .int (nI az), .long le, .int wo, .int u686, .int (nI (tx az))])), (tp, .inr (0, [.ref td, .int (nI k)])), (td, .inl (y 0, 1600, .inl (tby tx)))]) rfl ?_
                    exact j_vret (pc := 254) C hr (cz, az, 2, le, wo, u686, nI (tx az)) ⟨show cz ≤ k by omega, show az ≤ cz by omega, (by rw [hG352]; exact cl_num (q := az) (e := cz) hq611 (by omega) (fun h => absurd h.1 (by decide)) hg_ (by omega) (fun h => by have h1 := h.1; have h2 := h.2; omega) xh688 rfl)⟩ [1, 2, 3, 0] rfl (by decide) (by decide) (by decide) d_Reader_advance_254
                  · refine j_aload_n (pc := 207) C d_Reader_advance_207 rfl 3 rfl ?_
                    refine j_get (pc := 208) C gf_Reader_50 0 rfl rfl d_Reader_advance_208 ?_
                    refine j_icmp_neF (pc := 211) C (tgt := 227) d_Reader_advance_211 (by decide) (by decide) ?_
                    refine j_aload_n (pc := 214) C d_Reader_advance_214 rfl 3 rfl ?_
                    refine j_dup (pc := 215) C d_Reader_advance_215 rfl ?_
                    refine j_get (pc := 216) C gf_Reader_47 0 rfl rfl d_Reader_advance_216 ?_
                    refine j_iconst (pc := 219) C (v := 1) d_Reader_advance_219 (by decide) ?_
                    refine j_iadd (pc := 220) C (v := nI (cz + 1)) d_Reader_advance_220 (nI_add _ _) ?_
                    refine j_put (pc := 221) C pf_Reader_47 0 (ws' := [(rd, .inr (5, [.int fa, .int pl, .ref ow, .ref tp, .ref lk, .int (nI (cz + 1)), .int 2, .int (nI az), .long le, .int wo, .int nu, .int (nI (tx az))])), (tp, .inr (0, [.ref td, .int (nI k)])), (td, .inl (y 0, 1600, .inl (tby tx))), (ow, .inl (y 1, 33, .inr (.inl ww)))]) rfl rfl rfl (nl rfl) rfl d_Reader_advance_221 ?_
                    refine j_goto (pc := 224) C (tgt := 176) d_Reader_advance_224 (by decide) ?_
                    exact ih675 ((cz + 1)) ⟨(show az + 1 ≤ (cz + 1) by omega), (show (cz + 1) ≤ k by omega), (fun i h1 h2 => by
                            by_cases e : i = cz
                            · rw [e]; exact xh684
                            · exact hg_ i h1 (by omega))⟩ (show k - (cz + 1) < k - cz by omega)
                  · refine j_aload_n (pc := 207) C d_Reader_advance_207 rfl 3 rfl ?_
                    refine j_get (pc := 208) C gf_Reader_50 0 rfl rfl d_Reader_advance_208 ?_
                    refine j_icmp_neT (pc := 211) C (tgt := 227) d_Reader_advance_211 (by decide) (by decide) ?_
                    refine j_aload_n (pc := 227) C d_Reader_advance_227 rfl 3 rfl ?_
                    refine j_get (pc := 228) C gf_Reader_50 0 rfl rfl d_Reader_advance_228 ?_
                    refine j_iconst (pc := 231) C (v := 1) d_Reader_advance_231 (by decide) ?_
                    refine j_icmp_neT (pc := 232) C (tgt := 242) d_Reader_advance_232 (by decide) (by decide) ?_
                    refine j_aload_n (pc := 242) C d_Reader_advance_242 rfl 3 rfl ?_
                    refine j_get (pc := 243) C gf_Reader_50 0 rfl rfl d_Reader_advance_243 ?_
                    refine j_iconst (pc := 246) C (v := 2) d_Reader_advance_246 (by decide) ?_
                    refine j_icmp_neF (pc := 247) C (tgt := 254) d_Reader_advance_247 (by decide) (by decide) ?_
                    refine j_aload_n (pc := 250) C d_Reader_advance_250 rfl 3 rfl ?_
                    refine j_callVv (pc := 251) C (c_rF_knowNumber l D y rd ow tp lk td fa pl 2 le wo nu (nI (tx az)) cz az k tx he_ (by omega) hk hB (fun i h1 h2 => srt_2' (hg_ i h1 h2))) kw_Reader_302 kv_Reader_knowNumber 0 5 rfl rfl ⟨by decide, by decide⟩ ⟨by decide, by decide⟩ (wr := [(ow, .inl (y 1, 33, .inr (.inl ww)))]) [0, 1, 2] [3] rfl rfl (by decide) (by decide) (by decide) (As := []) (rest := []) rfl (nb rfl) rfl d_Reader_advance_251 (fun u689 hu690 => ?_)
                    have xh691 := hu690
                    refine j_ws (ws' := [(ow, .inl (y 1, 33, .inr (.inl ww))), (rd, .inr (5, [.int fa, .int pl, .ref ow, .ref tp, .ref lk, .int (nI cz), .int 2, .int (nI az), .long le, .int wo, .int u689, .int (nI (tx az))])), (tp, .inr (0, [.ref td, .int (nI k)])), (td, .inl (y 0, 1600, .inl (tby tx)))]) rfl ?_
                    exact j_vret (pc := 254) C hr (cz, az, 2, le, wo, u689, nI (tx az)) ⟨show cz ≤ k by omega, show az ≤ cz by omega, (by rw [hG352]; exact cl_num (q := az) (e := cz) hq611 (by omega) (fun h => absurd h.1 (by decide)) hg_ (by omega) (fun h => by have h1 := h.1; have h2 := h.2; omega) xh691 rfl)⟩ [1, 2, 3, 0] rfl (by decide) (by decide) (by decide) d_Reader_advance_254
              · refine j_put (pc := 163) C pf_Reader_50 0 (ws' := [(rd, .inr (5, [.int fa, .int pl, .ref ow, .ref tp, .ref lk, .int (nI az), .int 3, .int (nI az), .long le, .int wo, .int nu, .int (nI (tx az))])), (tp, .inr (0, [.ref td, .int (nI k)])), (td, .inl (y 0, 1600, .inl (tby tx))), (ow, .inl (y 1, 33, .inr (.inl ww)))]) rfl rfl rfl (nl rfl) rfl d_Reader_advance_163 ?_
                refine j_aload_n (pc := 166) C d_Reader_advance_166 rfl 3 rfl ?_
                refine j_dup (pc := 167) C d_Reader_advance_167 rfl ?_
                refine j_get (pc := 168) C gf_Reader_47 0 rfl rfl d_Reader_advance_168 ?_
                refine j_iconst (pc := 171) C (v := 1) d_Reader_advance_171 (by decide) ?_
                refine j_iadd (pc := 172) C (v := nI (az + 1)) d_Reader_advance_172 (nI_add _ _) ?_
                refine j_put (pc := 173) C pf_Reader_47 0 (ws' := [(rd, .inr (5, [.int fa, .int pl, .ref ow, .ref tp, .ref lk, .int (nI (az + 1)), .int 3, .int (nI az), .long le, .int wo, .int nu, .int (nI (tx az))])), (tp, .inr (0, [.ref td, .int (nI k)])), (td, .inl (y 0, 1600, .inl (tby tx))), (ow, .inl (y 1, 33, .inr (.inl ww)))]) rfl rfl rfl (nl rfl) rfl d_Reader_advance_173 ?_
                refine j_aload_n (pc := 176) C d_Reader_advance_176 rfl 3 rfl ?_
                refine j_get (pc := 177) C gf_Reader_47 0 rfl rfl d_Reader_advance_177 ?_
                refine j_iload_n (pc := 180) C d_Reader_advance_180 rfl 0 rfl ?_
                by_cases c692 : k ≤ (az + 1)
                · refine j_icmp_geT (pc := 181) C (tgt := 227) d_Reader_advance_181 (by decide) (show nI k ≤ nI (az + 1) from nI_le (by omega) (by omega)) ?_
                  refine j_aload_n (pc := 227) C d_Reader_advance_227 rfl 3 rfl ?_
                  refine j_get (pc := 228) C gf_Reader_50 0 rfl rfl d_Reader_advance_228 ?_
                  refine j_iconst (pc := 231) C (v := 1) d_Reader_advance_231 (by decide) ?_
                  refine j_icmp_neT (pc := 232) C (tgt := 242) d_Reader_advance_232 (by decide) (by decide) ?_
                  refine j_aload_n (pc := 242) C d_Reader_advance_242 rfl 3 rfl ?_
                  refine j_get (pc := 243) C gf_Reader_50 0 rfl rfl d_Reader_advance_243 ?_
                  refine j_iconst (pc := 246) C (v := 2) d_Reader_advance_246 (by decide) ?_
                  refine j_icmp_neT (pc := 247) C (tgt := 254) d_Reader_advance_247 (by decide) (by decide) ?_
                  exact j_vret (pc := 254) C hr ((az + 1), az, 3, le, wo, nu, nI (tx az)) ⟨show (az + 1) ≤ k by omega, show az ≤ (az + 1) by omega, (by rw [hG352]; exact cl_sign (q := az) hq611 (by omega) (Or.inr xh617) rfl)⟩ [0, 1, 2, 3] rfl (by decide) (by decide) (by decide) d_Reader_advance_254
                · refine j_icmp_geF (pc := 181) C (tgt := 227) d_Reader_advance_181 (by decide) (show ¬ nI k ≤ nI (az + 1) from nI_ge (by omega) (by omega)) ?_
                  refine j_aload_n (pc := 184) C d_Reader_advance_184 rfl 3 rfl ?_
                  refine j_get (pc := 185) C gf_Reader_50 0 rfl rfl d_Reader_advance_185 ?_
                  refine j_iconst (pc := 188) C (v := 3) d_Reader_advance_188 (by decide) ?_
                  refine j_icmp_eqT (pc := 189) C (tgt := 227) d_Reader_advance_189 (by decide) (by decide) ?_
                  refine j_aload_n (pc := 227) C d_Reader_advance_227 rfl 3 rfl ?_
                  refine j_get (pc := 228) C gf_Reader_50 0 rfl rfl d_Reader_advance_228 ?_
                  refine j_iconst (pc := 231) C (v := 1) d_Reader_advance_231 (by decide) ?_
                  refine j_icmp_neT (pc := 232) C (tgt := 242) d_Reader_advance_232 (by decide) (by decide) ?_
                  refine j_aload_n (pc := 242) C d_Reader_advance_242 rfl 3 rfl ?_
                  refine j_get (pc := 243) C gf_Reader_50 0 rfl rfl d_Reader_advance_243 ?_
                  refine j_iconst (pc := 246) C (v := 2) d_Reader_advance_246 (by decide) ?_
                  refine j_icmp_neT (pc := 247) C (tgt := 254) d_Reader_advance_247 (by decide) (by decide) ?_
                  exact j_vret (pc := 254) C hr ((az + 1), az, 3, le, wo, nu, nI (tx az)) ⟨show (az + 1) ≤ k by omega, show az ≤ (az + 1) by omega, (by rw [hG352]; exact cl_sign (q := az) hq611 (by omega) (Or.inr xh617) rfl)⟩ [0, 1, 2, 3] rfl (by decide) (by decide) (by decide) d_Reader_advance_254
            · refine j_icmp_ltF (pc := 114) C (tgt := 123) d_Reader_advance_114 (by decide) (show ¬ nI az < nI k from nI_nlt (by omega) (by omega)) ?_
              refine j_aload_n (pc := 117) C d_Reader_advance_117 rfl 3 rfl ?_
              refine j_iconst (pc := 118) C (v := 0) d_Reader_advance_118 (by decide) ?_
              refine j_put (pc := 119) C pf_Reader_50 0 (ws' := [(rd, .inr (5, [.int fa, .int pl, .ref ow, .ref tp, .ref lk, .int (nI az), .int 0, .int (nI az), .long le, .int wo, .int nu, .int si])), (tp, .inr (0, [.ref td, .int (nI k)])), (td, .inl (y 0, 1600, .inl (tby tx))), (ow, .inl (y 1, 33, .inr (.inl ww)))]) rfl rfl rfl (nl rfl) rfl d_Reader_advance_119 ?_
              exact j_vret (pc := 122) C hr (az, az, 0, le, wo, nu, si) ⟨show az ≤ k by omega, show az ≤ az by omega, (by rw [hG352]; exact cl_end (q := az) hq611 (by omega))⟩ [0, 1, 2, 3] rfl (by decide) (by decide) (by decide) d_Reader_advance_122
          · refine j_icmp_neF (pc := 85) C (tgt := 101) d_Reader_advance_85 (by decide) (show nI (tx az) = nI 10 from (nI_eq (by omega) (by omega)).mpr (by omega)) ?_
            refine j_aload_n (pc := 88) C d_Reader_advance_88 rfl 3 rfl ?_
            refine j_dup (pc := 89) C d_Reader_advance_89 rfl ?_
            refine j_get (pc := 90) C gf_Reader_47 0 rfl rfl d_Reader_advance_90 ?_
            refine j_iconst (pc := 93) C (v := 1) d_Reader_advance_93 (by decide) ?_
            refine j_iadd (pc := 94) C (v := nI (az + 1)) d_Reader_advance_94 (nI_add _ _) ?_
            refine j_put (pc := 95) C pf_Reader_47 0 (ws' := [(rd, .inr (5, [.int fa, .int pl, .ref ow, .ref tp, .ref lk, .int (nI (az + 1)), .int so, .int b0, .long le, .int wo, .int nu, .int si])), (tp, .inr (0, [.ref td, .int (nI k)])), (td, .inl (y 0, 1600, .inl (tby tx))), (ow, .inl (y 1, 33, .inr (.inl ww)))]) rfl rfl rfl (nl rfl) rfl d_Reader_advance_95 ?_
            refine j_goto (pc := 98) C (tgt := 46) d_Reader_advance_98 (by decide) ?_
            exact ih523 ((az + 1)) ⟨(show (az + 1) ≤ k by omega), (show ra ≤ (az + 1) by omega), (fun i h1 h2 => by
                    by_cases e : i = az
                    · rw [e]; omega
                    · exact hc_ i h1 (by omega))⟩ (show k - (az + 1) < k - az by omega)
    · refine j_iconst (pc := 16) C (v := 1) d_Reader_advance_16 (by decide) ?_
      refine j_goto (pc := 17) C (tgt := 21) d_Reader_advance_17 (by decide) ?_
      have hG693 := gl_2 hs0 hs3 c351
      refine j_istore_n (pc := 21) C (lv' := [(1, .int 1), (0, .ref rd)]) d_Reader_advance_21 rfl (by decide) rfl ?_
      refine j_aload_n (pc := 22) C d_Reader_advance_22 rfl 1 rfl ?_
      refine j_get (pc := 23) C gf_Reader_47 0 rfl rfl d_Reader_advance_23 ?_
      refine j_istore_n (pc := 26) C (lv' := [(2, .int (nI ra)), (1, .int 1), (0, .ref rd)]) d_Reader_advance_26 rfl (by decide) rfl ?_
      refine j_aload_n (pc := 27) C d_Reader_advance_27 rfl 2 rfl ?_
      refine j_get (pc := 28) C gf_Reader_19 0 rfl rfl d_Reader_advance_28 ?_
      refine j_get (pc := 31) C gf_Reader_285 1 rfl rfl d_Reader_advance_31 ?_
      refine j_aload_n (pc := 34) C d_Reader_advance_34 rfl 2 rfl ?_
      refine j_get (pc := 35) C gf_Reader_19 0 rfl rfl d_Reader_advance_35 ?_
      refine j_get (pc := 38) C gf_Reader_288 1 rfl rfl d_Reader_advance_38 ?_
      refine j_alen (pc := 41) C 2 0 rfl rfl (v := 1600) rfl d_Reader_advance_41 ?_
      refine j_mmin (pc := 42) C (mt_3 (List.mem_of_getElem? (i := 55) rfl) rfl) (mt_3 (List.mem_of_getElem? (i := 56) rfl) rfl) (mt_1 (List.mem_of_getElem? (i := 3) rfl) rfl) (mt_3 (List.mem_of_getElem? (i := 57) rfl) rfl) (v := nI k) (min_k hk) (by decide) (nb rfl) (by decide) (by decide) d_Reader_advance_42 ?_
      refine j_istore_n (pc := 45) C (lv' := [(3, .int (nI k)), (2, .int (nI ra)), (1, .int 1), (0, .ref rd)]) d_Reader_advance_45 rfl (by decide) rfl ?_
      refine j_loop (α := Nat) (fun a => k - a) (fun a => (a ≤ k) ∧ (ra ≤ a) ∧ ((∀ i, ra ≤ i → i < a → tx i = 32 ∨ tx i = 10))) (fun a => [(rd, .inr (5, [.int fa, .int pl, .ref ow, .ref tp, .ref lk, .int (nI a), .int so, .int b0, .long le, .int wo, .int nu, .int si])), (tp, .inr (0, [.ref td, .int (nI k)])), (td, .inl (y 0, 1600, .inl (tby tx))), (ow, .inl (y 1, 33, .inr (.inl ww)))]) (fun a => [(3, .int (nI k)), (2, .int (nI ra)), (1, .int 1), (0, .ref rd)]) (ra) rfl rfl ⟨(show ra ≤ k by omega), (show ra ≤ ra by omega), (fun i h1 h2 => absurd h1 (by omega))⟩ ?_
      rintro az hP867 ih868
      obtain ⟨ha__, hb__, hc__⟩ := hP867
      have ha_ : az ≤ k := ha__
      have hb_ : ra ≤ az := hb__
      have hc_ : (∀ i, ra ≤ i → i < az → tx i = 32 ∨ tx i = 10) := hc__
      refine j_ws (ws' := [(rd, .inr (5, [.int fa, .int pl, .ref ow, .ref tp, .ref lk, .int (nI az), .int so, .int b0, .long le, .int wo, .int nu, .int si])), (tp, .inr (0, [.ref td, .int (nI k)])), (td, .inl (y 0, 1600, .inl (tby tx))), (ow, .inl (y 1, 33, .inr (.inl ww)))]) rfl ?_
      refine j_lv (lv' := [(3, .int (nI k)), (2, .int (nI ra)), (1, .int 1), (0, .ref rd)]) rfl ?_
      refine j_aload_n (pc := 46) C d_Reader_advance_46 rfl 3 rfl ?_
      refine j_get (pc := 47) C gf_Reader_47 0 rfl rfl d_Reader_advance_47 ?_
      refine j_iload_n (pc := 50) C d_Reader_advance_50 rfl 0 rfl ?_
      by_cases c869 : k ≤ az
      · refine j_icmp_geT (pc := 51) C (tgt := 101) d_Reader_advance_51 (by decide) (show nI k ≤ nI az from nI_le (by omega) (by omega)) ?_
        have hq870 : tq tx k ra = az := sq_eq (by omega) (fun i h1 h2 => ⟨by omega, decide_eq_true (hc_ i h1 h2)⟩) (fun h => by have h1 := h.1; have h2 : tx az = 32 ∨ tx az = 10 := of_decide_eq_true h.2; omega)
        refine j_aload_n (pc := 101) C d_Reader_advance_101 rfl 3 rfl ?_
        refine j_aload_n (pc := 102) C d_Reader_advance_102 rfl 3 rfl ?_
        refine j_get (pc := 103) C gf_Reader_47 0 rfl rfl d_Reader_advance_103 ?_
        refine j_put (pc := 106) C pf_Reader_62 0 (ws' := [(rd, .inr (5, [.int fa, .int pl, .ref ow, .ref tp, .ref lk, .int (nI az), .int so, .int (nI az), .long le, .int wo, .int nu, .int si])), (tp, .inr (0, [.ref td, .int (nI k)])), (td, .inl (y 0, 1600, .inl (tby tx))), (ow, .inl (y 1, 33, .inr (.inl ww)))]) rfl rfl rfl (nl rfl) rfl d_Reader_advance_106 ?_
        refine j_aload_n (pc := 109) C d_Reader_advance_109 rfl 3 rfl ?_
        refine j_get (pc := 110) C gf_Reader_47 0 rfl rfl d_Reader_advance_110 ?_
        refine j_iload_n (pc := 113) C d_Reader_advance_113 rfl 0 rfl ?_
        by_cases c871 : az < k
        · refine j_icmp_ltT (pc := 114) C (tgt := 123) d_Reader_advance_114 (by decide) (show nI az < nI k from nI_lt (by omega) (by omega)) ?_
          refine j_aload_n (pc := 123) C d_Reader_advance_123 rfl 3 rfl ?_
          refine j_aload_n (pc := 124) C d_Reader_advance_124 rfl 3 rfl ?_
          refine j_get (pc := 125) C gf_Reader_19 0 rfl rfl d_Reader_advance_125 ?_
          refine j_get (pc := 128) C gf_Reader_288 1 rfl rfl d_Reader_advance_128 ?_
          refine j_aload_n (pc := 131) C d_Reader_advance_131 rfl 3 rfl ?_
          refine j_get (pc := 132) C gf_Reader_47 0 rfl rfl d_Reader_advance_132 ?_
          have hb872 : tx az < 256 := hB az
          refine j_iald (pc := 135) C 2 rfl (v := nI (tx az)) (vp_in_nI (by omega) (by decide)) (by rw [nI_clamp (by omega)]; rfl) d_Reader_advance_135 ?_
          refine j_put (pc := 136) C pf_Reader_272 0 (ws' := [(rd, .inr (5, [.int fa, .int pl, .ref ow, .ref tp, .ref lk, .int (nI az), .int so, .int (nI az), .long le, .int wo, .int nu, .int (nI (tx az))])), (tp, .inr (0, [.ref td, .int (nI k)])), (td, .inl (y 0, 1600, .inl (tby tx))), (ow, .inl (y 1, 33, .inr (.inl ww)))]) rfl rfl rfl (nl rfl) rfl d_Reader_advance_136 ?_
          refine j_aload_n (pc := 139) C d_Reader_advance_139 rfl 3 rfl ?_
          refine j_iload_n (pc := 140) C d_Reader_advance_140 rfl 2 rfl ?_
          refine j_if_eqF (pc := 141) C (tgt := 156) d_Reader_advance_141 (by decide) (by decide) ?_
          refine j_aload_n (pc := 144) C d_Reader_advance_144 rfl 3 rfl ?_
          refine j_get (pc := 145) C gf_Reader_47 0 rfl rfl d_Reader_advance_145 ?_
          refine j_iload_n (pc := 148) C d_Reader_advance_148 rfl 1 rfl ?_
          by_cases c873 : ¬ az = ra
          · refine j_icmp_neT (pc := 149) C (tgt := 156) d_Reader_advance_149 (by decide) (show ¬ nI az = nI ra from fun e => absurd ((nI_eq (by omega) (by omega)).mp e) (by omega)) ?_
            refine j_aload_n (pc := 156) C d_Reader_advance_156 rfl 3 rfl ?_
            refine j_get (pc := 157) C gf_Reader_272 0 rfl rfl d_Reader_advance_157 ?_
            refine j_callSi (pc := 160) C (c_sortOfF l D y (tx az) (by omega)) kw_Reader_296 ks_Reader_sortOf ⟨by decide, by decide⟩ ⟨by decide, by decide⟩ (wr := [(rd, .inr (5, [.int fa, .int pl, .ref ow, .ref tp, .ref lk, .int (nI az), .int so, .int (nI az), .long le, .int wo, .int nu, .int (nI (tx az))])), (tp, .inr (0, [.ref td, .int (nI k)])), (td, .inl (y 0, 1600, .inl (tby tx))), (ow, .inl (y 1, 33, .inr (.inl ww)))]) [] [0, 1, 2, 3] rfl rfl (by decide) (by decide) (by decide) (As := [.int (nI (tx az))]) (rest := [.ref rd]) rfl (nb rfl) rfl d_Reader_advance_160 (fun r874 _ hr874 => ?_)
            refine j_ws (ws' := [(rd, .inr (5, [.int fa, .int pl, .ref ow, .ref tp, .ref lk, .int (nI az), .int so, .int (nI az), .long le, .int wo, .int nu, .int (nI (tx az))])), (tp, .inr (0, [.ref td, .int (nI k)])), (td, .inl (y 0, 1600, .inl (tby tx))), (ow, .inl (y 1, 33, .inr (.inl ww)))]) rfl ?_
            rcases hr874 with ⟨rfl, xh876⟩ | ⟨rfl, xh877⟩ | ⟨rfl, xh878⟩
            · refine j_put (pc := 163) C pf_Reader_50 0 (ws' := [(rd, .inr (5, [.int fa, .int pl, .ref ow, .ref tp, .ref lk, .int (nI az), .int 1, .int (nI az), .long le, .int wo, .int nu, .int (nI (tx az))])), (tp, .inr (0, [.ref td, .int (nI k)])), (td, .inl (y 0, 1600, .inl (tby tx))), (ow, .inl (y 1, 33, .inr (.inl ww)))]) rfl rfl rfl (nl rfl) rfl d_Reader_advance_163 ?_
              refine j_aload_n (pc := 166) C d_Reader_advance_166 rfl 3 rfl ?_
              refine j_dup (pc := 167) C d_Reader_advance_167 rfl ?_
              refine j_get (pc := 168) C gf_Reader_47 0 rfl rfl d_Reader_advance_168 ?_
              refine j_iconst (pc := 171) C (v := 1) d_Reader_advance_171 (by decide) ?_
              refine j_iadd (pc := 172) C (v := nI (az + 1)) d_Reader_advance_172 (nI_add _ _) ?_
              refine j_put (pc := 173) C pf_Reader_47 0 (ws' := [(rd, .inr (5, [.int fa, .int pl, .ref ow, .ref tp, .ref lk, .int (nI (az + 1)), .int 1, .int (nI az), .long le, .int wo, .int nu, .int (nI (tx az))])), (tp, .inr (0, [.ref td, .int (nI k)])), (td, .inl (y 0, 1600, .inl (tby tx))), (ow, .inl (y 1, 33, .inr (.inl ww)))]) rfl rfl rfl (nl rfl) rfl d_Reader_advance_173 ?_
              refine j_loop (α := Nat) (fun a => k - a) (fun a => (az + 1 ≤ a) ∧ (a ≤ k) ∧ ((∀ i, az ≤ i → i < a → srt (tx i) = 1))) (fun a => [(rd, .inr (5, [.int fa, .int pl, .ref ow, .ref tp, .ref lk, .int (nI a), .int 1, .int (nI az), .long le, .int wo, .int nu, .int (nI (tx az))])), (tp, .inr (0, [.ref td, .int (nI k)])), (td, .inl (y 0, 1600, .inl (tby tx))), (ow, .inl (y 1, 33, .inr (.inl ww)))]) (fun a => [(3, .int (nI k)), (2, .int (nI ra)), (1, .int 1), (0, .ref rd)]) ((az + 1)) rfl rfl ⟨(show az + 1 ≤ (az + 1) by omega), (show (az + 1) ≤ k by omega), (fun i h1 h2 => by rw [show i = az by omega]; exact xh876)⟩ ?_
              rintro cz hP898 ih899
              obtain ⟨hd__, he__, hg__⟩ := hP898
              have hd_ : az + 1 ≤ cz := hd__
              have he_ : cz ≤ k := he__
              have hg_ : (∀ i, az ≤ i → i < cz → srt (tx i) = 1) := hg__
              refine j_ws (ws' := [(rd, .inr (5, [.int fa, .int pl, .ref ow, .ref tp, .ref lk, .int (nI cz), .int 1, .int (nI az), .long le, .int wo, .int nu, .int (nI (tx az))])), (tp, .inr (0, [.ref td, .int (nI k)])), (td, .inl (y 0, 1600, .inl (tby tx))), (ow, .inl (y 1, 33, .inr (.inl ww)))]) rfl ?_
              refine j_lv (lv' := [(3, .int (nI k)), (2, .int (nI ra)), (1, .int 1), (0, .ref rd)]) rfl ?_
              refine j_aload_n (pc := 176) C d_Reader_advance_176 rfl 3 rfl ?_
              refine j_get (pc := 177) C gf_Reader_47 0 rfl rfl d_Reader_advance_177 ?_
              refine j_iload_n (pc := 180) C d_Reader_advance_180 rfl 0 rfl ?_
              by_cases c900 : k ≤ cz
              · refine j_icmp_geT (pc := 181) C (tgt := 227) d_Reader_advance_181 (by decide) (show nI k ≤ nI cz from nI_le (by omega) (by omega)) ?_
                refine j_aload_n (pc := 227) C d_Reader_advance_227 rfl 3 rfl ?_
                refine j_get (pc := 228) C gf_Reader_50 0 rfl rfl d_Reader_advance_228 ?_
                refine j_iconst (pc := 231) C (v := 1) d_Reader_advance_231 (by decide) ?_
                refine j_icmp_neF (pc := 232) C (tgt := 242) d_Reader_advance_232 (by decide) (by decide) ?_
                refine j_aload_n (pc := 235) C d_Reader_advance_235 rfl 3 rfl ?_
                refine j_callVv (pc := 236) C (c_rF_knowWord l D y rd ow tp lk td fa pl 1 le wo nu (nI (tx az)) cz az k tx ww he_ (by omega) hk hB (fun i h1 h2 => srt_1' (hg_ i h1 h2))) kw_Reader_299 kv_Reader_knowWord 0 5 rfl rfl ⟨by decide, by decide⟩ ⟨by decide, by decide⟩ (wr := []) [0, 1, 2, 3] [] rfl rfl (by decide) (by decide) (by decide) (As := []) (rest := []) rfl (nb rfl) rfl d_Reader_advance_236 (fun u901 hu902 => ?_)
                obtain ⟨xh903, xh904⟩ := hu902
                refine j_ws (ws' := [(rd, .inr (5, [.int fa, .int pl, .ref ow, .ref tp, .ref lk, .int (nI cz), .int 1, .int (nI az), .long u901.1, .int u901.2, .int nu, .int (nI (tx az))])), (tp, .inr (0, [.ref td, .int (nI k)])), (td, .inl (y 0, 1600, .inl (tby tx))), (ow, .inl (y 1, 33, .inr (.inl ww)))]) rfl ?_
                refine j_goto (pc := 239) C (tgt := 254) d_Reader_advance_239 (by decide) ?_
                exact j_vret (pc := 254) C hr (cz, az, 1, u901.1, u901.2, nu, nI (tx az)) ⟨show cz ≤ k by omega, show az ≤ cz by omega, (by rw [hG693]; exact cl_word (q := az) (e := cz) hq870 (by omega) (fun h => by have h2 := h.2; omega) hg_ (by omega) (fun h => by have h1 := h.1; have h2 := h.2; omega) hWW xh903 xh904 rfl)⟩ [0, 1, 2, 3] rfl (by decide) (by decide) (by decide) d_Reader_advance_254
              · refine j_icmp_geF (pc := 181) C (tgt := 227) d_Reader_advance_181 (by decide) (show ¬ nI k ≤ nI cz from nI_ge (by omega) (by omega)) ?_
                refine j_aload_n (pc := 184) C d_Reader_advance_184 rfl 3 rfl ?_
                refine j_get (pc := 185) C gf_Reader_50 0 rfl rfl d_Reader_advance_185 ?_
                refine j_iconst (pc := 188) C (v := 3) d_Reader_advance_188 (by decide) ?_
                refine j_icmp_eqF (pc := 189) C (tgt := 227) d_Reader_advance_189 (by decide) (by decide) ?_
                refine j_aload_n (pc := 192) C d_Reader_advance_192 rfl 3 rfl ?_
                refine j_get (pc := 193) C gf_Reader_19 0 rfl rfl d_Reader_advance_193 ?_
                refine j_get (pc := 196) C gf_Reader_288 1 rfl rfl d_Reader_advance_196 ?_
                refine j_aload_n (pc := 199) C d_Reader_advance_199 rfl 3 rfl ?_
                refine j_get (pc := 200) C gf_Reader_47 0 rfl rfl d_Reader_advance_200 ?_
                have hb905 : tx cz < 256 := hB cz
                refine j_iald (pc := 203) C 2 rfl (v := nI (tx cz)) (vp_in_nI (by omega) (by decide)) (by rw [nI_clamp (by omega)]; rfl) d_Reader_advance_203 ?_
                refine j_callSi (pc := 204) C (c_sortOfF l D y (tx cz) (by omega)) kw_Reader_296 ks_Reader_sortOf ⟨by decide, by decide⟩ ⟨by decide, by decide⟩ (wr := [(rd, .inr (5, [.int fa, .int pl, .ref ow, .ref tp, .ref lk, .int (nI cz), .int 1, .int (nI az), .long le, .int wo, .int nu, .int (nI (tx az))])), (tp, .inr (0, [.ref td, .int (nI k)])), (td, .inl (y 0, 1600, .inl (tby tx))), (ow, .inl (y 1, 33, .inr (.inl ww)))]) [] [0, 1, 2, 3] rfl rfl (by decide) (by decide) (by decide) (As := [.int (nI (tx cz))]) (rest := []) rfl (nb rfl) rfl d_Reader_advance_204 (fun r906 _ hr906 => ?_)
                refine j_ws (ws' := [(rd, .inr (5, [.int fa, .int pl, .ref ow, .ref tp, .ref lk, .int (nI cz), .int 1, .int (nI az), .long le, .int wo, .int nu, .int (nI (tx az))])), (tp, .inr (0, [.ref td, .int (nI k)])), (td, .inl (y 0, 1600, .inl (tby tx))), (ow, .inl (y 1, 33, .inr (.inl ww)))]) rfl ?_
                rcases hr906 with ⟨rfl, xh908⟩ | ⟨rfl, xh909⟩ | ⟨rfl, xh910⟩
                · refine j_aload_n (pc := 207) C d_Reader_advance_207 rfl 3 rfl ?_
                  refine j_get (pc := 208) C gf_Reader_50 0 rfl rfl d_Reader_advance_208 ?_
                  refine j_icmp_neF (pc := 211) C (tgt := 227) d_Reader_advance_211 (by decide) (by decide) ?_
                  refine j_aload_n (pc := 214) C d_Reader_advance_214 rfl 3 rfl ?_
                  refine j_dup (pc := 215) C d_Reader_advance_215 rfl ?_
                  refine j_get (pc := 216) C gf_Reader_47 0 rfl rfl d_Reader_advance_216 ?_
                  refine j_iconst (pc := 219) C (v := 1) d_Reader_advance_219 (by decide) ?_
                  refine j_iadd (pc := 220) C (v := nI (cz + 1)) d_Reader_advance_220 (nI_add _ _) ?_
                  refine j_put (pc := 221) C pf_Reader_47 0 (ws' := [(rd, .inr (5, [.int fa, .int pl, .ref ow, .ref tp, .ref lk, .int (nI (cz + 1)), .int 1, .int (nI az), .long le, .int wo, .int nu, .int (nI (tx az))])), (tp, .inr (0, [.ref td, .int (nI k)])), (td, .inl (y 0, 1600, .inl (tby tx))), (ow, .inl (y 1, 33, .inr (.inl ww)))]) rfl rfl rfl (nl rfl) rfl d_Reader_advance_221 ?_
                  refine j_goto (pc := 224) C (tgt := 176) d_Reader_advance_224 (by decide) ?_
                  exact ih899 ((cz + 1)) ⟨(show az + 1 ≤ (cz + 1) by omega), (show (cz + 1) ≤ k by omega), (fun i h1 h2 => by
                          by_cases e : i = cz
                          · rw [e]; exact xh908
                          · exact hg_ i h1 (by omega))⟩ (show k - (cz + 1) < k - cz by omega)
                · refine j_aload_n (pc := 207) C d_Reader_advance_207 rfl 3 rfl ?_
                  refine j_get (pc := 208) C gf_Reader_50 0 rfl rfl d_Reader_advance_208 ?_
                  refine j_icmp_neT (pc := 211) C (tgt := 227) d_Reader_advance_211 (by decide) (by decide) ?_
                  refine j_aload_n (pc := 227) C d_Reader_advance_227 rfl 3 rfl ?_
                  refine j_get (pc := 228) C gf_Reader_50 0 rfl rfl d_Reader_advance_228 ?_
                  refine j_iconst (pc := 231) C (v := 1) d_Reader_advance_231 (by decide) ?_
                  refine j_icmp_neF (pc := 232) C (tgt := 242) d_Reader_advance_232 (by decide) (by decide) ?_
                  refine j_aload_n (pc := 235) C d_Reader_advance_235 rfl 3 rfl ?_
                  refine j_callVv (pc := 236) C (c_rF_knowWord l D y rd ow tp lk td fa pl 1 le wo nu (nI (tx az)) cz az k tx ww he_ (by omega) hk hB (fun i h1 h2 => srt_1' (hg_ i h1 h2))) kw_Reader_299 kv_Reader_knowWord 0 5 rfl rfl ⟨by decide, by decide⟩ ⟨by decide, by decide⟩ (wr := []) [0, 1, 2, 3] [] rfl rfl (by decide) (by decide) (by decide) (As := []) (rest := []) rfl (nb rfl) rfl d_Reader_advance_236 (fun u911 hu912 => ?_)
                  obtain ⟨xh913, xh914⟩ := hu912
                  refine j_ws (ws' := [(rd, .inr (5, [.int fa, .int pl, .ref ow, .ref tp, .ref lk, .int (nI cz), .int 1, .int (nI az), .long u911.1, .int u911.2, .int nu, .int (nI (tx az))])), (tp, .inr (0, [.ref td, .int (nI k)])), (td, .inl (y 0, 1600, .inl (tby tx))), (ow, .inl (y 1, 33, .inr (.inl ww)))]) rfl ?_
                  refine j_goto (pc := 239) C (tgt := 254) d_Reader_advance_239 (by decide) ?_
                  exact j_vret (pc := 254) C hr (cz, az, 1, u911.1, u911.2, nu, nI (tx az)) ⟨show cz ≤ k by omega, show az ≤ cz by omega, (by rw [hG693]; exact cl_word (q := az) (e := cz) hq870 (by omega) (fun h => by have h2 := h.2; omega) hg_ (by omega) (fun h => by have h1 := h.1; have h2 := h.2; omega) hWW xh913 xh914 rfl)⟩ [0, 1, 2, 3] rfl (by decide) (by decide) (by decide) d_Reader_advance_254
                · refine j_aload_n (pc := 207) C d_Reader_advance_207 rfl 3 rfl ?_
                  refine j_get (pc := 208) C gf_Reader_50 0 rfl rfl d_Reader_advance_208 ?_
                  refine j_icmp_neT (pc := 211) C (tgt := 227) d_Reader_advance_211 (by decide) (by decide) ?_
                  refine j_aload_n (pc := 227) C d_Reader_advance_227 rfl 3 rfl ?_
                  refine j_get (pc := 228) C gf_Reader_50 0 rfl rfl d_Reader_advance_228 ?_
                  refine j_iconst (pc := 231) C (v := 1) d_Reader_advance_231 (by decide) ?_
                  refine j_icmp_neF (pc := 232) C (tgt := 242) d_Reader_advance_232 (by decide) (by decide) ?_
                  refine j_aload_n (pc := 235) C d_Reader_advance_235 rfl 3 rfl ?_
                  refine j_callVv (pc := 236) C (c_rF_knowWord l D y rd ow tp lk td fa pl 1 le wo nu (nI (tx az)) cz az k tx ww he_ (by omega) hk hB (fun i h1 h2 => srt_1' (hg_ i h1 h2))) kw_Reader_299 kv_Reader_knowWord 0 5 rfl rfl ⟨by decide, by decide⟩ ⟨by decide, by decide⟩ (wr := []) [0, 1, 2, 3] [] rfl rfl (by decide) (by decide) (by decide) (As := []) (rest := []) rfl (nb rfl) rfl d_Reader_advance_236 (fun u915 hu916 => ?_)
                  obtain ⟨xh917, xh918⟩ := hu916
                  refine j_ws (ws' := [(rd, .inr (5, [.int fa, .int pl, .ref ow, .ref tp, .ref lk, .int (nI cz), .int 1, .int (nI az), .long u915.1, .int u915.2, .int nu, .int (nI (tx az))])), (tp, .inr (0, [.ref td, .int (nI k)])), (td, .inl (y 0, 1600, .inl (tby tx))), (ow, .inl (y 1, 33, .inr (.inl ww)))]) rfl ?_
                  refine j_goto (pc := 239) C (tgt := 254) d_Reader_advance_239 (by decide) ?_
                  exact j_vret (pc := 254) C hr (cz, az, 1, u915.1, u915.2, nu, nI (tx az)) ⟨show cz ≤ k by omega, show az ≤ cz by omega, (by rw [hG693]; exact cl_word (q := az) (e := cz) hq870 (by omega) (fun h => by have h2 := h.2; omega) hg_ (by omega) (fun h => by have h1 := h.1; have h2 := h.2; omega) hWW xh917 xh918 rfl)⟩ [0, 1, 2, 3] rfl (by decide) (by decide) (by decide) d_Reader_advance_254
            · refine j_put (pc := 163) C pf_Reader_50 0 (ws' := [(rd, .inr (5, [.int fa, .int pl, .ref ow, .ref tp, .ref lk, .int (nI az), .int 2, .int (nI az), .long le, .int wo, .int nu, .int (nI (tx az))])), (tp, .inr (0, [.ref td, .int (nI k)])), (td, .inl (y 0, 1600, .inl (tby tx))), (ow, .inl (y 1, 33, .inr (.inl ww)))]) rfl rfl rfl (nl rfl) rfl d_Reader_advance_163 ?_
              refine j_aload_n (pc := 166) C d_Reader_advance_166 rfl 3 rfl ?_
              refine j_dup (pc := 167) C d_Reader_advance_167 rfl ?_
              refine j_get (pc := 168) C gf_Reader_47 0 rfl rfl d_Reader_advance_168 ?_
              refine j_iconst (pc := 171) C (v := 1) d_Reader_advance_171 (by decide) ?_
              refine j_iadd (pc := 172) C (v := nI (az + 1)) d_Reader_advance_172 (nI_add _ _) ?_
              refine j_put (pc := 173) C pf_Reader_47 0 (ws' := [(rd, .inr (5, [.int fa, .int pl, .ref ow, .ref tp, .ref lk, .int (nI (az + 1)), .int 2, .int (nI az), .long le, .int wo, .int nu, .int (nI (tx az))])), (tp, .inr (0, [.ref td, .int (nI k)])), (td, .inl (y 0, 1600, .inl (tby tx))), (ow, .inl (y 1, 33, .inr (.inl ww)))]) rfl rfl rfl (nl rfl) rfl d_Reader_advance_173 ?_
              refine j_loop (α := Nat) (fun a => k - a) (fun a => (az + 1 ≤ a) ∧ (a ≤ k) ∧ ((∀ i, az ≤ i → i < a → srt (tx i) = 2))) (fun a => [(rd, .inr (5, [.int fa, .int pl, .ref ow, .ref tp, .ref lk, .int (nI a), .int 2, .int (nI az), .long le, .int wo, .int nu, .int (nI (tx az))])), (tp, .inr (0, [.ref td, .int (nI k)])), (td, .inl (y 0, 1600, .inl (tby tx))), (ow, .inl (y 1, 33, .inr (.inl ww)))]) (fun a => [(3, .int (nI k)), (2, .int (nI ra)), (1, .int 1), (0, .ref rd)]) ((az + 1)) rfl rfl ⟨(show az + 1 ≤ (az + 1) by omega), (show (az + 1) ≤ k by omega), (fun i h1 h2 => by rw [show i = az by omega]; exact xh877)⟩ ?_
              rintro cz hP935 ih936
              obtain ⟨hd__, he__, hg__⟩ := hP935
              have hd_ : az + 1 ≤ cz := hd__
              have he_ : cz ≤ k := he__
              have hg_ : (∀ i, az ≤ i → i < cz → srt (tx i) = 2) := hg__
              refine j_ws (ws' := [(rd, .inr (5, [.int fa, .int pl, .ref ow, .ref tp, .ref lk, .int (nI cz), .int 2, .int (nI az), .long le, .int wo, .int nu, .int (nI (tx az))])), (tp, .inr (0, [.ref td, .int (nI k)])), (td, .inl (y 0, 1600, .inl (tby tx))), (ow, .inl (y 1, 33, .inr (.inl ww)))]) rfl ?_
              refine j_lv (lv' := [(3, .int (nI k)), (2, .int (nI ra)), (1, .int 1), (0, .ref rd)]) rfl ?_
              refine j_aload_n (pc := 176) C d_Reader_advance_176 rfl 3 rfl ?_
              refine j_get (pc := 177) C gf_Reader_47 0 rfl rfl d_Reader_advance_177 ?_
              refine j_iload_n (pc := 180) C d_Reader_advance_180 rfl 0 rfl ?_
              by_cases c937 : k ≤ cz
              · refine j_icmp_geT (pc := 181) C (tgt := 227) d_Reader_advance_181 (by decide) (show nI k ≤ nI cz from nI_le (by omega) (by omega)) ?_
                refine j_aload_n (pc := 227) C d_Reader_advance_227 rfl 3 rfl ?_
                refine j_get (pc := 228) C gf_Reader_50 0 rfl rfl d_Reader_advance_228 ?_
                refine j_iconst (pc := 231) C (v := 1) d_Reader_advance_231 (by decide) ?_
                refine j_icmp_neT (pc := 232) C (tgt := 242) d_Reader_advance_232 (by decide) (by decide) ?_
                refine j_aload_n (pc := 242) C d_Reader_advance_242 rfl 3 rfl ?_
                refine j_get (pc := 243) C gf_Reader_50 0 rfl rfl d_Reader_advance_243 ?_
                refine j_iconst (pc := 246) C (v := 2) d_Reader_advance_246 (by decide) ?_
                refine j_icmp_neF (pc := 247) C (tgt := 254) d_Reader_advance_247 (by decide) (by decide) ?_
                refine j_aload_n (pc := 250) C d_Reader_advance_250 rfl 3 rfl ?_
                refine j_callVv (pc := 251) C (c_rF_knowNumber l D y rd ow tp lk td fa pl 2 le wo nu (nI (tx az)) cz az k tx he_ (by omega) hk hB (fun i h1 h2 => srt_2' (hg_ i h1 h2))) kw_Reader_302 kv_Reader_knowNumber 0 5 rfl rfl ⟨by decide, by decide⟩ ⟨by decide, by decide⟩ (wr := [(ow, .inl (y 1, 33, .inr (.inl ww)))]) [0, 1, 2] [3] rfl rfl (by decide) (by decide) (by decide) (As := []) (rest := []) rfl (nb rfl) rfl d_Reader_advance_251 (fun u938 hu939 => ?_)
                have xh940 := hu939
                refine j_ws (ws' := [(ow, .inl (y 1, 33, .inr (.inl ww))), (rd, .inr (5, [.int fa, .int pl, .ref ow, .ref tp, .ref lk, .int (nI cz), .int 2, .int (nI az), .long le, .int wo, .int u938, .int (nI (tx az))])), (tp, .inr (0, [.ref td, .int (nI k)])), (td, .inl (y 0, 1600, .inl (tby tx)))]) rfl ?_
                exact j_vret (pc := 254) C hr (cz, az, 2, le, wo, u938, nI (tx az)) ⟨show cz ≤ k by omega, show az ≤ cz by omega, (by rw [hG693]; exact cl_num (q := az) (e := cz) hq870 (by omega) (fun h => by have h2 := h.2; omega) hg_ (by omega) (fun h => by have h1 := h.1; have h2 := h.2; omega) xh940 rfl)⟩ [1, 2, 3, 0] rfl (by decide) (by decide) (by decide) d_Reader_advance_254
              · refine j_icmp_geF (pc := 181) C (tgt := 227) d_Reader_advance_181 (by decide) (show ¬ nI k ≤ nI cz from nI_ge (by omega) (by omega)) ?_
                refine j_aload_n (pc := 184) C d_Reader_advance_184 rfl 3 rfl ?_
                refine j_get (pc := 185) C gf_Reader_50 0 rfl rfl d_Reader_advance_185 ?_
                refine j_iconst (pc := 188) C (v := 3) d_Reader_advance_188 (by decide) ?_
                refine j_icmp_eqF (pc := 189) C (tgt := 227) d_Reader_advance_189 (by decide) (by decide) ?_
                refine j_aload_n (pc := 192) C d_Reader_advance_192 rfl 3 rfl ?_
                refine j_get (pc := 193) C gf_Reader_19 0 rfl rfl d_Reader_advance_193 ?_
                refine j_get (pc := 196) C gf_Reader_288 1 rfl rfl d_Reader_advance_196 ?_
                refine j_aload_n (pc := 199) C d_Reader_advance_199 rfl 3 rfl ?_
                refine j_get (pc := 200) C gf_Reader_47 0 rfl rfl d_Reader_advance_200 ?_
                have hb941 : tx cz < 256 := hB cz
                refine j_iald (pc := 203) C 2 rfl (v := nI (tx cz)) (vp_in_nI (by omega) (by decide)) (by rw [nI_clamp (by omega)]; rfl) d_Reader_advance_203 ?_
                refine j_callSi (pc := 204) C (c_sortOfF l D y (tx cz) (by omega)) kw_Reader_296 ks_Reader_sortOf ⟨by decide, by decide⟩ ⟨by decide, by decide⟩ (wr := [(rd, .inr (5, [.int fa, .int pl, .ref ow, .ref tp, .ref lk, .int (nI cz), .int 2, .int (nI az), .long le, .int wo, .int nu, .int (nI (tx az))])), (tp, .inr (0, [.ref td, .int (nI k)])), (td, .inl (y 0, 1600, .inl (tby tx))), (ow, .inl (y 1, 33, .inr (.inl ww)))]) [] [0, 1, 2, 3] rfl rfl (by decide) (by decide) (by decide) (As := [.int (nI (tx cz))]) (rest := []) rfl (nb rfl) rfl d_Reader_advance_204 (fun r942 _ hr942 => ?_)
                refine j_ws (ws' := [(rd, .inr (5, [.int fa, .int pl, .ref ow, .ref tp, .ref lk, .int (nI cz), .int 2, .int (nI az), .long le, .int wo, .int nu, .int (nI (tx az))])), (tp, .inr (0, [.ref td, .int (nI k)])), (td, .inl (y 0, 1600, .inl (tby tx))), (ow, .inl (y 1, 33, .inr (.inl ww)))]) rfl ?_
                rcases hr942 with ⟨rfl, xh944⟩ | ⟨rfl, xh945⟩ | ⟨rfl, xh946⟩
                · refine j_aload_n (pc := 207) C d_Reader_advance_207 rfl 3 rfl ?_
                  refine j_get (pc := 208) C gf_Reader_50 0 rfl rfl d_Reader_advance_208 ?_
                  refine j_icmp_neT (pc := 211) C (tgt := 227) d_Reader_advance_211 (by decide) (by decide) ?_
                  refine j_aload_n (pc := 227) C d_Reader_advance_227 rfl 3 rfl ?_
                  refine j_get (pc := 228) C gf_Reader_50 0 rfl rfl d_Reader_advance_228 ?_
                  refine j_iconst (pc := 231) C (v := 1) d_Reader_advance_231 (by decide) ?_
                  refine j_icmp_neT (pc := 232) C (tgt := 242) d_Reader_advance_232 (by decide) (by decide) ?_
                  refine j_aload_n (pc := 242) C d_Reader_advance_242 rfl 3 rfl ?_
                  refine j_get (pc := 243) C gf_Reader_50 0 rfl rfl d_Reader_advance_243 ?_
                  refine j_iconst (pc := 246) C (v := 2) d_Reader_advance_246 (by decide) ?_
                  refine j_icmp_neF (pc := 247) C (tgt := 254) d_Reader_advance_247 (by decide) (by decide) ?_
                  refine j_aload_n (pc := 250) C d_Reader_advance_250 rfl 3 rfl ?_
                  refine j_callVv (pc := 251) C (c_rF_knowNumber l D y rd ow tp lk td fa pl 2 le wo nu (nI (tx az)) cz az k tx he_ (by omega) hk hB (fun i h1 h2 => srt_2' (hg_ i h1 h2))) kw_Reader_302 kv_Reader_knowNumber 0 5 rfl rfl ⟨by decide, by decide⟩ ⟨by decide, by decide⟩ (wr := [(ow, .inl (y 1, 33, .inr (.inl ww)))]) [0, 1, 2] [3] rfl rfl (by decide) (by decide) (by decide) (As := []) (rest := []) rfl (nb rfl) rfl d_Reader_advance_251 (fun u947 hu948 => ?_)
                  have xh949 := hu948
                  refine j_ws (ws' := [(ow, .inl (y 1, 33, .inr (.inl ww))), (rd, .inr (5, [.int fa, .int pl, .ref ow, .ref tp, .ref lk, .int (nI cz), .int 2, .int (nI az), .long le, .int wo, .int u947, .int (nI (tx az))])), (tp, .inr (0, [.ref td, .int (nI k)])), (td, .inl (y 0, 1600, .inl (tby tx)))]) rfl ?_
                  exact j_vret (pc := 254) C hr (cz, az, 2, le, wo, u947, nI (tx az)) ⟨show cz ≤ k by omega, show az ≤ cz by omega, (by rw [hG693]; exact cl_num (q := az) (e := cz) hq870 (by omega) (fun h => by have h2 := h.2; omega) hg_ (by omega) (fun h => by have h1 := h.1; have h2 := h.2; omega) xh949 rfl)⟩ [1, 2, 3, 0] rfl (by decide) (by decide) (by decide) d_Reader_advance_254
                · refine j_aload_n (pc := 207) C d_Reader_advance_207 rfl 3 rfl ?_
                  refine j_get (pc := 208) C gf_Reader_50 0 rfl rfl d_Reader_advance_208 ?_
                  refine j_icmp_neF (pc := 211) C (tgt := 227) d_Reader_advance_211 (by decide) (by decide) ?_
                  refine j_aload_n (pc := 214) C d_Reader_advance_214 rfl 3 rfl ?_
                  refine j_dup (pc := 215) C d_Reader_advance_215 rfl ?_
                  refine j_get (pc := 216) C gf_Reader_47 0 rfl rfl d_Reader_advance_216 ?_
                  refine j_iconst (pc := 219) C (v := 1) d_Reader_advance_219 (by decide) ?_
                  refine j_iadd (pc := 220) C (v := nI (cz + 1)) d_Reader_advance_220 (nI_add _ _) ?_
                  refine j_put (pc := 221) C pf_Reader_47 0 (ws' := [(rd, .inr (5, [.int fa, .int pl, .ref ow, .ref tp, .ref lk, .int (nI (cz + 1)), .int 2, .int (nI az), .long le, .int wo, .int nu, .int (nI (tx az))])), (tp, .inr (0, [.ref td, .int (nI k)])), (td, .inl (y 0, 1600, .inl (tby tx))), (ow, .inl (y 1, 33, .inr (.inl ww)))]) rfl rfl rfl (nl rfl) rfl d_Reader_advance_221 ?_
                  refine j_goto (pc := 224) C (tgt := 176) d_Reader_advance_224 (by decide) ?_
                  exact ih936 ((cz + 1)) ⟨(show az + 1 ≤ (cz + 1) by omega), (show (cz + 1) ≤ k by omega), (fun i h1 h2 => by
                          by_cases e : i = cz
                          · rw [e]; exact xh945
                          · exact hg_ i h1 (by omega))⟩ (show k - (cz + 1) < k - cz by omega)
                · refine j_aload_n (pc := 207) C d_Reader_advance_207 rfl 3 rfl ?_
                  refine j_get (pc := 208) C gf_Reader_50 0 rfl rfl d_Reader_advance_208 ?_
                  refine j_icmp_neT (pc := 211) C (tgt := 227) d_Reader_advance_211 (by decide) (by decide) ?_
                  refine j_aload_n (pc := 227) C d_Reader_advance_227 rfl 3 rfl ?_
                  refine j_get (pc := 228) C gf_Reader_50 0 rfl rfl d_Reader_advance_228 ?_
                  refine j_iconst (pc := 231) C (v := 1) d_Reader_advance_231 (by decide) ?_
                  refine j_icmp_neT (pc := 232) C (tgt := 242) d_Reader_advance_232 (by decide) (by decide) ?_
                  refine j_aload_n (pc := 242) C d_Reader_advance_242 rfl 3 rfl ?_
                  refine j_get (pc := 243) C gf_Reader_50 0 rfl rfl d_Reader_advance_243 ?_
                  refine j_iconst (pc := 246) C (v := 2) d_Reader_advance_246 (by decide) ?_
                  refine j_icmp_neF (pc := 247) C (tgt := 254) d_Reader_advance_247 (by decide) (by decide) ?_
                  refine j_aload_n (pc := 250) C d_Reader_advance_250 rfl 3 rfl ?_
                  refine j_callVv (pc := 251) C (c_rF_knowNumber l D y rd ow tp lk td fa pl 2 le wo nu (nI (tx az)) cz az k tx he_ (by omega) hk hB (fun i h1 h2 => srt_2' (hg_ i h1 h2))) kw_Reader_302 kv_Reader_knowNumber 0 5 rfl rfl ⟨by decide, by decide⟩ ⟨by decide, by decide⟩ (wr := [(ow, .inl (y 1, 33, .inr (.inl ww)))]) [0, 1, 2] [3] rfl rfl (by decide) (by decide) (by decide) (As := []) (rest := []) rfl (nb rfl) rfl d_Reader_advance_251 (fun u950 hu951 => ?_)
                  have xh952 := hu951
                  refine j_ws (ws' := [(ow, .inl (y 1, 33, .inr (.inl ww))), (rd, .inr (5, [.int fa, .int pl, .ref ow, .ref tp, .ref lk, .int (nI cz), .int 2, .int (nI az), .long le, .int wo, .int u950, .int (nI (tx az))])), (tp, .inr (0, [.ref td, .int (nI k)])), (td, .inl (y 0, 1600, .inl (tby tx)))]) rfl ?_
                  exact j_vret (pc := 254) C hr (cz, az, 2, le, wo, u950, nI (tx az)) ⟨show cz ≤ k by omega, show az ≤ cz by omega, (by rw [hG693]; exact cl_num (q := az) (e := cz) hq870 (by omega) (fun h => by have h2 := h.2; omega) hg_ (by omega) (fun h => by have h1 := h.1; have h2 := h.2; omega) xh952 rfl)⟩ [1, 2, 3, 0] rfl (by decide) (by decide) (by decide) d_Reader_advance_254
            · refine j_put (pc := 163) C pf_Reader_50 0 (ws' := [(rd, .inr (5, [.int fa, .int pl, .ref ow, .ref tp, .ref lk, .int (nI az), .int 3, .int (nI az), .long le, .int wo, .int nu, .int (nI (tx az))])), (tp, .inr (0, [.ref td, .int (nI k)])), (td, .inl (y 0, 1600, .inl (tby tx))), (ow, .inl (y 1, 33, .inr (.inl ww)))]) rfl rfl rfl (nl rfl) rfl d_Reader_advance_163 ?_
              refine j_aload_n (pc := 166) C d_Reader_advance_166 rfl 3 rfl ?_
              refine j_dup (pc := 167) C d_Reader_advance_167 rfl ?_
              refine j_get (pc := 168) C gf_Reader_47 0 rfl rfl d_Reader_advance_168 ?_
              refine j_iconst (pc := 171) C (v := 1) d_Reader_advance_171 (by decide) ?_
              refine j_iadd (pc := 172) C (v := nI (az + 1)) d_Reader_advance_172 (nI_add _ _) ?_
              refine j_put (pc := 173) C pf_Reader_47 0 (ws' := [(rd, .inr (5, [.int fa, .int pl, .ref ow, .ref tp, .ref lk, .int (nI (az + 1)), .int 3, .int (nI az), .long le, .int wo, .int nu, .int (nI (tx az))])), (tp, .inr (0, [.ref td, .int (nI k)])), (td, .inl (y 0, 1600, .inl (tby tx))), (ow, .inl (y 1, 33, .inr (.inl ww)))]) rfl rfl rfl (nl rfl) rfl d_Reader_advance_173 ?_
              refine j_aload_n (pc := 176) C d_Reader_advance_176 rfl 3 rfl ?_
              refine j_get (pc := 177) C gf_Reader_47 0 rfl rfl d_Reader_advance_177 ?_
              refine j_iload_n (pc := 180) C d_Reader_advance_180 rfl 0 rfl ?_
              by_cases c953 : k ≤ (az + 1)
              · refine j_icmp_geT (pc := 181) C (tgt := 227) d_Reader_advance_181 (by decide) (show nI k ≤ nI (az + 1) from nI_le (by omega) (by omega)) ?_
                refine j_aload_n (pc := 227) C d_Reader_advance_227 rfl 3 rfl ?_
                refine j_get (pc := 228) C gf_Reader_50 0 rfl rfl d_Reader_advance_228 ?_
                refine j_iconst (pc := 231) C (v := 1) d_Reader_advance_231 (by decide) ?_
                refine j_icmp_neT (pc := 232) C (tgt := 242) d_Reader_advance_232 (by decide) (by decide) ?_
                refine j_aload_n (pc := 242) C d_Reader_advance_242 rfl 3 rfl ?_
                refine j_get (pc := 243) C gf_Reader_50 0 rfl rfl d_Reader_advance_243 ?_
                refine j_iconst (pc := 246) C (v := 2) d_Reader_advance_246 (by decide) ?_
                refine j_icmp_neT (pc := 247) C (tgt := 254) d_Reader_advance_247 (by decide) (by decide) ?_
                exact j_vret (pc := 254) C hr ((az + 1), az, 3, le, wo, nu, nI (tx az)) ⟨show (az + 1) ≤ k by omega, show az ≤ (az + 1) by omega, (by rw [hG693]; exact cl_sign (q := az) hq870 (by omega) (Or.inr xh878) rfl)⟩ [0, 1, 2, 3] rfl (by decide) (by decide) (by decide) d_Reader_advance_254
              · refine j_icmp_geF (pc := 181) C (tgt := 227) d_Reader_advance_181 (by decide) (show ¬ nI k ≤ nI (az + 1) from nI_ge (by omega) (by omega)) ?_
                refine j_aload_n (pc := 184) C d_Reader_advance_184 rfl 3 rfl ?_
                refine j_get (pc := 185) C gf_Reader_50 0 rfl rfl d_Reader_advance_185 ?_
                refine j_iconst (pc := 188) C (v := 3) d_Reader_advance_188 (by decide) ?_
                refine j_icmp_eqT (pc := 189) C (tgt := 227) d_Reader_advance_189 (by decide) (by decide) ?_
                refine j_aload_n (pc := 227) C d_Reader_advance_227 rfl 3 rfl ?_
                refine j_get (pc := 228) C gf_Reader_50 0 rfl rfl d_Reader_advance_228 ?_
                refine j_iconst (pc := 231) C (v := 1) d_Reader_advance_231 (by decide) ?_
                refine j_icmp_neT (pc := 232) C (tgt := 242) d_Reader_advance_232 (by decide) (by decide) ?_
                refine j_aload_n (pc := 242) C d_Reader_advance_242 rfl 3 rfl ?_
                refine j_get (pc := 243) C gf_Reader_50 0 rfl rfl d_Reader_advance_243 ?_
                refine j_iconst (pc := 246) C (v := 2) d_Reader_advance_246 (by decide) ?_
                refine j_icmp_neT (pc := 247) C (tgt := 254) d_Reader_advance_247 (by decide) (by decide) ?_
                exact j_vret (pc := 254) C hr ((az + 1), az, 3, le, wo, nu, nI (tx az)) ⟨show (az + 1) ≤ k by omega, show az ≤ (az + 1) by omega, (by rw [hG693]; exact cl_sign (q := az) hq870 (by omega) (Or.inr xh878) rfl)⟩ [0, 1, 2, 3] rfl (by decide) (by decide) (by decide) d_Reader_advance_254
          · refine j_icmp_neF (pc := 149) C (tgt := 156) d_Reader_advance_149 (by decide) (show nI az = nI ra from (nI_eq (by omega) (by omega)).mpr (by omega)) ?_
            refine j_iconst (pc := 152) C (v := 3) d_Reader_advance_152 (by decide) ?_
            refine j_goto (pc := 153) C (tgt := 163) d_Reader_advance_153 (by decide) ?_
            refine j_put (pc := 163) C pf_Reader_50 0 (ws' := [(rd, .inr (5, [.int fa, .int pl, .ref ow, .ref tp, .ref lk, .int (nI az), .int 3, .int (nI az), .long le, .int wo, .int nu, .int (nI (tx az))])), (tp, .inr (0, [.ref td, .int (nI k)])), (td, .inl (y 0, 1600, .inl (tby tx))), (ow, .inl (y 1, 33, .inr (.inl ww)))]) rfl rfl rfl (nl rfl) rfl d_Reader_advance_163 ?_
            refine j_aload_n (pc := 166) C d_Reader_advance_166 rfl 3 rfl ?_
            refine j_dup (pc := 167) C d_Reader_advance_167 rfl ?_
            refine j_get (pc := 168) C gf_Reader_47 0 rfl rfl d_Reader_advance_168 ?_
            refine j_iconst (pc := 171) C (v := 1) d_Reader_advance_171 (by decide) ?_
            refine j_iadd (pc := 172) C (v := nI (az + 1)) d_Reader_advance_172 (nI_add _ _) ?_
            refine j_put (pc := 173) C pf_Reader_47 0 (ws' := [(rd, .inr (5, [.int fa, .int pl, .ref ow, .ref tp, .ref lk, .int (nI (az + 1)), .int 3, .int (nI az), .long le, .int wo, .int nu, .int (nI (tx az))])), (tp, .inr (0, [.ref td, .int (nI k)])), (td, .inl (y 0, 1600, .inl (tby tx))), (ow, .inl (y 1, 33, .inr (.inl ww)))]) rfl rfl rfl (nl rfl) rfl d_Reader_advance_173 ?_
            refine j_aload_n (pc := 176) C d_Reader_advance_176 rfl 3 rfl ?_
            refine j_get (pc := 177) C gf_Reader_47 0 rfl rfl d_Reader_advance_177 ?_
            refine j_iload_n (pc := 180) C d_Reader_advance_180 rfl 0 rfl ?_
            by_cases c954 : k ≤ (az + 1)
            · refine j_icmp_geT (pc := 181) C (tgt := 227) d_Reader_advance_181 (by decide) (show nI k ≤ nI (az + 1) from nI_le (by omega) (by omega)) ?_
              refine j_aload_n (pc := 227) C d_Reader_advance_227 rfl 3 rfl ?_
              refine j_get (pc := 228) C gf_Reader_50 0 rfl rfl d_Reader_advance_228 ?_
              refine j_iconst (pc := 231) C (v := 1) d_Reader_advance_231 (by decide) ?_
              refine j_icmp_neT (pc := 232) C (tgt := 242) d_Reader_advance_232 (by decide) (by decide) ?_
              refine j_aload_n (pc := 242) C d_Reader_advance_242 rfl 3 rfl ?_
              refine j_get (pc := 243) C gf_Reader_50 0 rfl rfl d_Reader_advance_243 ?_
              refine j_iconst (pc := 246) C (v := 2) d_Reader_advance_246 (by decide) ?_
              refine j_icmp_neT (pc := 247) C (tgt := 254) d_Reader_advance_247 (by decide) (by decide) ?_
              exact j_vret (pc := 254) C hr ((az + 1), az, 3, le, wo, nu, nI (tx az)) ⟨show (az + 1) ≤ k by omega, show az ≤ (az + 1) by omega, (by rw [hG693]; exact cl_sign (q := az) hq870 (by omega) (Or.inl ⟨rfl, by omega⟩) rfl)⟩ [0, 1, 2, 3] rfl (by decide) (by decide) (by decide) d_Reader_advance_254
            · refine j_icmp_geF (pc := 181) C (tgt := 227) d_Reader_advance_181 (by decide) (show ¬ nI k ≤ nI (az + 1) from nI_ge (by omega) (by omega)) ?_
              refine j_aload_n (pc := 184) C d_Reader_advance_184 rfl 3 rfl ?_
              refine j_get (pc := 185) C gf_Reader_50 0 rfl rfl d_Reader_advance_185 ?_
              refine j_iconst (pc := 188) C (v := 3) d_Reader_advance_188 (by decide) ?_
              refine j_icmp_eqT (pc := 189) C (tgt := 227) d_Reader_advance_189 (by decide) (by decide) ?_
              refine j_aload_n (pc := 227) C d_Reader_advance_227 rfl 3 rfl ?_
              refine j_get (pc := 228) C gf_Reader_50 0 rfl rfl d_Reader_advance_228 ?_
              refine j_iconst (pc := 231) C (v := 1) d_Reader_advance_231 (by decide) ?_
              refine j_icmp_neT (pc := 232) C (tgt := 242) d_Reader_advance_232 (by decide) (by decide) ?_
              refine j_aload_n (pc := 242) C d_Reader_advance_242 rfl 3 rfl ?_
              refine j_get (pc := 243) C gf_Reader_50 0 rfl rfl d_Reader_advance_243 ?_
              refine j_iconst (pc := 246) C (v := 2) d_Reader_advance_246 (by decide) ?_
              refine j_icmp_neT (pc := 247) C (tgt := 254) d_Reader_advance_247 (by decide) (by decide) ?_
              exact j_vret (pc := 254) C hr ((az + 1), az, 3, le, wo, nu, nI (tx az)) ⟨show (az + 1) ≤ k by omega, show az ≤ (az + 1) by omega, (by rw [hG693]; exact cl_sign (q := az) hq870 (by omega) (Or.inl ⟨rfl, by omega⟩) rfl)⟩ [0, 1, 2, 3] rfl (by decide) (by decide) (by decide) d_Reader_advance_254
        · refine j_icmp_ltF (pc := 114) C (tgt := 123) d_Reader_advance_114 (by decide) (show ¬ nI az < nI k from nI_nlt (by omega) (by omega)) ?_
          refine j_aload_n (pc := 117) C d_Reader_advance_117 rfl 3 rfl ?_
          refine j_iconst (pc := 118) C (v := 0) d_Reader_advance_118 (by decide) ?_
          refine j_put (pc := 119) C pf_Reader_50 0 (ws' := [(rd, .inr (5, [.int fa, .int pl, .ref ow, .ref tp, .ref lk, .int (nI az), .int 0, .int (nI az), .long le, .int wo, .int nu, .int si])), (tp, .inr (0, [.ref td, .int (nI k)])), (td, .inl (y 0, 1600, .inl (tby tx))), (ow, .inl (y 1, 33, .inr (.inl ww)))]) rfl rfl rfl (nl rfl) rfl d_Reader_advance_119 ?_
          exact j_vret (pc := 122) C hr (az, az, 0, le, wo, nu, si) ⟨show az ≤ k by omega, show az ≤ az by omega, (by rw [hG693]; exact cl_end (q := az) hq870 (by omega))⟩ [0, 1, 2, 3] rfl (by decide) (by decide) (by decide) d_Reader_advance_122
      · refine j_icmp_geF (pc := 51) C (tgt := 101) d_Reader_advance_51 (by decide) (show ¬ nI k ≤ nI az from nI_ge (by omega) (by omega)) ?_
        refine j_aload_n (pc := 54) C d_Reader_advance_54 rfl 3 rfl ?_
        refine j_get (pc := 55) C gf_Reader_19 0 rfl rfl d_Reader_advance_55 ?_
        refine j_get (pc := 58) C gf_Reader_288 1 rfl rfl d_Reader_advance_58 ?_
        refine j_aload_n (pc := 61) C d_Reader_advance_61 rfl 3 rfl ?_
        refine j_get (pc := 62) C gf_Reader_47 0 rfl rfl d_Reader_advance_62 ?_
        have hb955 : tx az < 256 := hB az
        refine j_iald (pc := 65) C 2 rfl (v := nI (tx az)) (vp_in_nI (by omega) (by decide)) (by rw [nI_clamp (by omega)]; rfl) d_Reader_advance_65 ?_
        refine j_bipush (pc := 66) C (v := 32) d_Reader_advance_66 (by decide) ?_
        by_cases c956 : (tx az) = 32
        · refine j_icmp_eqT (pc := 68) C (tgt := 88) d_Reader_advance_68 (by decide) (show nI (tx az) = nI 32 from (nI_eq (by omega) (by omega)).mpr (by omega)) ?_
          refine j_aload_n (pc := 88) C d_Reader_advance_88 rfl 3 rfl ?_
          refine j_dup (pc := 89) C d_Reader_advance_89 rfl ?_
          refine j_get (pc := 90) C gf_Reader_47 0 rfl rfl d_Reader_advance_90 ?_
          refine j_iconst (pc := 93) C (v := 1) d_Reader_advance_93 (by decide) ?_
          refine j_iadd (pc := 94) C (v := nI (az + 1)) d_Reader_advance_94 (nI_add _ _) ?_
          refine j_put (pc := 95) C pf_Reader_47 0 (ws' := [(rd, .inr (5, [.int fa, .int pl, .ref ow, .ref tp, .ref lk, .int (nI (az + 1)), .int so, .int b0, .long le, .int wo, .int nu, .int si])), (tp, .inr (0, [.ref td, .int (nI k)])), (td, .inl (y 0, 1600, .inl (tby tx))), (ow, .inl (y 1, 33, .inr (.inl ww)))]) rfl rfl rfl (nl rfl) rfl d_Reader_advance_95 ?_
          refine j_goto (pc := 98) C (tgt := 46) d_Reader_advance_98 (by decide) ?_
          exact ih868 ((az + 1)) ⟨(show (az + 1) ≤ k by omega), (show ra ≤ (az + 1) by omega), (fun i h1 h2 => by
                  by_cases e : i = az
                  · rw [e]; omega
                  · exact hc_ i h1 (by omega))⟩ (show k - (az + 1) < k - az by omega)
        · refine j_icmp_eqF (pc := 68) C (tgt := 88) d_Reader_advance_68 (by decide) (show ¬ nI (tx az) = nI 32 from fun e => absurd ((nI_eq (by omega) (by omega)).mp e) (by omega)) ?_
          refine j_aload_n (pc := 71) C d_Reader_advance_71 rfl 3 rfl ?_
          refine j_get (pc := 72) C gf_Reader_19 0 rfl rfl d_Reader_advance_72 ?_
          refine j_get (pc := 75) C gf_Reader_288 1 rfl rfl d_Reader_advance_75 ?_
          refine j_aload_n (pc := 78) C d_Reader_advance_78 rfl 3 rfl ?_
          refine j_get (pc := 79) C gf_Reader_47 0 rfl rfl d_Reader_advance_79 ?_
          refine j_iald (pc := 82) C 2 rfl (v := nI (tx az)) (vp_in_nI (by omega) (by decide)) (by rw [nI_clamp (by omega)]; rfl) d_Reader_advance_82 ?_
          refine j_bipush (pc := 83) C (v := 10) d_Reader_advance_83 (by decide) ?_
          by_cases c957 : ¬ (tx az) = 10
          · refine j_icmp_neT (pc := 85) C (tgt := 101) d_Reader_advance_85 (by decide) (show ¬ nI (tx az) = nI 10 from fun e => absurd ((nI_eq (by omega) (by omega)).mp e) (by omega)) ?_
            have hq958 : tq tx k ra = az := sq_eq (by omega) (fun i h1 h2 => ⟨by omega, decide_eq_true (hc_ i h1 h2)⟩) (fun h => by have h1 := h.1; have h2 : tx az = 32 ∨ tx az = 10 := of_decide_eq_true h.2; omega)
            refine j_aload_n (pc := 101) C d_Reader_advance_101 rfl 3 rfl ?_
            refine j_aload_n (pc := 102) C d_Reader_advance_102 rfl 3 rfl ?_
            refine j_get (pc := 103) C gf_Reader_47 0 rfl rfl d_Reader_advance_103 ?_
            refine j_put (pc := 106) C pf_Reader_62 0 (ws' := [(rd, .inr (5, [.int fa, .int pl, .ref ow, .ref tp, .ref lk, .int (nI az), .int so, .int (nI az), .long le, .int wo, .int nu, .int si])), (tp, .inr (0, [.ref td, .int (nI k)])), (td, .inl (y 0, 1600, .inl (tby tx))), (ow, .inl (y 1, 33, .inr (.inl ww)))]) rfl rfl rfl (nl rfl) rfl d_Reader_advance_106 ?_
            refine j_aload_n (pc := 109) C d_Reader_advance_109 rfl 3 rfl ?_
            refine j_get (pc := 110) C gf_Reader_47 0 rfl rfl d_Reader_advance_110 ?_
            refine j_iload_n (pc := 113) C d_Reader_advance_113 rfl 0 rfl ?_
            by_cases c959 : az < k
            · refine j_icmp_ltT (pc := 114) C (tgt := 123) d_Reader_advance_114 (by decide) (show nI az < nI k from nI_lt (by omega) (by omega)) ?_
              refine j_aload_n (pc := 123) C d_Reader_advance_123 rfl 3 rfl ?_
              refine j_aload_n (pc := 124) C d_Reader_advance_124 rfl 3 rfl ?_
              refine j_get (pc := 125) C gf_Reader_19 0 rfl rfl d_Reader_advance_125 ?_
              refine j_get (pc := 128) C gf_Reader_288 1 rfl rfl d_Reader_advance_128 ?_
              refine j_aload_n (pc := 131) C d_Reader_advance_131 rfl 3 rfl ?_
              refine j_get (pc := 132) C gf_Reader_47 0 rfl rfl d_Reader_advance_132 ?_
              refine j_iald (pc := 135) C 2 rfl (v := nI (tx az)) (vp_in_nI (by omega) (by decide)) (by rw [nI_clamp (by omega)]; rfl) d_Reader_advance_135 ?_
              refine j_put (pc := 136) C pf_Reader_272 0 (ws' := [(rd, .inr (5, [.int fa, .int pl, .ref ow, .ref tp, .ref lk, .int (nI az), .int so, .int (nI az), .long le, .int wo, .int nu, .int (nI (tx az))])), (tp, .inr (0, [.ref td, .int (nI k)])), (td, .inl (y 0, 1600, .inl (tby tx))), (ow, .inl (y 1, 33, .inr (.inl ww)))]) rfl rfl rfl (nl rfl) rfl d_Reader_advance_136 ?_
              refine j_aload_n (pc := 139) C d_Reader_advance_139 rfl 3 rfl ?_
              refine j_iload_n (pc := 140) C d_Reader_advance_140 rfl 2 rfl ?_
              refine j_if_eqF (pc := 141) C (tgt := 156) d_Reader_advance_141 (by decide) (by decide) ?_
              refine j_aload_n (pc := 144) C d_Reader_advance_144 rfl 3 rfl ?_
              refine j_get (pc := 145) C gf_Reader_47 0 rfl rfl d_Reader_advance_145 ?_
              refine j_iload_n (pc := 148) C d_Reader_advance_148 rfl 1 rfl ?_
              by_cases c960 : ¬ az = ra
              · refine j_icmp_neT (pc := 149) C (tgt := 156) d_Reader_advance_149 (by decide) (show ¬ nI az = nI ra from fun e => absurd ((nI_eq (by omega) (by omega)).mp e) (by omega)) ?_
                refine j_aload_n (pc := 156) C d_Reader_advance_156 rfl 3 rfl ?_
                refine j_get (pc := 157) C gf_Reader_272 0 rfl rfl d_Reader_advance_157 ?_
                refine j_callSi (pc := 160) C (c_sortOfF l D y (tx az) (by omega)) kw_Reader_296 ks_Reader_sortOf ⟨by decide, by decide⟩ ⟨by decide, by decide⟩ (wr := [(rd, .inr (5, [.int fa, .int pl, .ref ow, .ref tp, .ref lk, .int (nI az), .int so, .int (nI az), .long le, .int wo, .int nu, .int (nI (tx az))])), (tp, .inr (0, [.ref td, .int (nI k)])), (td, .inl (y 0, 1600, .inl (tby tx))), (ow, .inl (y 1, 33, .inr (.inl ww)))]) [] [0, 1, 2, 3] rfl rfl (by decide) (by decide) (by decide) (As := [.int (nI (tx az))]) (rest := [.ref rd]) rfl (nb rfl) rfl d_Reader_advance_160 (fun r961 _ hr961 => ?_)
                refine j_ws (ws' := [(rd, .inr (5, [.int fa, .int pl, .ref ow, .ref tp, .ref lk, .int (nI az), .int so, .int (nI az), .long le, .int wo, .int nu, .int (nI (tx az))])), (tp, .inr (0, [.ref td, .int (nI k)])), (td, .inl (y 0, 1600, .inl (tby tx))), (ow, .inl (y 1, 33, .inr (.inl ww)))]) rfl ?_
                rcases hr961 with ⟨rfl, xh963⟩ | ⟨rfl, xh964⟩ | ⟨rfl, xh965⟩
                · refine j_put (pc := 163) C pf_Reader_50 0 (ws' := [(rd, .inr (5, [.int fa, .int pl, .ref ow, .ref tp, .ref lk, .int (nI az), .int 1, .int (nI az), .long le, .int wo, .int nu, .int (nI (tx az))])), (tp, .inr (0, [.ref td, .int (nI k)])), (td, .inl (y 0, 1600, .inl (tby tx))), (ow, .inl (y 1, 33, .inr (.inl ww)))]) rfl rfl rfl (nl rfl) rfl d_Reader_advance_163 ?_
                  refine j_aload_n (pc := 166) C d_Reader_advance_166 rfl 3 rfl ?_
                  refine j_dup (pc := 167) C d_Reader_advance_167 rfl ?_
                  refine j_get (pc := 168) C gf_Reader_47 0 rfl rfl d_Reader_advance_168 ?_
                  refine j_iconst (pc := 171) C (v := 1) d_Reader_advance_171 (by decide) ?_
                  refine j_iadd (pc := 172) C (v := nI (az + 1)) d_Reader_advance_172 (nI_add _ _) ?_
                  refine j_put (pc := 173) C pf_Reader_47 0 (ws' := [(rd, .inr (5, [.int fa, .int pl, .ref ow, .ref tp, .ref lk, .int (nI (az + 1)), .int 1, .int (nI az), .long le, .int wo, .int nu, .int (nI (tx az))])), (tp, .inr (0, [.ref td, .int (nI k)])), (td, .inl (y 0, 1600, .inl (tby tx))), (ow, .inl (y 1, 33, .inr (.inl ww)))]) rfl rfl rfl (nl rfl) rfl d_Reader_advance_173 ?_
                  refine j_loop (α := Nat) (fun a => k - a) (fun a => (az + 1 ≤ a) ∧ (a ≤ k) ∧ ((∀ i, az ≤ i → i < a → srt (tx i) = 1))) (fun a => [(rd, .inr (5, [.int fa, .int pl, .ref ow, .ref tp, .ref lk, .int (nI a), .int 1, .int (nI az), .long le, .int wo, .int nu, .int (nI (tx az))])), (tp, .inr (0, [.ref td, .int (nI k)])), (td, .inl (y 0, 1600, .inl (tby tx))), (ow, .inl (y 1, 33, .inr (.inl ww)))]) (fun a => [(3, .int (nI k)), (2, .int (nI ra)), (1, .int 1), (0, .ref rd)]) ((az + 1)) rfl rfl ⟨(show az + 1 ≤ (az + 1) by omega), (show (az + 1) ≤ k by omega), (fun i h1 h2 => by rw [show i = az by omega]; exact xh963)⟩ ?_
                  rintro cz hP985 ih986
                  obtain ⟨hd__, he__, hg__⟩ := hP985
                  have hd_ : az + 1 ≤ cz := hd__
                  have he_ : cz ≤ k := he__
                  have hg_ : (∀ i, az ≤ i → i < cz → srt (tx i) = 1) := hg__
                  refine j_ws (ws' := [(rd, .inr (5, [.int fa, .int pl, .ref ow, .ref tp, .ref lk, .int (nI cz), .int 1, .int (nI az), .long le, .int wo, .int nu, .int (nI (tx az))])), (tp, .inr (0, [.ref td, .int (nI k)])), (td, .inl (y 0, 1600, .inl (tby tx))), (ow, .inl (y 1, 33, .inr (.inl ww)))]) rfl ?_
                  refine j_lv (lv' := [(3, .int (nI k)), (2, .int (nI ra)), (1, .int 1), (0, .ref rd)]) rfl ?_
                  refine j_aload_n (pc := 176) C d_Reader_advance_176 rfl 3 rfl ?_
                  refine j_get (pc := 177) C gf_Reader_47 0 rfl rfl d_Reader_advance_177 ?_
                  refine j_iload_n (pc := 180) C d_Reader_advance_180 rfl 0 rfl ?_
                  by_cases c987 : k ≤ cz
                  · refine j_icmp_geT (pc := 181) C (tgt := 227) d_Reader_advance_181 (by decide) (show nI k ≤ nI cz from nI_le (by omega) (by omega)) ?_
                    refine j_aload_n (pc := 227) C d_Reader_advance_227 rfl 3 rfl ?_
                    refine j_get (pc := 228) C gf_Reader_50 0 rfl rfl d_Reader_advance_228 ?_
                    refine j_iconst (pc := 231) C (v := 1) d_Reader_advance_231 (by decide) ?_
                    refine j_icmp_neF (pc := 232) C (tgt := 242) d_Reader_advance_232 (by decide) (by decide) ?_
                    refine j_aload_n (pc := 235) C d_Reader_advance_235 rfl 3 rfl ?_
                    refine j_callVv (pc := 236) C (c_rF_knowWord l D y rd ow tp lk td fa pl 1 le wo nu (nI (tx az)) cz az k tx ww he_ (by omega) hk hB (fun i h1 h2 => srt_1' (hg_ i h1 h2))) kw_Reader_299 kv_Reader_knowWord 0 5 rfl rfl ⟨by decide, by decide⟩ ⟨by decide, by decide⟩ (wr := []) [0, 1, 2, 3] [] rfl rfl (by decide) (by decide) (by decide) (As := []) (rest := []) rfl (nb rfl) rfl d_Reader_advance_236 (fun u988 hu989 => ?_)
                    obtain ⟨xh990, xh991⟩ := hu989
                    refine j_ws (ws' := [(rd, .inr (5, [.int fa, .int pl, .ref ow, .ref tp, .ref lk, .int (nI cz), .int 1, .int (nI az), .long u988.1, .int u988.2, .int nu, .int (nI (tx az))])), (tp, .inr (0, [.ref td, .int (nI k)])), (td, .inl (y 0, 1600, .inl (tby tx))), (ow, .inl (y 1, 33, .inr (.inl ww)))]) rfl ?_
                    refine j_goto (pc := 239) C (tgt := 254) d_Reader_advance_239 (by decide) ?_
                    exact j_vret (pc := 254) C hr (cz, az, 1, u988.1, u988.2, nu, nI (tx az)) ⟨show cz ≤ k by omega, show az ≤ cz by omega, (by rw [hG693]; exact cl_word (q := az) (e := cz) hq958 (by omega) (fun h => by have h2 := h.2; omega) hg_ (by omega) (fun h => by have h1 := h.1; have h2 := h.2; omega) hWW xh990 xh991 rfl)⟩ [0, 1, 2, 3] rfl (by decide) (by decide) (by decide) d_Reader_advance_254
                  · refine j_icmp_geF (pc := 181) C (tgt := 227) d_Reader_advance_181 (by decide) (show ¬ nI k ≤ nI cz from nI_ge (by omega) (by omega)) ?_
                    refine j_aload_n (pc := 184) C d_Reader_advance_184 rfl 3 rfl ?_
                    refine j_get (pc := 185) C gf_Reader_50 0 rfl rfl d_Reader_advance_185 ?_
                    refine j_iconst (pc := 188) C (v := 3) d_Reader_advance_188 (by decide) ?_
                    refine j_icmp_eqF (pc := 189) C (tgt := 227) d_Reader_advance_189 (by decide) (by decide) ?_
                    refine j_aload_n (pc := 192) C d_Reader_advance_192 rfl 3 rfl ?_
                    refine j_get (pc := 193) C gf_Reader_19 0 rfl rfl d_Reader_advance_193 ?_
                    refine j_get (pc := 196) C gf_Reader_288 1 rfl rfl d_Reader_advance_196 ?_
                    refine j_aload_n (pc := 199) C d_Reader_advance_199 rfl 3 rfl ?_
                    refine j_get (pc := 200) C gf_Reader_47 0 rfl rfl d_Reader_advance_200 ?_
                    have hb992 : tx cz < 256 := hB cz
                    refine j_iald (pc := 203) C 2 rfl (v := nI (tx cz)) (vp_in_nI (by omega) (by decide)) (by rw [nI_clamp (by omega)]; rfl) d_Reader_advance_203 ?_
                    refine j_callSi (pc := 204) C (c_sortOfF l D y (tx cz) (by omega)) kw_Reader_296 ks_Reader_sortOf ⟨by decide, by decide⟩ ⟨by decide, by decide⟩ (wr := [(rd, .inr (5, [.int fa, .int pl, .ref ow, .ref tp, .ref lk, .int (nI cz), .int 1, .int (nI az), .long le, .int wo, .int nu, .int (nI (tx az))])), (tp, .inr (0, [.ref td, .int (nI k)])), (td, .inl (y 0, 1600, .inl (tby tx))), (ow, .inl (y 1, 33, .inr (.inl ww)))]) [] [0, 1, 2, 3] rfl rfl (by decide) (by decide) (by decide) (As := [.int (nI (tx cz))]) (rest := []) rfl (nb rfl) rfl d_Reader_advance_204 (fun r993 _ hr993 => ?_)
                    refine j_ws (ws' := [(rd, .inr (5, [.int fa, .int pl, .ref ow, .ref tp, .ref lk, .int (nI cz), .int 1, .int (nI az), .long le, .int wo, .int nu, .int (nI (tx az))])), (tp, .inr (0, [.ref td, .int (nI k)])), (td, .inl (y 0, 1600, .inl (tby tx))), (ow, .inl (y 1, 33, .inr (.inl ww)))]) rfl ?_
                    rcases hr993 with ⟨rfl, xh995⟩ | ⟨rfl, xh996⟩ | ⟨rfl, xh997⟩
                    · refine j_aload_n (pc := 207) C d_Reader_advance_207 rfl 3 rfl ?_
                      refine j_get (pc := 208) C gf_Reader_50 0 rfl rfl d_Reader_advance_208 ?_
                      refine j_icmp_neF (pc := 211) C (tgt := 227) d_Reader_advance_211 (by decide) (by decide) ?_
                      refine j_aload_n (pc := 214) C d_Reader_advance_214 rfl 3 rfl ?_
                      refine j_dup (pc := 215) C d_Reader_advance_215 rfl ?_
                      refine j_get (pc := 216) C gf_Reader_47 0 rfl rfl d_Reader_advance_216 ?_
                      refine j_iconst (pc := 219) C (v := 1) d_Reader_advance_219 (by decide) ?_
                      refine j_iadd (pc := 220) C (v := nI (cz + 1)) d_Reader_advance_220 (nI_add _ _) ?_
                      refine j_put (pc := 221) C pf_Reader_47 0 (ws' := [(rd, .inr (5, [.int fa, .int pl, .ref ow, .ref tp, .ref lk, .int (nI (cz + 1)), .int 1, .int (nI az), .long le, .int wo, .int nu, .int (nI (tx az))])), (tp, .inr (0, [.ref td, .int (nI k)])), (td, .inl (y 0, 1600, .inl (tby tx))), (ow, .inl (y 1, 33, .inr (.inl ww)))]) rfl rfl rfl (nl rfl) rfl d_Reader_advance_221 ?_
                      refine j_goto (pc := 224) C (tgt := 176) d_Reader_advance_224 (by decide) ?_
                      exact ih986 ((cz + 1)) ⟨(show az + 1 ≤ (cz + 1) by omega), (show (cz + 1) ≤ k by omega), (fun i h1 h2 => by
                              by_cases e : i = cz
                              · rw [e]; exact xh995
                              · exact hg_ i h1 (by omega))⟩ (show k - (cz + 1) < k - cz by omega)
                    · refine j_aload_n (pc := 207) C d_Reader_advance_207 rfl 3 rfl ?_
                      refine j_get (pc := 208) C gf_Reader_50 0 rfl rfl d_Reader_advance_208 ?_
                      refine j_icmp_neT (pc := 211) C (tgt := 227) d_Reader_advance_211 (by decide) (by decide) ?_
                      refine j_aload_n (pc := 227) C d_Reader_advance_227 rfl 3 rfl ?_
                      refine j_get (pc := 228) C gf_Reader_50 0 rfl rfl d_Reader_advance_228 ?_
                      refine j_iconst (pc := 231) C (v := 1) d_Reader_advance_231 (by decide) ?_
                      refine j_icmp_neF (pc := 232) C (tgt := 242) d_Reader_advance_232 (by decide) (by decide) ?_
                      refine j_aload_n (pc := 235) C d_Reader_advance_235 rfl 3 rfl ?_
                      refine j_callVv (pc := 236) C (c_rF_knowWord l D y rd ow tp lk td fa pl 1 le wo nu (nI (tx az)) cz az k tx ww he_ (by omega) hk hB (fun i h1 h2 => srt_1' (hg_ i h1 h2))) kw_Reader_299 kv_Reader_knowWord 0 5 rfl rfl ⟨by decide, by decide⟩ ⟨by decide, by decide⟩ (wr := []) [0, 1, 2, 3] [] rfl rfl (by decide) (by decide) (by decide) (As := []) (rest := []) rfl (nb rfl) rfl d_Reader_advance_236 (fun u998 hu999 => ?_)
                      obtain ⟨xh1000, xh1001⟩ := hu999
                      refine j_ws (ws' := [(rd, .inr (5, [.int fa, .int pl, .ref ow, .ref tp, .ref lk, .int (nI cz), .int 1, .int (nI az), .long u998.1, .int u998.2, .int nu, .int (nI (tx az))])), (tp, .inr (0, [.ref td, .int (nI k)])), (td, .inl (y 0, 1600, .inl (tby tx))), (ow, .inl (y 1, 33, .inr (.inl ww)))]) rfl ?_
                      refine j_goto (pc := 239) C (tgt := 254) d_Reader_advance_239 (by decide) ?_
                      exact j_vret (pc := 254) C hr (cz, az, 1, u998.1, u998.2, nu, nI (tx az)) ⟨show cz ≤ k by omega, show az ≤ cz by omega, (by rw [hG693]; exact cl_word (q := az) (e := cz) hq958 (by omega) (fun h => by have h2 := h.2; omega) hg_ (by omega) (fun h => by have h1 := h.1; have h2 := h.2; omega) hWW xh1000 xh1001 rfl)⟩ [0, 1, 2, 3] rfl (by decide) (by decide) (by decide) d_Reader_advance_254
                    · refine j_aload_n (pc := 207) C d_Reader_advance_207 rfl 3 rfl ?_
                      refine j_get (pc := 208) C gf_Reader_50 0 rfl rfl d_Reader_advance_208 ?_
                      refine j_icmp_neT (pc := 211) C (tgt := 227) d_Reader_advance_211 (by decide) (by decide) ?_
                      refine j_aload_n (pc := 227) C d_Reader_advance_227 rfl 3 rfl ?_
                      refine j_get (pc := 228) C gf_Reader_50 0 rfl rfl d_Reader_advance_228 ?_
                      refine j_iconst (pc := 231) C (v := 1) d_Reader_advance_231 (by decide) ?_
                      refine j_icmp_neF (pc := 232) C (tgt := 242) d_Reader_advance_232 (by decide) (by decide) ?_
                      refine j_aload_n (pc := 235) C d_Reader_advance_235 rfl 3 rfl ?_
                      refine j_callVv (pc := 236) C (c_rF_knowWord l D y rd ow tp lk td fa pl 1 le wo nu (nI (tx az)) cz az k tx ww he_ (by omega) hk hB (fun i h1 h2 => srt_1' (hg_ i h1 h2))) kw_Reader_299 kv_Reader_knowWord 0 5 rfl rfl ⟨by decide, by decide⟩ ⟨by decide, by decide⟩ (wr := []) [0, 1, 2, 3] [] rfl rfl (by decide) (by decide) (by decide) (As := []) (rest := []) rfl (nb rfl) rfl d_Reader_advance_236 (fun u1002 hu1003 => ?_)
                      obtain ⟨xh1004, xh1005⟩ := hu1003
                      refine j_ws (ws' := [(rd, .inr (5, [.int fa, .int pl, .ref ow, .ref tp, .ref lk, .int (nI cz), .int 1, .int (nI az), .long u1002.1, .int u1002.2, .int nu, .int (nI (tx az))])), (tp, .inr (0, [.ref td, .int (nI k)])), (td, .inl (y 0, 1600, .inl (tby tx))), (ow, .inl (y 1, 33, .inr (.inl ww)))]) rfl ?_
                      refine j_goto (pc := 239) C (tgt := 254) d_Reader_advance_239 (by decide) ?_
                      exact j_vret (pc := 254) C hr (cz, az, 1, u1002.1, u1002.2, nu, nI (tx az)) ⟨show cz ≤ k by omega, show az ≤ cz by omega, (by rw [hG693]; exact cl_word (q := az) (e := cz) hq958 (by omega) (fun h => by have h2 := h.2; omega) hg_ (by omega) (fun h => by have h1 := h.1; have h2 := h.2; omega) hWW xh1004 xh1005 rfl)⟩ [0, 1, 2, 3] rfl (by decide) (by decide) (by decide) d_Reader_advance_254
                · refine j_put (pc := 163) C pf_Reader_50 0 (ws' := [(rd, .inr (5, [.int fa, .int pl, .ref ow, .ref tp, .ref lk, .int (nI az), .int 2, .int (nI az), .long le, .int wo, .int nu, .int (nI (tx az))])), (tp, .inr (0, [.ref td, .int (nI k)])), (td, .inl (y 0, 1600, .inl (tby tx))), (ow, .inl (y 1, 33, .inr (.inl ww)))]) rfl rfl rfl (nl rfl) rfl d_Reader_advance_163 ?_
                  refine j_aload_n (pc := 166) C d_Reader_advance_166 rfl 3 rfl ?_
                  refine j_dup (pc := 167) C d_Reader_advance_167 rfl ?_
                  refine j_get (pc := 168) C gf_Reader_47 0 rfl rfl d_Reader_advance_168 ?_
                  refine j_iconst (pc := 171) C (v := 1) d_Reader_advance_171 (by decide) ?_
                  refine j_iadd (pc := 172) C (v := nI (az + 1)) d_Reader_advance_172 (nI_add _ _) ?_
                  refine j_put (pc := 173) C pf_Reader_47 0 (ws' := [(rd, .inr (5, [.int fa, .int pl, .ref ow, .ref tp, .ref lk, .int (nI (az + 1)), .int 2, .int (nI az), .long le, .int wo, .int nu, .int (nI (tx az))])), (tp, .inr (0, [.ref td, .int (nI k)])), (td, .inl (y 0, 1600, .inl (tby tx))), (ow, .inl (y 1, 33, .inr (.inl ww)))]) rfl rfl rfl (nl rfl) rfl d_Reader_advance_173 ?_
                  refine j_loop (α := Nat) (fun a => k - a) (fun a => (az + 1 ≤ a) ∧ (a ≤ k) ∧ ((∀ i, az ≤ i → i < a → srt (tx i) = 2))) (fun a => [(rd, .inr (5, [.int fa, .int pl, .ref ow, .ref tp, .ref lk, .int (nI a), .int 2, .int (nI az), .long le, .int wo, .int nu, .int (nI (tx az))])), (tp, .inr (0, [.ref td, .int (nI k)])), (td, .inl (y 0, 1600, .inl (tby tx))), (ow, .inl (y 1, 33, .inr (.inl ww)))]) (fun a => [(3, .int (nI k)), (2, .int (nI ra)), (1, .int 1), (0, .ref rd)]) ((az + 1)) rfl rfl ⟨(show az + 1 ≤ (az + 1) by omega), (show (az + 1) ≤ k by omega), (fun i h1 h2 => by rw [show i = az by omega]; exact xh964)⟩ ?_
                  rintro cz hP1022 ih1023
                  obtain ⟨hd__, he__, hg__⟩ := hP1022
                  have hd_ : az + 1 ≤ cz := hd__
                  have he_ : cz ≤ k := he__
                  have hg_ : (∀ i, az ≤ i → i < cz → srt (tx i) = 2) := hg__
                  refine j_ws (ws' := [(rd, .inr (5, [.int fa, .int pl, .ref ow, .ref tp, .ref lk, .int (nI cz), .int 2, .int (nI az), .long le, .int wo, .int nu, .int (nI (tx az))])), (tp, .inr (0, [.ref td, .int (nI k)])), (td, .inl (y 0, 1600, .inl (tby tx))), (ow, .inl (y 1, 33, .inr (.inl ww)))]) rfl ?_
                  refine j_lv (lv' := [(3, .int (nI k)), (2, .int (nI ra)), (1, .int 1), (0, .ref rd)]) rfl ?_
                  refine j_aload_n (pc := 176) C d_Reader_advance_176 rfl 3 rfl ?_
                  refine j_get (pc := 177) C gf_Reader_47 0 rfl rfl d_Reader_advance_177 ?_
                  refine j_iload_n (pc := 180) C d_Reader_advance_180 rfl 0 rfl ?_
                  by_cases c1024 : k ≤ cz
                  · refine j_icmp_geT (pc := 181) C (tgt := 227) d_Reader_advance_181 (by decide) (show nI k ≤ nI cz from nI_le (by omega) (by omega)) ?_
                    refine j_aload_n (pc := 227) C d_Reader_advance_227 rfl 3 rfl ?_
                    refine j_get (pc := 228) C gf_Reader_50 0 rfl rfl d_Reader_advance_228 ?_
                    refine j_iconst (pc := 231) C (v := 1) d_Reader_advance_231 (by decide) ?_
                    refine j_icmp_neT (pc := 232) C (tgt := 242) d_Reader_advance_232 (by decide) (by decide) ?_
                    refine j_aload_n (pc := 242) C d_Reader_advance_242 rfl 3 rfl ?_
                    refine j_get (pc := 243) C gf_Reader_50 0 rfl rfl d_Reader_advance_243 ?_
                    refine j_iconst (pc := 246) C (v := 2) d_Reader_advance_246 (by decide) ?_
                    refine j_icmp_neF (pc := 247) C (tgt := 254) d_Reader_advance_247 (by decide) (by decide) ?_
                    refine j_aload_n (pc := 250) C d_Reader_advance_250 rfl 3 rfl ?_
                    refine j_callVv (pc := 251) C (c_rF_knowNumber l D y rd ow tp lk td fa pl 2 le wo nu (nI (tx az)) cz az k tx he_ (by omega) hk hB (fun i h1 h2 => srt_2' (hg_ i h1 h2))) kw_Reader_302 kv_Reader_knowNumber 0 5 rfl rfl ⟨by decide, by decide⟩ ⟨by decide, by decide⟩ (wr := [(ow, .inl (y 1, 33, .inr (.inl ww)))]) [0, 1, 2] [3] rfl rfl (by decide) (by decide) (by decide) (As := []) (rest := []) rfl (nb rfl) rfl d_Reader_advance_251 (fun u1025 hu1026 => ?_)
                    have xh1027 := hu1026
                    refine j_ws (ws' := [(ow, .inl (y 1, 33, .inr (.inl ww))), (rd, .inr (5, [.int fa, .int pl, .ref ow, .ref tp, .ref lk, .int (nI cz), .int 2, .int (nI az), .long le, .int wo, .int u1025, .int (nI (tx az))])), (tp, .inr (0, [.ref td, .int (nI k)])), (td, .inl (y 0, 1600, .inl (tby tx)))]) rfl ?_
                    exact j_vret (pc := 254) C hr (cz, az, 2, le, wo, u1025, nI (tx az)) ⟨show cz ≤ k by omega, show az ≤ cz by omega, (by rw [hG693]; exact cl_num (q := az) (e := cz) hq958 (by omega) (fun h => by have h2 := h.2; omega) hg_ (by omega) (fun h => by have h1 := h.1; have h2 := h.2; omega) xh1027 rfl)⟩ [1, 2, 3, 0] rfl (by decide) (by decide) (by decide) d_Reader_advance_254
                  · refine j_icmp_geF (pc := 181) C (tgt := 227) d_Reader_advance_181 (by decide) (show ¬ nI k ≤ nI cz from nI_ge (by omega) (by omega)) ?_
                    refine j_aload_n (pc := 184) C d_Reader_advance_184 rfl 3 rfl ?_
                    refine j_get (pc := 185) C gf_Reader_50 0 rfl rfl d_Reader_advance_185 ?_
                    refine j_iconst (pc := 188) C (v := 3) d_Reader_advance_188 (by decide) ?_
                    refine j_icmp_eqF (pc := 189) C (tgt := 227) d_Reader_advance_189 (by decide) (by decide) ?_
                    refine j_aload_n (pc := 192) C d_Reader_advance_192 rfl 3 rfl ?_
                    refine j_get (pc := 193) C gf_Reader_19 0 rfl rfl d_Reader_advance_193 ?_
                    refine j_get (pc := 196) C gf_Reader_288 1 rfl rfl d_Reader_advance_196 ?_
                    refine j_aload_n (pc := 199) C d_Reader_advance_199 rfl 3 rfl ?_
                    refine j_get (pc := 200) C gf_Reader_47 0 rfl rfl d_Reader_advance_200 ?_
                    have hb1028 : tx cz < 256 := hB cz
                    refine j_iald (pc := 203) C 2 rfl (v := nI (tx cz)) (vp_in_nI (by omega) (by decide)) (by rw [nI_clamp (by omega)]; rfl) d_Reader_advance_203 ?_
                    refine j_callSi (pc := 204) C (c_sortOfF l D y (tx cz) (by omega)) kw_Reader_296 ks_Reader_sortOf ⟨by decide, by decide⟩ ⟨by decide, by decide⟩ (wr := [(rd, .inr (5, [.int fa, .int pl, .ref ow, .ref tp, .ref lk, .int (nI cz), .int 2, .int (nI az), .long le, .int wo, .int nu, .int (nI (tx az))])), (tp, .inr (0, [.ref td, .int (nI k)])), (td, .inl (y 0, 1600, .inl (tby tx))), (ow, .inl (y 1, 33, .inr (.inl ww)))]) [] [0, 1, 2, 3] rfl rfl (by decide) (by decide) (by decide) (As := [.int (nI (tx cz))]) (rest := []) rfl (nb rfl) rfl d_Reader_advance_204 (fun r1029 _ hr1029 => ?_)
                    refine j_ws (ws' := [(rd, .inr (5, [.int fa, .int pl, .ref ow, .ref tp, .ref lk, .int (nI cz), .int 2, .int (nI az), .long le, .int wo, .int nu, .int (nI (tx az))])), (tp, .inr (0, [.ref td, .int (nI k)])), (td, .inl (y 0, 1600, .inl (tby tx))), (ow, .inl (y 1, 33, .inr (.inl ww)))]) rfl ?_
                    rcases hr1029 with ⟨rfl, xh1031⟩ | ⟨rfl, xh1032⟩ | ⟨rfl, xh1033⟩
                    · refine j_aload_n (pc := 207) C d_Reader_advance_207 rfl 3 rfl ?_
                      refine j_get (pc := 208) C gf_Reader_50 0 rfl rfl d_Reader_advance_208 ?_
                      refine j_icmp_neT (pc := 211) C (tgt := 227) d_Reader_advance_211 (by decide) (by decide) ?_
                      refine j_aload_n (pc := 227) C d_Reader_advance_227 rfl 3 rfl ?_
                      refine j_get (pc := 228) C gf_Reader_50 0 rfl rfl d_Reader_advance_228 ?_
                      refine j_iconst (pc := 231) C (v := 1) d_Reader_advance_231 (by decide) ?_
                      refine j_icmp_neT (pc := 232) C (tgt := 242) d_Reader_advance_232 (by decide) (by decide) ?_
                      refine j_aload_n (pc := 242) C d_Reader_advance_242 rfl 3 rfl ?_
                      refine j_get (pc := 243) C gf_Reader_50 0 rfl rfl d_Reader_advance_243 ?_
                      refine j_iconst (pc := 246) C (v := 2) d_Reader_advance_246 (by decide) ?_
                      refine j_icmp_neF (pc := 247) C (tgt := 254) d_Reader_advance_247 (by decide) (by decide) ?_
                      refine j_aload_n (pc := 250) C d_Reader_advance_250 rfl 3 rfl ?_
                      refine j_callVv (pc := 251) C (c_rF_knowNumber l D y rd ow tp lk td fa pl 2 le wo nu (nI (tx az)) cz az k tx he_ (by omega) hk hB (fun i h1 h2 => srt_2' (hg_ i h1 h2))) kw_Reader_302 kv_Reader_knowNumber 0 5 rfl rfl ⟨by decide, by decide⟩ ⟨by decide, by decide⟩ (wr := [(ow, .inl (y 1, 33, .inr (.inl ww)))]) [0, 1, 2] [3] rfl rfl (by decide) (by decide) (by decide) (As := []) (rest := []) rfl (nb rfl) rfl d_Reader_advance_251 (fun u1034 hu1035 => ?_)
                      have xh1036 := hu1035
                      refine j_ws (ws' := [(ow, .inl (y 1, 33, .inr (.inl ww))), (rd, .inr (5, [.int fa, .int pl, .ref ow, .ref tp, .ref lk, .int (nI cz), .int 2, .int (nI az), .long le, .int wo, .int u1034, .int (nI (tx az))])), (tp, .inr (0, [.ref td, .int (nI k)])), (td, .inl (y 0, 1600, .inl (tby tx)))]) rfl ?_
                      exact j_vret (pc := 254) C hr (cz, az, 2, le, wo, u1034, nI (tx az)) ⟨show cz ≤ k by omega, show az ≤ cz by omega, (by rw [hG693]; exact cl_num (q := az) (e := cz) hq958 (by omega) (fun h => by have h2 := h.2; omega) hg_ (by omega) (fun h => by have h1 := h.1; have h2 := h.2; omega) xh1036 rfl)⟩ [1, 2, 3, 0] rfl (by decide) (by decide) (by decide) d_Reader_advance_254
                    · refine j_aload_n (pc := 207) C d_Reader_advance_207 rfl 3 rfl ?_
                      refine j_get (pc := 208) C gf_Reader_50 0 rfl rfl d_Reader_advance_208 ?_
                      refine j_icmp_neF (pc := 211) C (tgt := 227) d_Reader_advance_211 (by decide) (by decide) ?_
                      refine j_aload_n (pc := 214) C d_Reader_advance_214 rfl 3 rfl ?_
                      refine j_dup (pc := 215) C d_Reader_advance_215 rfl ?_
                      refine j_get (pc := 216) C gf_Reader_47 0 rfl rfl d_Reader_advance_216 ?_
                      refine j_iconst (pc := 219) C (v := 1) d_Reader_advance_219 (by decide) ?_
                      refine j_iadd (pc := 220) C (v := nI (cz + 1)) d_Reader_advance_220 (nI_add _ _) ?_
                      refine j_put (pc := 221) C pf_Reader_47 0 (ws' := [(rd, .inr (5, [.int fa, .int pl, .ref ow, .ref tp, .ref lk, .int (nI (cz + 1)), .int 2, .int (nI az), .long le, .int wo, .int nu, .int (nI (tx az))])), (tp, .inr (0, [.ref td, .int (nI k)])), (td, .inl (y 0, 1600, .inl (tby tx))), (ow, .inl (y 1, 33, .inr (.inl ww)))]) rfl rfl rfl (nl rfl) rfl d_Reader_advance_221 ?_
                      refine j_goto (pc := 224) C (tgt := 176) d_Reader_advance_224 (by decide) ?_
                      exact ih1023 ((cz + 1)) ⟨(show az + 1 ≤ (cz + 1) by omega), (show (cz + 1) ≤ k by omega), (fun i h1 h2 => by
                              by_cases e : i = cz
                              · rw [e]; exact xh1032
                              · exact hg_ i h1 (by omega))⟩ (show k - (cz + 1) < k - cz by omega)
                    · refine j_aload_n (pc := 207) C d_Reader_advance_207 rfl 3 rfl ?_
                      refine j_get (pc := 208) C gf_Reader_50 0 rfl rfl d_Reader_advance_208 ?_
                      refine j_icmp_neT (pc := 211) C (tgt := 227) d_Reader_advance_211 (by decide) (by decide) ?_
                      refine j_aload_n (pc := 227) C d_Reader_advance_227 rfl 3 rfl ?_
                      refine j_get (pc := 228) C gf_Reader_50 0 rfl rfl d_Reader_advance_228 ?_
                      refine j_iconst (pc := 231) C (v := 1) d_Reader_advance_231 (by decide) ?_
                      refine j_icmp_neT (pc := 232) C (tgt := 242) d_Reader_advance_232 (by decide) (by decide) ?_
                      refine j_aload_n (pc := 242) C d_Reader_advance_242 rfl 3 rfl ?_
                      refine j_get (pc := 243) C gf_Reader_50 0 rfl rfl d_Reader_advance_243 ?_
                      refine j_iconst (pc := 246) C (v := 2) d_Reader_advance_246 (by decide) ?_
                      refine j_icmp_neF (pc := 247) C (tgt := 254) d_Reader_advance_247 (by decide) (by decide) ?_
                      refine j_aload_n (pc := 250) C d_Reader_advance_250 rfl 3 rfl ?_
                      refine j_callVv (pc := 251) C (c_rF_knowNumber l D y rd ow tp lk td fa pl 2 le wo nu (nI (tx az)) cz az k tx he_ (by omega) hk hB (fun i h1 h2 => srt_2' (hg_ i h1 h2))) kw_Reader_302 kv_Reader_knowNumber 0 5 rfl rfl ⟨by decide, by decide⟩ ⟨by decide, by decide⟩ (wr := [(ow, .inl (y 1, 33, .inr (.inl ww)))]) [0, 1, 2] [3] rfl rfl (by decide) (by decide) (by decide) (As := []) (rest := []) rfl (nb rfl) rfl d_Reader_advance_251 (fun u1037 hu1038 => ?_)
                      have xh1039 := hu1038
                      refine j_ws (ws' := [(ow, .inl (y 1, 33, .inr (.inl ww))), (rd, .inr (5, [.int fa, .int pl, .ref ow, .ref tp, .ref lk, .int (nI cz), .int 2, .int (nI az), .long le, .int wo, .int u1037, .int (nI (tx az))])), (tp, .inr (0, [.ref td, .int (nI k)])), (td, .inl (y 0, 1600, .inl (tby tx)))]) rfl ?_
                      exact j_vret (pc := 254) C hr (cz, az, 2, le, wo, u1037, nI (tx az)) ⟨show cz ≤ k by omega, show az ≤ cz by omega, (by rw [hG693]; exact cl_num (q := az) (e := cz) hq958 (by omega) (fun h => by have h2 := h.2; omega) hg_ (by omega) (fun h => by have h1 := h.1; have h2 := h.2; omega) xh1039 rfl)⟩ [1, 2, 3, 0] rfl (by decide) (by decide) (by decide) d_Reader_advance_254
                · refine j_put (pc := 163) C pf_Reader_50 0 (ws' := [(rd, .inr (5, [.int fa, .int pl, .ref ow, .ref tp, .ref lk, .int (nI az), .int 3, .int (nI az), .long le, .int wo, .int nu, .int (nI (tx az))])), (tp, .inr (0, [.ref td, .int (nI k)])), (td, .inl (y 0, 1600, .inl (tby tx))), (ow, .inl (y 1, 33, .inr (.inl ww)))]) rfl rfl rfl (nl rfl) rfl d_Reader_advance_163 ?_
                  refine j_aload_n (pc := 166) C d_Reader_advance_166 rfl 3 rfl ?_
                  refine j_dup (pc := 167) C d_Reader_advance_167 rfl ?_
                  refine j_get (pc := 168) C gf_Reader_47 0 rfl rfl d_Reader_advance_168 ?_
                  refine j_iconst (pc := 171) C (v := 1) d_Reader_advance_171 (by decide) ?_
                  refine j_iadd (pc := 172) C (v := nI (az + 1)) d_Reader_advance_172 (nI_add _ _) ?_
                  refine j_put (pc := 173) C pf_Reader_47 0 (ws' := [(rd, .inr (5, [.int fa, .int pl, .ref ow, .ref tp, .ref lk, .int (nI (az + 1)), .int 3, .int (nI az), .long le, .int wo, .int nu, .int (nI (tx az))])), (tp, .inr (0, [.ref td, .int (nI k)])), (td, .inl (y 0, 1600, .inl (tby tx))), (ow, .inl (y 1, 33, .inr (.inl ww)))]) rfl rfl rfl (nl rfl) rfl d_Reader_advance_173 ?_
                  refine j_aload_n (pc := 176) C d_Reader_advance_176 rfl 3 rfl ?_
                  refine j_get (pc := 177) C gf_Reader_47 0 rfl rfl d_Reader_advance_177 ?_
                  refine j_iload_n (pc := 180) C d_Reader_advance_180 rfl 0 rfl ?_
                  by_cases c1040 : k ≤ (az + 1)
                  · refine j_icmp_geT (pc := 181) C (tgt := 227) d_Reader_advance_181 (by decide) (show nI k ≤ nI (az + 1) from nI_le (by omega) (by omega)) ?_
                    refine j_aload_n (pc := 227) C d_Reader_advance_227 rfl 3 rfl ?_
                    refine j_get (pc := 228) C gf_Reader_50 0 rfl rfl d_Reader_advance_228 ?_
                    refine j_iconst (pc := 231) C (v := 1) d_Reader_advance_231 (by decide) ?_
                    refine j_icmp_neT (pc := 232) C (tgt := 242) d_Reader_advance_232 (by decide) (by decide) ?_
                    refine j_aload_n (pc := 242) C d_Reader_advance_242 rfl 3 rfl ?_
                    refine j_get (pc := 243) C gf_Reader_50 0 rfl rfl d_Reader_advance_243 ?_
                    refine j_iconst (pc := 246) C (v := 2) d_Reader_advance_246 (by decide) ?_
                    refine j_icmp_neT (pc := 247) C (tgt := 254) d_Reader_advance_247 (by decide) (by decide) ?_
                    exact j_vret (pc := 254) C hr ((az + 1), az, 3, le, wo, nu, nI (tx az)) ⟨show (az + 1) ≤ k by omega, show az ≤ (az + 1) by omega, (by rw [hG693]; exact cl_sign (q := az) hq958 (by omega) (Or.inr xh965) rfl)⟩ [0, 1, 2, 3] rfl (by decide) (by decide) (by decide) d_Reader_advance_254
                  · refine j_icmp_geF (pc := 181) C (tgt := 227) d_Reader_advance_181 (by decide) (show ¬ nI k ≤ nI (az + 1) from nI_ge (by omega) (by omega)) ?_
                    refine j_aload_n (pc := 184) C d_Reader_advance_184 rfl 3 rfl ?_
                    refine j_get (pc := 185) C gf_Reader_50 0 rfl rfl d_Reader_advance_185 ?_
                    refine j_iconst (pc := 188) C (v := 3) d_Reader_advance_188 (by decide) ?_
                    refine j_icmp_eqT (pc := 189) C (tgt := 227) d_Reader_advance_189 (by decide) (by decide) ?_
                    refine j_aload_n (pc := 227) C d_Reader_advance_227 rfl 3 rfl ?_
                    refine j_get (pc := 228) C gf_Reader_50 0 rfl rfl d_Reader_advance_228 ?_
                    refine j_iconst (pc := 231) C (v := 1) d_Reader_advance_231 (by decide) ?_
                    refine j_icmp_neT (pc := 232) C (tgt := 242) d_Reader_advance_232 (by decide) (by decide) ?_
                    refine j_aload_n (pc := 242) C d_Reader_advance_242 rfl 3 rfl ?_
                    refine j_get (pc := 243) C gf_Reader_50 0 rfl rfl d_Reader_advance_243 ?_
                    refine j_iconst (pc := 246) C (v := 2) d_Reader_advance_246 (by decide) ?_
                    refine j_icmp_neT (pc := 247) C (tgt := 254) d_Reader_advance_247 (by decide) (by decide) ?_
                    exact j_vret (pc := 254) C hr ((az + 1), az, 3, le, wo, nu, nI (tx az)) ⟨show (az + 1) ≤ k by omega, show az ≤ (az + 1) by omega, (by rw [hG693]; exact cl_sign (q := az) hq958 (by omega) (Or.inr xh965) rfl)⟩ [0, 1, 2, 3] rfl (by decide) (by decide) (by decide) d_Reader_advance_254
              · refine j_icmp_neF (pc := 149) C (tgt := 156) d_Reader_advance_149 (by decide) (show nI az = nI ra from (nI_eq (by omega) (by omega)).mpr (by omega)) ?_
                refine j_iconst (pc := 152) C (v := 3) d_Reader_advance_152 (by decide) ?_
                refine j_goto (pc := 153) C (tgt := 163) d_Reader_advance_153 (by decide) ?_
                refine j_put (pc := 163) C pf_Reader_50 0 (ws' := [(rd, .inr (5, [.int fa, .int pl, .ref ow, .ref tp, .ref lk, .int (nI az), .int 3, .int (nI az), .long le, .int wo, .int nu, .int (nI (tx az))])), (tp, .inr (0, [.ref td, .int (nI k)])), (td, .inl (y 0, 1600, .inl (tby tx))), (ow, .inl (y 1, 33, .inr (.inl ww)))]) rfl rfl rfl (nl rfl) rfl d_Reader_advance_163 ?_
                refine j_aload_n (pc := 166) C d_Reader_advance_166 rfl 3 rfl ?_
                refine j_dup (pc := 167) C d_Reader_advance_167 rfl ?_
                refine j_get (pc := 168) C gf_Reader_47 0 rfl rfl d_Reader_advance_168 ?_
                refine j_iconst (pc := 171) C (v := 1) d_Reader_advance_171 (by decide) ?_
                refine j_iadd (pc := 172) C (v := nI (az + 1)) d_Reader_advance_172 (nI_add _ _) ?_
                refine j_put (pc := 173) C pf_Reader_47 0 (ws' := [(rd, .inr (5, [.int fa, .int pl, .ref ow, .ref tp, .ref lk, .int (nI (az + 1)), .int 3, .int (nI az), .long le, .int wo, .int nu, .int (nI (tx az))])), (tp, .inr (0, [.ref td, .int (nI k)])), (td, .inl (y 0, 1600, .inl (tby tx))), (ow, .inl (y 1, 33, .inr (.inl ww)))]) rfl rfl rfl (nl rfl) rfl d_Reader_advance_173 ?_
                refine j_aload_n (pc := 176) C d_Reader_advance_176 rfl 3 rfl ?_
                refine j_get (pc := 177) C gf_Reader_47 0 rfl rfl d_Reader_advance_177 ?_
                refine j_iload_n (pc := 180) C d_Reader_advance_180 rfl 0 rfl ?_
                by_cases c1041 : k ≤ (az + 1)
                · refine j_icmp_geT (pc := 181) C (tgt := 227) d_Reader_advance_181 (by decide) (show nI k ≤ nI (az + 1) from nI_le (by omega) (by omega)) ?_
                  refine j_aload_n (pc := 227) C d_Reader_advance_227 rfl 3 rfl ?_
                  refine j_get (pc := 228) C gf_Reader_50 0 rfl rfl d_Reader_advance_228 ?_
                  refine j_iconst (pc := 231) C (v := 1) d_Reader_advance_231 (by decide) ?_
                  refine j_icmp_neT (pc := 232) C (tgt := 242) d_Reader_advance_232 (by decide) (by decide) ?_
                  refine j_aload_n (pc := 242) C d_Reader_advance_242 rfl 3 rfl ?_
                  refine j_get (pc := 243) C gf_Reader_50 0 rfl rfl d_Reader_advance_243 ?_
                  refine j_iconst (pc := 246) C (v := 2) d_Reader_advance_246 (by decide) ?_
                  refine j_icmp_neT (pc := 247) C (tgt := 254) d_Reader_advance_247 (by decide) (by decide) ?_
                  exact j_vret (pc := 254) C hr ((az + 1), az, 3, le, wo, nu, nI (tx az)) ⟨show (az + 1) ≤ k by omega, show az ≤ (az + 1) by omega, (by rw [hG693]; exact cl_sign (q := az) hq958 (by omega) (Or.inl ⟨rfl, by omega⟩) rfl)⟩ [0, 1, 2, 3] rfl (by decide) (by decide) (by decide) d_Reader_advance_254
                · refine j_icmp_geF (pc := 181) C (tgt := 227) d_Reader_advance_181 (by decide) (show ¬ nI k ≤ nI (az + 1) from nI_ge (by omega) (by omega)) ?_
                  refine j_aload_n (pc := 184) C d_Reader_advance_184 rfl 3 rfl ?_
                  refine j_get (pc := 185) C gf_Reader_50 0 rfl rfl d_Reader_advance_185 ?_
                  refine j_iconst (pc := 188) C (v := 3) d_Reader_advance_188 (by decide) ?_
                  refine j_icmp_eqT (pc := 189) C (tgt := 227) d_Reader_advance_189 (by decide) (by decide) ?_
                  refine j_aload_n (pc := 227) C d_Reader_advance_227 rfl 3 rfl ?_
                  refine j_get (pc := 228) C gf_Reader_50 0 rfl rfl d_Reader_advance_228 ?_
                  refine j_iconst (pc := 231) C (v := 1) d_Reader_advance_231 (by decide) ?_
                  refine j_icmp_neT (pc := 232) C (tgt := 242) d_Reader_advance_232 (by decide) (by decide) ?_
                  refine j_aload_n (pc := 242) C d_Reader_advance_242 rfl 3 rfl ?_
                  refine j_get (pc := 243) C gf_Reader_50 0 rfl rfl d_Reader_advance_243 ?_
                  refine j_iconst (pc := 246) C (v := 2) d_Reader_advance_246 (by decide) ?_
                  refine j_icmp_neT (pc := 247) C (tgt := 254) d_Reader_advance_247 (by decide) (by decide) ?_
                  exact j_vret (pc := 254) C hr ((az + 1), az, 3, le, wo, nu, nI (tx az)) ⟨show (az + 1) ≤ k by omega, show az ≤ (az + 1) by omega, (by rw [hG693]; exact cl_sign (q := az) hq958 (by omega) (Or.inl ⟨rfl, by omega⟩) rfl)⟩ [0, 1, 2, 3] rfl (by decide) (by decide) (by decide) d_Reader_advance_254
            · refine j_icmp_ltF (pc := 114) C (tgt := 123) d_Reader_advance_114 (by decide) (show ¬ nI az < nI k from nI_nlt (by omega) (by omega)) ?_
              refine j_aload_n (pc := 117) C d_Reader_advance_117 rfl 3 rfl ?_
              refine j_iconst (pc := 118) C (v := 0) d_Reader_advance_118 (by decide) ?_
              refine j_put (pc := 119) C pf_Reader_50 0 (ws' := [(rd, .inr (5, [.int fa, .int pl, .ref ow, .ref tp, .ref lk, .int (nI az), .int 0, .int (nI az), .long le, .int wo, .int nu, .int si])), (tp, .inr (0, [.ref td, .int (nI k)])), (td, .inl (y 0, 1600, .inl (tby tx))), (ow, .inl (y 1, 33, .inr (.inl ww)))]) rfl rfl rfl (nl rfl) rfl d_Reader_advance_119 ?_
              exact j_vret (pc := 122) C hr (az, az, 0, le, wo, nu, si) ⟨show az ≤ k by omega, show az ≤ az by omega, (by rw [hG693]; exact cl_end (q := az) hq958 (by omega))⟩ [0, 1, 2, 3] rfl (by decide) (by decide) (by decide) d_Reader_advance_122
          · refine j_icmp_neF (pc := 85) C (tgt := 101) d_Reader_advance_85 (by decide) (show nI (tx az) = nI 10 from (nI_eq (by omega) (by omega)).mpr (by omega)) ?_
            refine j_aload_n (pc := 88) C d_Reader_advance_88 rfl 3 rfl ?_
            refine j_dup (pc := 89) C d_Reader_advance_89 rfl ?_
            refine j_get (pc := 90) C gf_Reader_47 0 rfl rfl d_Reader_advance_90 ?_
            refine j_iconst (pc := 93) C (v := 1) d_Reader_advance_93 (by decide) ?_
            refine j_iadd (pc := 94) C (v := nI (az + 1)) d_Reader_advance_94 (nI_add _ _) ?_
            refine j_put (pc := 95) C pf_Reader_47 0 (ws' := [(rd, .inr (5, [.int fa, .int pl, .ref ow, .ref tp, .ref lk, .int (nI (az + 1)), .int so, .int b0, .long le, .int wo, .int nu, .int si])), (tp, .inr (0, [.ref td, .int (nI k)])), (td, .inl (y 0, 1600, .inl (tby tx))), (ow, .inl (y 1, 33, .inr (.inl ww)))]) rfl rfl rfl (nl rfl) rfl d_Reader_advance_95 ?_
            refine j_goto (pc := 98) C (tgt := 46) d_Reader_advance_98 (by decide) ?_
            exact ih868 ((az + 1)) ⟨(show (az + 1) ≤ k by omega), (show ra ≤ (az + 1) by omega), (fun i h1 h2 => by
                    by_cases e : i = az
                    · rw [e]; omega
                    · exact hc_ i h1 (by omega))⟩ (show k - (az + 1) < k - az by omega)
set_option maxHeartbeats 4000000 in
set_option maxRecDepth 100000 in
theorem c_rF_isWord (l : Launch) (D : va_G) (y : Nat → ClassId) (rd : Nat) (ow : Nat) (tp : Nat) (lk : Nat) (fa : Int32) (pl : Int32) (so : Int32) (le : Int64) (wo : Int32) (nu : Int32) (si : Int32) (ra : Nat) (rs : Nat) (k : Nat) (tx : Nat → Nat) (gs : PS) (v : Nat) (hB : ∀ j, tx j < 256) (hg : CR tx k gs fa pl ra rs so le wo nu si) (hv : v < 33) : CT l D y ⟨"NineBoards$Reader", "isWord", "(I)Z"⟩ prog_8_method_23_code 2 (some .boolean) ({ frames := 0, cells := 0, slots := 0, locals := 0 } : Room) [.ref rd, .int (nI v)] [(rd, .inr (5, [.int fa, .int pl, .ref ow, .ref tp, .ref lk, .int (nI ra), .int so, .int (nI rs), .long le, .int wo, .int nu, .int si]))] (QI D [(rd, .inr (5, [.int fa, .int pl, .ref ow, .ref tp, .ref lk, .int (nI ra), .int so, .int (nI rs), .long le, .int wo, .int nu, .int si]))] (fun (r : Int32) (u : Unit) => r = (if iswS tx k v gs = true then 1 else 0)) (fun _ => [(rd, .inr (5, [.int fa, .int pl, .ref ow, .ref tp, .ref lk, .int (nI ra), .int so, .int (nI rs), .long le, .int wo, .int nu, .int si]))])) := by
  refine CT.of (by decide) (nb rfl) ?_
  intro p e s m args below meth c C hr
  refine j_lv (lv' := [(0, .ref rd), (1, .int (nI v))]) rfl ?_
  refine j_aload_n (pc := 0) C d_Reader_isWord_0 rfl 0 rfl ?_
  refine j_get (pc := 1) C gf_Reader_50 0 rfl rfl d_Reader_isWord_1 ?_
  refine j_iconst (pc := 4) C (v := 1) d_Reader_isWord_4 (by decide) ?_
  refine j_icmp_ne (pc := 5) C (tgt := 20) d_Reader_isWord_5 (by decide) (fun c1 => ?_) (fun c1 => ?_)
  · refine j_iconst (pc := 20) C (v := 0) d_Reader_isWord_20 (by decide) ?_
    exact j_iret (pc := 21) C hr (by decide) () (if_neg (fun e => c1 ((cr_isw hg hv).mp e).1)).symm [0] rfl (by decide) (by decide) (by decide) d_Reader_isWord_21
  · refine j_aload_n (pc := 8) C d_Reader_isWord_8 rfl 0 rfl ?_
    refine j_get (pc := 9) C gf_Reader_80 0 rfl rfl d_Reader_isWord_9 ?_
    refine j_iload_n (pc := 12) C d_Reader_isWord_12 rfl 1 rfl ?_
    refine j_icmp_ne (pc := 13) C (tgt := 20) d_Reader_isWord_13 (by decide) (fun c2 => ?_) (fun c2 => ?_)
    · refine j_iconst (pc := 20) C (v := 0) d_Reader_isWord_20 (by decide) ?_
      exact j_iret (pc := 21) C hr (by decide) () (if_neg (fun e => c2 ((cr_isw hg hv).mp e).2)).symm [0] rfl (by decide) (by decide) (by decide) d_Reader_isWord_21
    · refine j_iconst (pc := 16) C (v := 1) d_Reader_isWord_16 (by decide) ?_
      refine j_goto (pc := 17) C (tgt := 21) d_Reader_isWord_17 (by decide) ?_
      exact j_iret (pc := 21) C hr (by decide) () (if_pos ((cr_isw hg hv).mpr ⟨c1, c2⟩)).symm [0] rfl (by decide) (by decide) (by decide) d_Reader_isWord_21
set_option maxHeartbeats 4000000 in
set_option maxRecDepth 100000 in
theorem c_rF_isSign (l : Launch) (D : va_G) (y : Nat → ClassId) (rd : Nat) (ow : Nat) (tp : Nat) (lk : Nat) (fa : Int32) (pl : Int32) (so : Int32) (le : Int64) (wo : Int32) (nu : Int32) (si : Int32) (ra : Nat) (rs : Nat) (k : Nat) (tx : Nat → Nat) (gs : PS) (v : Nat) (hB : ∀ j, tx j < 256) (hg : CR tx k gs fa pl ra rs so le wo nu si) (hv : v < 256) : CT l D y ⟨"NineBoards$Reader", "isSign", "(C)Z"⟩ prog_8_method_24_code 2 (some .boolean) ({ frames := 0, cells := 0, slots := 0, locals := 0 } : Room) [.ref rd, .int (nI v)] [(rd, .inr (5, [.int fa, .int pl, .ref ow, .ref tp, .ref lk, .int (nI ra), .int so, .int (nI rs), .long le, .int wo, .int nu, .int si]))] (QI D [(rd, .inr (5, [.int fa, .int pl, .ref ow, .ref tp, .ref lk, .int (nI ra), .int so, .int (nI rs), .long le, .int wo, .int nu, .int si]))] (fun (r : Int32) (u : Unit) => r = (if issS tx k v gs = true then 1 else 0)) (fun _ => [(rd, .inr (5, [.int fa, .int pl, .ref ow, .ref tp, .ref lk, .int (nI ra), .int so, .int (nI rs), .long le, .int wo, .int nu, .int si]))])) := by
  refine CT.of (by decide) (nb rfl) ?_
  intro p e s m args below meth c C hr
  refine j_lv (lv' := [(0, .ref rd), (1, .int (nI v))]) rfl ?_
  refine j_aload_n (pc := 0) C d_Reader_isSign_0 rfl 0 rfl ?_
  refine j_get (pc := 1) C gf_Reader_50 0 rfl rfl d_Reader_isSign_1 ?_
  refine j_iconst (pc := 4) C (v := 3) d_Reader_isSign_4 (by decide) ?_
  refine j_icmp_ne (pc := 5) C (tgt := 20) d_Reader_isSign_5 (by decide) (fun c1 => ?_) (fun c1 => ?_)
  · refine j_iconst (pc := 20) C (v := 0) d_Reader_isSign_20 (by decide) ?_
    exact j_iret (pc := 21) C hr (by decide) () (if_neg (fun e => c1 ((cr_iss hB hg hv).mp e).1)).symm [0] rfl (by decide) (by decide) (by decide) d_Reader_isSign_21
  · refine j_aload_n (pc := 8) C d_Reader_isSign_8 rfl 0 rfl ?_
    refine j_get (pc := 9) C gf_Reader_272 0 rfl rfl d_Reader_isSign_9 ?_
    refine j_iload_n (pc := 12) C d_Reader_isSign_12 rfl 1 rfl ?_
    refine j_icmp_ne (pc := 13) C (tgt := 20) d_Reader_isSign_13 (by decide) (fun c2 => ?_) (fun c2 => ?_)
    · refine j_iconst (pc := 20) C (v := 0) d_Reader_isSign_20 (by decide) ?_
      exact j_iret (pc := 21) C hr (by decide) () (if_neg (fun e => c2 ((cr_iss hB hg hv).mp e).2)).symm [0] rfl (by decide) (by decide) (by decide) d_Reader_isSign_21
    · refine j_iconst (pc := 16) C (v := 1) d_Reader_isSign_16 (by decide) ?_
      refine j_goto (pc := 17) C (tgt := 21) d_Reader_isSign_17 (by decide) ?_
      exact j_iret (pc := 21) C hr (by decide) () (if_pos ((cr_iss hB hg hv).mpr ⟨c1, c2⟩)).symm [0] rfl (by decide) (by decide) (by decide) d_Reader_isSign_21
set_option maxHeartbeats 4000000 in
set_option maxRecDepth 100000 in
theorem c_rF_readWord (l : Launch) (D : va_G) (y : Nat → ClassId) (rd : Nat) (ow : Nat) (tp : Nat) (lk : Nat) (td : Nat) (fa : Int32) (pl : Int32) (so : Int32) (le : Int64) (wo : Int32) (nu : Int32) (si : Int32) (ra : Nat) (rs : Nat) (k : Nat) (tx : Nat → Nat) (ww : Nat → Int64) (gs : PS) (v : Nat) (ha : ra ≤ k) (hs : rs ≤ ra) (hk : k ≤ 1600) (hB : ∀ j, tx j < 256) (hWW : ∀ w, w < 33 → ww w = nL (pk5 (owf w))) (hg : CR tx k gs fa pl ra rs so le wo nu si) (hv : v < 33) : CT l D y ⟨"NineBoards$Reader", "readWord", "(I)V"⟩ prog_8_method_25_code 2 none ({ frames := 2, cells := 0, slots := 0, locals := 44 } : Room) [.ref rd, .int (nI v)] [(rd, .inr (5, [.int fa, .int pl, .ref ow, .ref tp, .ref lk, .int (nI ra), .int so, .int (nI rs), .long le, .int wo, .int nu, .int si])), (tp, .inr (0, [.ref td, .int (nI k)])), (td, .inl (y 0, 1600, .inl (tby tx))), (ow, .inl (y 1, 33, .inr (.inl ww)))] (QV D [(rd, .inr (5, [.int fa, .int pl, .ref ow, .ref tp, .ref lk, .int (nI ra), .int so, .int (nI rs), .long le, .int wo, .int nu, .int si])), (tp, .inr (0, [.ref td, .int (nI k)])), (td, .inl (y 0, 1600, .inl (tby tx))), (ow, .inl (y 1, 33, .inr (.inl ww)))] (fun (u : Int32 × Int32 × Nat × Nat × Int32 × Int64 × Int32 × Int32 × Int32) => u.2.2.1 ≤ k ∧ u.2.2.2.1 ≤ u.2.2.1 ∧ (u.1 = 0 → fa = 0) ∧ CR tx k (rwS tx k v gs) u.1 u.2.1 u.2.2.1 u.2.2.2.1 u.2.2.2.2.1 u.2.2.2.2.2.1 u.2.2.2.2.2.2.1 u.2.2.2.2.2.2.2.1 u.2.2.2.2.2.2.2.2) (fun u => [(rd, .inr (5, [.int u.1, .int u.2.1, .ref ow, .ref tp, .ref lk, .int (nI u.2.2.1), .int u.2.2.2.2.1, .int (nI u.2.2.2.1), .long u.2.2.2.2.2.1, .int u.2.2.2.2.2.2.1, .int u.2.2.2.2.2.2.2.1, .int u.2.2.2.2.2.2.2.2])), (tp, .inr (0, [.ref td, .int (nI k)])), (td, .inl (y 0, 1600, .inl (tby tx))), (ow, .inl (y 1, 33, .inr (.inl ww)))])) := by
  refine CT.of (by decide) (nb rfl) ?_
  intro p e s m args below meth c C hr
  refine j_lv (lv' := [(0, .ref rd), (1, .int (nI v))]) rfl ?_
  refine j_aload_n (pc := 0) C d_Reader_readWord_0 rfl 0 rfl ?_
  refine j_iload_n (pc := 1) C d_Reader_readWord_1 rfl 1 rfl ?_
  refine j_callVi (pc := 2) C (c_rF_isWord l D y rd ow tp lk fa pl so le wo nu si ra rs k tx gs v hB hg hv) kw_Reader_69 kv_Reader_isWord 0 5 rfl rfl ⟨by decide, by decide⟩ ⟨by decide, by decide⟩ (wr := [(tp, .inr (0, [.ref td, .int (nI k)])), (td, .inl (y 0, 1600, .inl (tby tx))), (ow, .inl (y 1, 33, .inr (.inl ww)))]) [0] [1, 2, 3] rfl rfl (by decide) (by decide) (by decide) (As := [.int (nI v)]) (rest := []) rfl (nb rfl) rfl d_Reader_readWord_2 (fun r1 _ hr1 => ?_)
  refine j_ws (ws' := [(tp, .inr (0, [.ref td, .int (nI k)])), (td, .inl (y 0, 1600, .inl (tby tx))), (ow, .inl (y 1, 33, .inr (.inl ww))), (rd, .inr (5, [.int fa, .int pl, .ref ow, .ref tp, .ref lk, .int (nI ra), .int so, .int (nI rs), .long le, .int wo, .int nu, .int si]))]) rfl ?_
  by_cases g2 : iswS tx k v gs = true
  · rw [if_pos g2] at hr1
    subst hr1
    refine j_if_eqF (pc := 5) C (tgt := 15) d_Reader_readWord_5 (by decide) (by decide) ?_
    refine j_aload_n (pc := 8) C d_Reader_readWord_8 rfl 0 rfl ?_
    refine j_callVv (pc := 9) C (c_rF_advance l D y rd ow tp lk td fa pl so le wo nu si ra k (nI rs) tx ww (srS tx k gs) ha hk hB hWW (cr_so hg) (srS_le _)) kw_Reader_53 kv_Reader_advance 0 5 rfl rfl ⟨by decide, by decide⟩ ⟨by decide, by decide⟩ (wr := []) [3, 0, 1, 2] [] rfl rfl (by decide) (by decide) (by decide) (As := []) (rest := []) rfl (nb rfl) rfl d_Reader_readWord_9 (fun u3 hu4 => ?_)
    obtain ⟨xh5, xh6, xh7⟩ := hu4
    have xh8 : CR tx k (advS tx k gs) fa pl u3.1 u3.2.1 u3.2.2.1 u3.2.2.2.1 u3.2.2.2.2.1 u3.2.2.2.2.2.1 u3.2.2.2.2.2.2 := cr_adv hg (cr_so hg) (srS_le _) xh7
    refine j_ws (ws' := [(rd, .inr (5, [.int fa, .int pl, .ref ow, .ref tp, .ref lk, .int (nI u3.1), .int u3.2.2.1, .int (nI u3.2.1), .long u3.2.2.2.1, .int u3.2.2.2.2.1, .int u3.2.2.2.2.2.1, .int u3.2.2.2.2.2.2])), (tp, .inr (0, [.ref td, .int (nI k)])), (td, .inl (y 0, 1600, .inl (tby tx))), (ow, .inl (y 1, 33, .inr (.inl ww)))]) rfl ?_
    refine j_goto (pc := 12) C (tgt := 24) d_Reader_readWord_12 (by decide) ?_
    exact j_vret (pc := 24) C hr (fa, pl, u3.1, u3.2.1, u3.2.2.1, u3.2.2.2.1, u3.2.2.2.2.1, u3.2.2.2.2.2.1, u3.2.2.2.2.2.2) ⟨(show u3.1 ≤ k by omega), (show u3.2.1 ≤ u3.1 by omega), id, (show CR tx k (rwS tx k v gs) fa pl u3.1 u3.2.1 u3.2.2.1 u3.2.2.2.1 u3.2.2.2.2.1 u3.2.2.2.2.2.1 u3.2.2.2.2.2.2 from (by rw [show rwS tx k v gs = advS tx k gs from if_pos g2]; exact xh8))⟩ [0, 1, 2, 3] rfl (by decide) (by decide) (by decide) d_Reader_readWord_24
  · rw [if_neg g2] at hr1
    subst hr1
    refine j_if_eqT (pc := 5) C (tgt := 15) d_Reader_readWord_5 (by decide) (by decide) ?_
    refine j_aload_n (pc := 15) C d_Reader_readWord_15 rfl 0 rfl ?_
    refine j_iconst (pc := 16) C (v := 1) d_Reader_readWord_16 (by decide) ?_
    refine j_aload_n (pc := 17) C d_Reader_readWord_17 rfl 0 rfl ?_
    refine j_get (pc := 18) C gf_Reader_62 3 rfl rfl d_Reader_readWord_18 ?_
    refine j_callVv (pc := 21) C (c_rF_fail_1 l D y rd ow tp lk td fa pl so le wo nu si ra rs k tx gs rs ha hs hk hg (by omega)) kw_Reader_65 kv_Reader_fail 0 5 rfl rfl ⟨by decide, by decide⟩ ⟨by decide, by decide⟩ (wr := [(td, .inl (y 0, 1600, .inl (tby tx))), (ow, .inl (y 1, 33, .inr (.inl ww)))]) [3, 0] [1, 2] rfl rfl (by decide) (by decide) (by decide) (As := [.int 1, .int (nI rs)]) (rest := []) rfl (nb rfl) rfl d_Reader_readWord_21 (fun u9 hu10 => ?_)
    obtain ⟨xh11, xh12⟩ := hu10
    refine j_ws (ws' := [(td, .inl (y 0, 1600, .inl (tby tx))), (ow, .inl (y 1, 33, .inr (.inl ww))), (rd, .inr (5, [.int u9.1, .int u9.2, .ref ow, .ref tp, .ref lk, .int (nI k), .int 0, .int (nI k), .long le, .int wo, .int nu, .int si])), (tp, .inr (0, [.ref td, .int (nI k)]))]) rfl ?_
    exact j_vret (pc := 24) C hr (u9.1, u9.2, k, k, 0, le, wo, nu, si) ⟨(show k ≤ k by omega), (show k ≤ k by omega), (fun e => absurd e xh11), (show CR tx k (rwS tx k v gs) u9.1 u9.2 k k 0 le wo nu si from (by rw [show rwS tx k v gs = failS 1 (stS tx k gs) gs from if_neg g2, ← cr_f0 hg]; exact xh12))⟩ [2, 3, 0, 1] rfl (by decide) (by decide) (by decide) d_Reader_readWord_24
set_option maxHeartbeats 4000000 in
set_option maxRecDepth 100000 in
theorem c_rF_readSign (l : Launch) (D : va_G) (y : Nat → ClassId) (rd : Nat) (ow : Nat) (tp : Nat) (lk : Nat) (td : Nat) (fa : Int32) (pl : Int32) (so : Int32) (le : Int64) (wo : Int32) (nu : Int32) (si : Int32) (ra : Nat) (rs : Nat) (k : Nat) (tx : Nat → Nat) (ww : Nat → Int64) (gs : PS) (v : Nat) (ha : ra ≤ k) (hs : rs ≤ ra) (hk : k ≤ 1600) (hB : ∀ j, tx j < 256) (hWW : ∀ w, w < 33 → ww w = nL (pk5 (owf w))) (hg : CR tx k gs fa pl ra rs so le wo nu si) (hv : v < 256) : CT l D y ⟨"NineBoards$Reader", "readSign", "(C)V"⟩ prog_8_method_26_code 2 none ({ frames := 2, cells := 0, slots := 0, locals := 44 } : Room) [.ref rd, .int (nI v)] [(rd, .inr (5, [.int fa, .int pl, .ref ow, .ref tp, .ref lk, .int (nI ra), .int so, .int (nI rs), .long le, .int wo, .int nu, .int si])), (tp, .inr (0, [.ref td, .int (nI k)])), (td, .inl (y 0, 1600, .inl (tby tx))), (ow, .inl (y 1, 33, .inr (.inl ww)))] (QV D [(rd, .inr (5, [.int fa, .int pl, .ref ow, .ref tp, .ref lk, .int (nI ra), .int so, .int (nI rs), .long le, .int wo, .int nu, .int si])), (tp, .inr (0, [.ref td, .int (nI k)])), (td, .inl (y 0, 1600, .inl (tby tx))), (ow, .inl (y 1, 33, .inr (.inl ww)))] (fun (u : Int32 × Int32 × Nat × Nat × Int32 × Int64 × Int32 × Int32 × Int32) => u.2.2.1 ≤ k ∧ u.2.2.2.1 ≤ u.2.2.1 ∧ (u.1 = 0 → fa = 0) ∧ CR tx k (rsS tx k v gs) u.1 u.2.1 u.2.2.1 u.2.2.2.1 u.2.2.2.2.1 u.2.2.2.2.2.1 u.2.2.2.2.2.2.1 u.2.2.2.2.2.2.2.1 u.2.2.2.2.2.2.2.2) (fun u => [(rd, .inr (5, [.int u.1, .int u.2.1, .ref ow, .ref tp, .ref lk, .int (nI u.2.2.1), .int u.2.2.2.2.1, .int (nI u.2.2.2.1), .long u.2.2.2.2.2.1, .int u.2.2.2.2.2.2.1, .int u.2.2.2.2.2.2.2.1, .int u.2.2.2.2.2.2.2.2])), (tp, .inr (0, [.ref td, .int (nI k)])), (td, .inl (y 0, 1600, .inl (tby tx))), (ow, .inl (y 1, 33, .inr (.inl ww)))])) := by
  refine CT.of (by decide) (nb rfl) ?_
  intro p e s m args below meth c C hr
  refine j_lv (lv' := [(0, .ref rd), (1, .int (nI v))]) rfl ?_
  refine j_aload_n (pc := 0) C d_Reader_readSign_0 rfl 0 rfl ?_
  refine j_iload_n (pc := 1) C d_Reader_readSign_1 rfl 1 rfl ?_
  refine j_callVi (pc := 2) C (c_rF_isSign l D y rd ow tp lk fa pl so le wo nu si ra rs k tx gs v hB hg hv) kw_Reader_259 kv_Reader_isSign 0 5 rfl rfl ⟨by decide, by decide⟩ ⟨by decide, by decide⟩ (wr := [(tp, .inr (0, [.ref td, .int (nI k)])), (td, .inl (y 0, 1600, .inl (tby tx))), (ow, .inl (y 1, 33, .inr (.inl ww)))]) [0] [1, 2, 3] rfl rfl (by decide) (by decide) (by decide) (As := [.int (nI v)]) (rest := []) rfl (nb rfl) rfl d_Reader_readSign_2 (fun r1 _ hr1 => ?_)
  refine j_ws (ws' := [(tp, .inr (0, [.ref td, .int (nI k)])), (td, .inl (y 0, 1600, .inl (tby tx))), (ow, .inl (y 1, 33, .inr (.inl ww))), (rd, .inr (5, [.int fa, .int pl, .ref ow, .ref tp, .ref lk, .int (nI ra), .int so, .int (nI rs), .long le, .int wo, .int nu, .int si]))]) rfl ?_
  by_cases g2 : issS tx k v gs = true
  · rw [if_pos g2] at hr1
    subst hr1
    refine j_if_eqF (pc := 5) C (tgt := 15) d_Reader_readSign_5 (by decide) (by decide) ?_
    refine j_aload_n (pc := 8) C d_Reader_readSign_8 rfl 0 rfl ?_
    refine j_callVv (pc := 9) C (c_rF_advance l D y rd ow tp lk td fa pl so le wo nu si ra k (nI rs) tx ww (srS tx k gs) ha hk hB hWW (cr_so hg) (srS_le _)) kw_Reader_53 kv_Reader_advance 0 5 rfl rfl ⟨by decide, by decide⟩ ⟨by decide, by decide⟩ (wr := []) [3, 0, 1, 2] [] rfl rfl (by decide) (by decide) (by decide) (As := []) (rest := []) rfl (nb rfl) rfl d_Reader_readSign_9 (fun u3 hu4 => ?_)
    obtain ⟨xh5, xh6, xh7⟩ := hu4
    have xh8 : CR tx k (advS tx k gs) fa pl u3.1 u3.2.1 u3.2.2.1 u3.2.2.2.1 u3.2.2.2.2.1 u3.2.2.2.2.2.1 u3.2.2.2.2.2.2 := cr_adv hg (cr_so hg) (srS_le _) xh7
    refine j_ws (ws' := [(rd, .inr (5, [.int fa, .int pl, .ref ow, .ref tp, .ref lk, .int (nI u3.1), .int u3.2.2.1, .int (nI u3.2.1), .long u3.2.2.2.1, .int u3.2.2.2.2.1, .int u3.2.2.2.2.2.1, .int u3.2.2.2.2.2.2])), (tp, .inr (0, [.ref td, .int (nI k)])), (td, .inl (y 0, 1600, .inl (tby tx))), (ow, .inl (y 1, 33, .inr (.inl ww)))]) rfl ?_
    refine j_goto (pc := 12) C (tgt := 24) d_Reader_readSign_12 (by decide) ?_
    exact j_vret (pc := 24) C hr (fa, pl, u3.1, u3.2.1, u3.2.2.1, u3.2.2.2.1, u3.2.2.2.2.1, u3.2.2.2.2.2.1, u3.2.2.2.2.2.2) ⟨(show u3.1 ≤ k by omega), (show u3.2.1 ≤ u3.1 by omega), id, (show CR tx k (rsS tx k v gs) fa pl u3.1 u3.2.1 u3.2.2.1 u3.2.2.2.1 u3.2.2.2.2.1 u3.2.2.2.2.2.1 u3.2.2.2.2.2.2 from (by rw [show rsS tx k v gs = advS tx k gs from if_pos g2]; exact xh8))⟩ [0, 1, 2, 3] rfl (by decide) (by decide) (by decide) d_Reader_readSign_24
  · rw [if_neg g2] at hr1
    subst hr1
    refine j_if_eqT (pc := 5) C (tgt := 15) d_Reader_readSign_5 (by decide) (by decide) ?_
    refine j_aload_n (pc := 15) C d_Reader_readSign_15 rfl 0 rfl ?_
    refine j_iconst (pc := 16) C (v := 1) d_Reader_readSign_16 (by decide) ?_
    refine j_aload_n (pc := 17) C d_Reader_readSign_17 rfl 0 rfl ?_
    refine j_get (pc := 18) C gf_Reader_62 3 rfl rfl d_Reader_readSign_18 ?_
    refine j_callVv (pc := 21) C (c_rF_fail_1 l D y rd ow tp lk td fa pl so le wo nu si ra rs k tx gs rs ha hs hk hg (by omega)) kw_Reader_65 kv_Reader_fail 0 5 rfl rfl ⟨by decide, by decide⟩ ⟨by decide, by decide⟩ (wr := [(td, .inl (y 0, 1600, .inl (tby tx))), (ow, .inl (y 1, 33, .inr (.inl ww)))]) [3, 0] [1, 2] rfl rfl (by decide) (by decide) (by decide) (As := [.int 1, .int (nI rs)]) (rest := []) rfl (nb rfl) rfl d_Reader_readSign_21 (fun u9 hu10 => ?_)
    obtain ⟨xh11, xh12⟩ := hu10
    refine j_ws (ws' := [(td, .inl (y 0, 1600, .inl (tby tx))), (ow, .inl (y 1, 33, .inr (.inl ww))), (rd, .inr (5, [.int u9.1, .int u9.2, .ref ow, .ref tp, .ref lk, .int (nI k), .int 0, .int (nI k), .long le, .int wo, .int nu, .int si])), (tp, .inr (0, [.ref td, .int (nI k)]))]) rfl ?_
    exact j_vret (pc := 24) C hr (u9.1, u9.2, k, k, 0, le, wo, nu, si) ⟨(show k ≤ k by omega), (show k ≤ k by omega), (fun e => absurd e xh11), (show CR tx k (rsS tx k v gs) u9.1 u9.2 k k 0 le wo nu si from (by rw [show rsS tx k v gs = failS 1 (stS tx k gs) gs from if_neg g2, ← cr_f0 hg]; exact xh12))⟩ [2, 3, 0, 1] rfl (by decide) (by decide) (by decide) d_Reader_readSign_24
set_option maxHeartbeats 4000000 in
set_option maxRecDepth 100000 in
theorem c_rF_readNumber (l : Launch) (D : va_G) (y : Nat → ClassId) (rd : Nat) (ow : Nat) (tp : Nat) (lk : Nat) (td : Nat) (fa : Int32) (pl : Int32) (so : Int32) (le : Int64) (wo : Int32) (nu : Int32) (si : Int32) (ra : Nat) (rs : Nat) (k : Nat) (tx : Nat → Nat) (ww : Nat → Int64) (gs : PS) (lo : Nat) (hi : Nat) (ha : ra ≤ k) (hs : rs ≤ ra) (hk : k ≤ 1600) (hB : ∀ j, tx j < 256) (hWW : ∀ w, w < 33 → ww w = nL (pk5 (owf w))) (hg : CR tx k gs fa pl ra rs so le wo nu si) (hlo : lo ≤ 9999) (hhi : hi ≤ 9999) : CT l D y ⟨"NineBoards$Reader", "readNumber", "(II)I"⟩ prog_8_method_27_code 5 (some .int) ({ frames := 2, cells := 0, slots := 0, locals := 44 } : Room) [.ref rd, .int (nI lo), .int (nI hi)] [(rd, .inr (5, [.int fa, .int pl, .ref ow, .ref tp, .ref lk, .int (nI ra), .int so, .int (nI rs), .long le, .int wo, .int nu, .int si])), (tp, .inr (0, [.ref td, .int (nI k)])), (td, .inl (y 0, 1600, .inl (tby tx))), (ow, .inl (y 1, 33, .inr (.inl ww)))] (QI D [(rd, .inr (5, [.int fa, .int pl, .ref ow, .ref tp, .ref lk, .int (nI ra), .int so, .int (nI rs), .long le, .int wo, .int nu, .int si])), (tp, .inr (0, [.ref td, .int (nI k)])), (td, .inl (y 0, 1600, .inl (tby tx))), (ow, .inl (y 1, 33, .inr (.inl ww)))] (fun (r : Int32) (u : Int32 × Int32 × Nat × Nat × Int32 × Int64 × Int32 × Int32 × Int32) => r = nI (rnV tx k lo hi gs) ∧ u.2.2.1 ≤ k ∧ u.2.2.2.1 ≤ u.2.2.1 ∧ (u.1 = 0 → fa = 0) ∧ CR tx k (rnS tx k lo hi gs) u.1 u.2.1 u.2.2.1 u.2.2.2.1 u.2.2.2.2.1 u.2.2.2.2.2.1 u.2.2.2.2.2.2.1 u.2.2.2.2.2.2.2.1 u.2.2.2.2.2.2.2.2) (fun u => [(rd, .inr (5, [.int u.1, .int u.2.1, .ref ow, .ref tp, .ref lk, .int (nI u.2.2.1), .int u.2.2.2.2.1, .int (nI u.2.2.2.1), .long u.2.2.2.2.2.1, .int u.2.2.2.2.2.2.1, .int u.2.2.2.2.2.2.2.1, .int u.2.2.2.2.2.2.2.2])), (tp, .inr (0, [.ref td, .int (nI k)])), (td, .inl (y 0, 1600, .inl (tby tx))), (ow, .inl (y 1, 33, .inr (.inl ww)))])) := by
  refine CT.of (by decide) (nb rfl) ?_
  intro p e s m args below meth c C hr
  refine j_lv (lv' := [(0, .ref rd), (1, .int (nI lo)), (2, .int (nI hi))]) rfl ?_
  refine j_aload_n (pc := 0) C d_Reader_readNumber_0 rfl 0 rfl ?_
  refine j_get (pc := 1) C gf_Reader_62 0 rfl rfl d_Reader_readNumber_1 ?_
  refine j_istore_n (pc := 4) C (lv' := [(3, .int (nI rs)), (0, .ref rd), (1, .int (nI lo)), (2, .int (nI hi))]) d_Reader_readNumber_4 rfl (by decide) rfl ?_
  refine j_aload_n (pc := 5) C d_Reader_readNumber_5 rfl 1 rfl ?_
  refine j_get (pc := 6) C gf_Reader_275 0 rfl rfl d_Reader_readNumber_6 ?_
  refine j_istore (pc := 9) C (lv' := [(4, .int nu), (3, .int (nI rs)), (0, .ref rd), (1, .int (nI lo)), (2, .int (nI hi))]) d_Reader_readNumber_9 (by decide) rfl ?_
  refine j_aload_n (pc := 11) C d_Reader_readNumber_11 rfl 2 rfl ?_
  refine j_get (pc := 12) C gf_Reader_50 0 rfl rfl d_Reader_readNumber_12 ?_
  refine j_iconst (pc := 15) C (v := 2) d_Reader_readNumber_15 (by decide) ?_
  refine j_icmp_eq (pc := 16) C (tgt := 27) d_Reader_readNumber_16 (by decide) (fun c1 => ?_) (fun c1 => ?_)
  · refine j_aload_n (pc := 27) C d_Reader_readNumber_27 rfl 2 rfl ?_
    refine j_get (pc := 28) C gf_Reader_47 0 rfl rfl d_Reader_readNumber_28 ?_
    refine j_iload_n (pc := 31) C d_Reader_readNumber_31 rfl 1 rfl ?_
    refine j_isub (pc := 32) C (v := nI (ra - rs)) d_Reader_readNumber_32 (pk_sub (by omega)) ?_
    refine j_iconst (pc := 33) C (v := 4) d_Reader_readNumber_33 (by decide) ?_
    by_cases c2 : (ra - rs) ≤ 4
    · refine j_icmp_leT (pc := 34) C (tgt := 47) d_Reader_readNumber_34 (by decide) (show nI (ra - rs) ≤ nI 4 from nI_le (by omega) (by omega)) ?_
      have hN := (cr_isn hg).mpr c1
      obtain ⟨hN1, hN2⟩ := cr_st hg (isn_nz hN)
      have hN4 : ¬ 4 < enS tx k gs - stS tx k gs := by rw [← hN1, ← hN2]; omega
      have hNu := cr_nu hg hN hN4
      have hNt := tvS_lt hN hN4
      subst hNu
      refine j_iload (pc := 47) C d_Reader_readNumber_47 0 rfl ?_
      refine j_iload_n (pc := 49) C d_Reader_readNumber_49 rfl 3 rfl ?_
      by_cases c3 : (tvS tx k gs) < lo
      · refine j_icmp_ltT (pc := 50) C (tgt := 59) d_Reader_readNumber_50 (by decide) (show nI (tvS tx k gs) < nI lo from nI_lt (by omega) (by omega)) ?_
        refine j_aload_n (pc := 59) C d_Reader_readNumber_59 rfl 2 rfl ?_
        refine j_iconst (pc := 60) C (v := 2) d_Reader_readNumber_60 (by decide) ?_
        refine j_iload_n (pc := 61) C d_Reader_readNumber_61 rfl 1 rfl ?_
        refine j_callVv (pc := 62) C (c_rF_fail_2 l D y rd ow tp lk td fa pl so le wo (nI (tvS tx k gs)) si ra rs k tx gs rs ha hs hk hg (by omega)) kw_Reader_65 kv_Reader_fail 0 5 rfl rfl ⟨by decide, by decide⟩ ⟨by decide, by decide⟩ (wr := [(td, .inl (y 0, 1600, .inl (tby tx))), (ow, .inl (y 1, 33, .inr (.inl ww)))]) [0, 1] [2, 3] rfl rfl (by decide) (by decide) (by decide) (As := [.int 2, .int (nI rs)]) (rest := []) rfl (nb rfl) rfl d_Reader_readNumber_62 (fun u4 hu5 => ?_)
        obtain ⟨xh6, xh7⟩ := hu5
        refine j_ws (ws' := [(td, .inl (y 0, 1600, .inl (tby tx))), (ow, .inl (y 1, 33, .inr (.inl ww))), (rd, .inr (5, [.int u4.1, .int u4.2, .ref ow, .ref tp, .ref lk, .int (nI k), .int 0, .int (nI k), .long le, .int wo, .int (nI (tvS tx k gs)), .int si])), (tp, .inr (0, [.ref td, .int (nI k)]))]) rfl ?_
        refine j_iload_n (pc := 65) C d_Reader_readNumber_65 rfl 3 rfl ?_
        exact j_iret (pc := 66) C hr rfl (u4.1, u4.2, k, k, 0, le, wo, nI (tvS tx k gs), si) ⟨(by rw [rnV_o (by omega)]), (show k ≤ k by omega), (show k ≤ k by omega), (fun e => absurd e xh6), (show CR tx k (rnS tx k lo hi gs) u4.1 u4.2 k k 0 le wo (nI (tvS tx k gs)) si from (by rw [rnS_o hN hN4 (by omega), ← cr_f0 hg]; exact xh7))⟩ [2, 3, 0, 1] rfl (by decide) (by decide) (by decide) d_Reader_readNumber_66
      · refine j_icmp_ltF (pc := 50) C (tgt := 59) d_Reader_readNumber_50 (by decide) (show ¬ nI (tvS tx k gs) < nI lo from nI_nlt (by omega) (by omega)) ?_
        refine j_iload (pc := 53) C d_Reader_readNumber_53 0 rfl ?_
        refine j_iload_n (pc := 55) C d_Reader_readNumber_55 rfl 4 rfl ?_
        by_cases c8 : (tvS tx k gs) ≤ hi
        · refine j_icmp_leT (pc := 56) C (tgt := 67) d_Reader_readNumber_56 (by decide) (show nI (tvS tx k gs) ≤ nI hi from nI_le (by omega) (by omega)) ?_
          refine j_aload_n (pc := 67) C d_Reader_readNumber_67 rfl 2 rfl ?_
          refine j_callVv (pc := 68) C (c_rF_advance l D y rd ow tp lk td fa pl so le wo (nI (tvS tx k gs)) si ra k (nI rs) tx ww (srS tx k gs) ha hk hB hWW (cr_so hg) (srS_le _)) kw_Reader_53 kv_Reader_advance 0 5 rfl rfl ⟨by decide, by decide⟩ ⟨by decide, by decide⟩ (wr := []) [0, 1, 2, 3] [] rfl rfl (by decide) (by decide) (by decide) (As := []) (rest := []) rfl (nb rfl) rfl d_Reader_readNumber_68 (fun u9 hu10 => ?_)
          obtain ⟨xh11, xh12, xh13⟩ := hu10
          have xh14 : CR tx k (advS tx k gs) fa pl u9.1 u9.2.1 u9.2.2.1 u9.2.2.2.1 u9.2.2.2.2.1 u9.2.2.2.2.2.1 u9.2.2.2.2.2.2 := cr_adv hg (cr_so hg) (srS_le _) xh13
          refine j_ws (ws' := [(rd, .inr (5, [.int fa, .int pl, .ref ow, .ref tp, .ref lk, .int (nI u9.1), .int u9.2.2.1, .int (nI u9.2.1), .long u9.2.2.2.1, .int u9.2.2.2.2.1, .int u9.2.2.2.2.2.1, .int u9.2.2.2.2.2.2])), (tp, .inr (0, [.ref td, .int (nI k)])), (td, .inl (y 0, 1600, .inl (tby tx))), (ow, .inl (y 1, 33, .inr (.inl ww)))]) rfl ?_
          refine j_iload (pc := 71) C d_Reader_readNumber_71 0 rfl ?_
          exact j_iret (pc := 73) C hr rfl (fa, pl, u9.1, u9.2.1, u9.2.2.1, u9.2.2.2.1, u9.2.2.2.2.1, u9.2.2.2.2.2.1, u9.2.2.2.2.2.2) ⟨(by rw [rnV_k hN hN4 (by omega)]), (show u9.1 ≤ k by omega), (show u9.2.1 ≤ u9.1 by omega), id, (show CR tx k (rnS tx k lo hi gs) fa pl u9.1 u9.2.1 u9.2.2.1 u9.2.2.2.1 u9.2.2.2.2.1 u9.2.2.2.2.2.1 u9.2.2.2.2.2.2 from (by rw [rnS_k hN hN4 (by omega)]; exact xh14))⟩ [0, 1, 2, 3] rfl (by decide) (by decide) (by decide) d_Reader_readNumber_73
        · refine j_icmp_leF (pc := 56) C (tgt := 67) d_Reader_readNumber_56 (by decide) (show ¬ nI (tvS tx k gs) ≤ nI hi from nI_ge (by omega) (by omega)) ?_
          refine j_aload_n (pc := 59) C d_Reader_readNumber_59 rfl 2 rfl ?_
          refine j_iconst (pc := 60) C (v := 2) d_Reader_readNumber_60 (by decide) ?_
          refine j_iload_n (pc := 61) C d_Reader_readNumber_61 rfl 1 rfl ?_
          refine j_callVv (pc := 62) C (c_rF_fail_2 l D y rd ow tp lk td fa pl so le wo (nI (tvS tx k gs)) si ra rs k tx gs rs ha hs hk hg (by omega)) kw_Reader_65 kv_Reader_fail 0 5 rfl rfl ⟨by decide, by decide⟩ ⟨by decide, by decide⟩ (wr := [(td, .inl (y 0, 1600, .inl (tby tx))), (ow, .inl (y 1, 33, .inr (.inl ww)))]) [0, 1] [2, 3] rfl rfl (by decide) (by decide) (by decide) (As := [.int 2, .int (nI rs)]) (rest := []) rfl (nb rfl) rfl d_Reader_readNumber_62 (fun u15 hu16 => ?_)
          obtain ⟨xh17, xh18⟩ := hu16
          refine j_ws (ws' := [(td, .inl (y 0, 1600, .inl (tby tx))), (ow, .inl (y 1, 33, .inr (.inl ww))), (rd, .inr (5, [.int u15.1, .int u15.2, .ref ow, .ref tp, .ref lk, .int (nI k), .int 0, .int (nI k), .long le, .int wo, .int (nI (tvS tx k gs)), .int si])), (tp, .inr (0, [.ref td, .int (nI k)]))]) rfl ?_
          refine j_iload_n (pc := 65) C d_Reader_readNumber_65 rfl 3 rfl ?_
          exact j_iret (pc := 66) C hr rfl (u15.1, u15.2, k, k, 0, le, wo, nI (tvS tx k gs), si) ⟨(by rw [rnV_o (by omega)]), (show k ≤ k by omega), (show k ≤ k by omega), (fun e => absurd e xh17), (show CR tx k (rnS tx k lo hi gs) u15.1 u15.2 k k 0 le wo (nI (tvS tx k gs)) si from (by rw [rnS_o hN hN4 (by omega), ← cr_f0 hg]; exact xh18))⟩ [2, 3, 0, 1] rfl (by decide) (by decide) (by decide) d_Reader_readNumber_66
    · refine j_icmp_leF (pc := 34) C (tgt := 47) d_Reader_readNumber_34 (by decide) (show ¬ nI (ra - rs) ≤ nI 4 from nI_ge (by omega) (by omega)) ?_
      refine j_aload_n (pc := 37) C d_Reader_readNumber_37 rfl 2 rfl ?_
      refine j_iconst (pc := 38) C (v := 1) d_Reader_readNumber_38 (by decide) ?_
      refine j_iload_n (pc := 39) C d_Reader_readNumber_39 rfl 1 rfl ?_
      refine j_iconst (pc := 40) C (v := 4) d_Reader_readNumber_40 (by decide) ?_
      refine j_iadd (pc := 41) C (v := nI (rs + 4)) d_Reader_readNumber_41 (nI_add _ _) ?_
      refine j_callVv (pc := 42) C (c_rF_fail_1 l D y rd ow tp lk td fa pl so le wo nu si ra rs k tx gs (rs + 4) ha hs hk hg (by omega)) kw_Reader_65 kv_Reader_fail 0 5 rfl rfl ⟨by decide, by decide⟩ ⟨by decide, by decide⟩ (wr := [(td, .inl (y 0, 1600, .inl (tby tx))), (ow, .inl (y 1, 33, .inr (.inl ww)))]) [0, 1] [2, 3] rfl rfl (by decide) (by decide) (by decide) (As := [.int 1, .int (nI (rs + 4))]) (rest := []) rfl (nb rfl) rfl d_Reader_readNumber_42 (fun u19 hu20 => ?_)
      obtain ⟨xh21, xh22⟩ := hu20
      refine j_ws (ws' := [(td, .inl (y 0, 1600, .inl (tby tx))), (ow, .inl (y 1, 33, .inr (.inl ww))), (rd, .inr (5, [.int u19.1, .int u19.2, .ref ow, .ref tp, .ref lk, .int (nI k), .int 0, .int (nI k), .long le, .int wo, .int nu, .int si])), (tp, .inr (0, [.ref td, .int (nI k)]))]) rfl ?_
      refine j_iload_n (pc := 45) C d_Reader_readNumber_45 rfl 3 rfl ?_
      exact j_iret (pc := 46) C hr rfl (u19.1, u19.2, k, k, 0, le, wo, nu, si) ⟨(by obtain ⟨hN1, hN2⟩ := cr_st hg (isn_nz ((cr_isn hg).mpr c1)); rw [rnV_l (by rw [← hN1, ← hN2]; omega)]), (show k ≤ k by omega), (show k ≤ k by omega), (fun e => absurd e xh21), (show CR tx k (rnS tx k lo hi gs) u19.1 u19.2 k k 0 le wo nu si from (by obtain ⟨hN1, hN2⟩ := cr_st hg (isn_nz ((cr_isn hg).mpr c1)); rw [rnS_l ((cr_isn hg).mpr c1) (by rw [← hN1, ← hN2]; omega), ← cr_fl hg id]; exact xh22))⟩ [2, 3, 0, 1] rfl (by decide) (by decide) (by decide) d_Reader_readNumber_46
  · refine j_aload_n (pc := 19) C d_Reader_readNumber_19 rfl 2 rfl ?_
    refine j_iconst (pc := 20) C (v := 1) d_Reader_readNumber_20 (by decide) ?_
    refine j_iload_n (pc := 21) C d_Reader_readNumber_21 rfl 1 rfl ?_
    refine j_callVv (pc := 22) C (c_rF_fail_1 l D y rd ow tp lk td fa pl so le wo nu si ra rs k tx gs rs ha hs hk hg (by omega)) kw_Reader_65 kv_Reader_fail 0 5 rfl rfl ⟨by decide, by decide⟩ ⟨by decide, by decide⟩ (wr := [(td, .inl (y 0, 1600, .inl (tby tx))), (ow, .inl (y 1, 33, .inr (.inl ww)))]) [0, 1] [2, 3] rfl rfl (by decide) (by decide) (by decide) (As := [.int 1, .int (nI rs)]) (rest := []) rfl (nb rfl) rfl d_Reader_readNumber_22 (fun u23 hu24 => ?_)
    obtain ⟨xh25, xh26⟩ := hu24
    refine j_ws (ws' := [(td, .inl (y 0, 1600, .inl (tby tx))), (ow, .inl (y 1, 33, .inr (.inl ww))), (rd, .inr (5, [.int u23.1, .int u23.2, .ref ow, .ref tp, .ref lk, .int (nI k), .int 0, .int (nI k), .long le, .int wo, .int nu, .int si])), (tp, .inr (0, [.ref td, .int (nI k)]))]) rfl ?_
    refine j_iload_n (pc := 25) C d_Reader_readNumber_25 rfl 3 rfl ?_
    exact j_iret (pc := 26) C hr rfl (u23.1, u23.2, k, k, 0, le, wo, nu, si) ⟨(by rw [rnV_n (fun e => c1 ((cr_isn hg).mp e))]), (show k ≤ k by omega), (show k ≤ k by omega), (fun e => absurd e xh25), (show CR tx k (rnS tx k lo hi gs) u23.1 u23.2 k k 0 le wo nu si from (by rw [rnS_n (fun e => c1 ((cr_isn hg).mp e)), ← cr_f0 hg]; exact xh26))⟩ [2, 3, 0, 1] rfl (by decide) (by decide) (by decide) d_Reader_readNumber_26
set_option maxHeartbeats 4000000 in
set_option maxRecDepth 100000 in
theorem c_rF_goesDeeper_0 (l : Launch) (D : va_G) (y : Nat → ClassId) (rd : Nat) (ow : Nat) (tp : Nat) (lk : Nat) (td : Nat) (fa : Int32) (pl : Int32) (so : Int32) (le : Int64) (wo : Int32) (nu : Int32) (si : Int32) (ra : Nat) (rs : Nat) (k : Nat) (tx : Nat → Nat) (ww : Nat → Int64) (gs : PS) (ha : ra ≤ k) (hs : rs ≤ ra) (hk : k ≤ 1600) (hB : ∀ j, tx j < 256) (hWW : ∀ w, w < 33 → ww w = nL (pk5 (owf w))) (hg : CR tx k gs fa pl ra rs so le wo nu si) : CT l D y ⟨"NineBoards$Reader", "goesDeeper", "(I)Z"⟩ prog_8_method_22_code 2 (some .boolean) ({ frames := 2, cells := 0, slots := 0, locals := 44 } : Room) [.ref rd, .int 0] [(rd, .inr (5, [.int fa, .int pl, .ref ow, .ref tp, .ref lk, .int (nI ra), .int so, .int (nI rs), .long le, .int wo, .int nu, .int si])), (tp, .inr (0, [.ref td, .int (nI k)])), (td, .inl (y 0, 1600, .inl (tby tx))), (ow, .inl (y 1, 33, .inr (.inl ww)))] (QI D [(rd, .inr (5, [.int fa, .int pl, .ref ow, .ref tp, .ref lk, .int (nI ra), .int so, .int (nI rs), .long le, .int wo, .int nu, .int si])), (tp, .inr (0, [.ref td, .int (nI k)])), (td, .inl (y 0, 1600, .inl (tby tx))), (ow, .inl (y 1, 33, .inr (.inl ww)))] (fun (r : Int32) (u : Int32 × Int32 × Nat × Nat × Int32 × Int64 × Int32 × Int32 × Int32) => r = 1 ∧ u.2.2.1 ≤ k ∧ u.2.2.2.1 ≤ u.2.2.1 ∧ (u.1 = 0 → fa = 0) ∧ CR tx k (advS tx k gs) u.1 u.2.1 u.2.2.1 u.2.2.2.1 u.2.2.2.2.1 u.2.2.2.2.2.1 u.2.2.2.2.2.2.1 u.2.2.2.2.2.2.2.1 u.2.2.2.2.2.2.2.2) (fun u => [(rd, .inr (5, [.int u.1, .int u.2.1, .ref ow, .ref tp, .ref lk, .int (nI u.2.2.1), .int u.2.2.2.2.1, .int (nI u.2.2.2.1), .long u.2.2.2.2.2.1, .int u.2.2.2.2.2.2.1, .int u.2.2.2.2.2.2.2.1, .int u.2.2.2.2.2.2.2.2])), (tp, .inr (0, [.ref td, .int (nI k)])), (td, .inl (y 0, 1600, .inl (tby tx))), (ow, .inl (y 1, 33, .inr (.inl ww)))])) := by
  refine CT.of (by decide) (nb rfl) ?_
  intro p e s m args below meth c C hr
  refine j_lv (lv' := [(0, .ref rd), (1, .int 0)]) rfl ?_
  refine j_iload_n (pc := 0) C d_Reader_goesDeeper_0 rfl 1 rfl ?_
  refine j_bipush (pc := 1) C (v := 6) d_Reader_goesDeeper_1 (by decide) ?_
  refine j_icmp_ltT (pc := 3) C (tgt := 17) d_Reader_goesDeeper_3 (by decide) (by decide) ?_
  refine j_aload_n (pc := 17) C d_Reader_goesDeeper_17 rfl 0 rfl ?_
  refine j_callVv (pc := 18) C (c_rF_advance l D y rd ow tp lk td fa pl so le wo nu si ra k (nI rs) tx ww (srS tx k gs) ha hk hB hWW (cr_so hg) (srS_le _)) kw_Reader_53 kv_Reader_advance 0 5 rfl rfl ⟨by decide, by decide⟩ ⟨by decide, by decide⟩ (wr := []) [0, 1, 2, 3] [] rfl rfl (by decide) (by decide) (by decide) (As := []) (rest := []) rfl (nb rfl) rfl d_Reader_goesDeeper_18 (fun u1 hu2 => ?_)
  obtain ⟨xh3, xh4, xh5⟩ := hu2
  have xh6 : CR tx k (advS tx k gs) fa pl u1.1 u1.2.1 u1.2.2.1 u1.2.2.2.1 u1.2.2.2.2.1 u1.2.2.2.2.2.1 u1.2.2.2.2.2.2 := cr_adv hg (cr_so hg) (srS_le _) xh5
  refine j_ws (ws' := [(rd, .inr (5, [.int fa, .int pl, .ref ow, .ref tp, .ref lk, .int (nI u1.1), .int u1.2.2.1, .int (nI u1.2.1), .long u1.2.2.2.1, .int u1.2.2.2.2.1, .int u1.2.2.2.2.2.1, .int u1.2.2.2.2.2.2])), (tp, .inr (0, [.ref td, .int (nI k)])), (td, .inl (y 0, 1600, .inl (tby tx))), (ow, .inl (y 1, 33, .inr (.inl ww)))]) rfl ?_
  refine j_iconst (pc := 21) C (v := 1) d_Reader_goesDeeper_21 (by decide) ?_
  exact j_iret (pc := 22) C hr (by decide) (fa, pl, u1.1, u1.2.1, u1.2.2.1, u1.2.2.2.1, u1.2.2.2.2.1, u1.2.2.2.2.2.1, u1.2.2.2.2.2.2) ⟨rfl, (show u1.1 ≤ k by omega), (show u1.2.1 ≤ u1.1 by omega), id, (show CR tx k (advS tx k gs) fa pl u1.1 u1.2.1 u1.2.2.1 u1.2.2.2.1 u1.2.2.2.2.1 u1.2.2.2.2.2.1 u1.2.2.2.2.2.2 from xh6)⟩ [0, 1, 2, 3] rfl (by decide) (by decide) (by decide) d_Reader_goesDeeper_22
set_option maxHeartbeats 4000000 in
set_option maxRecDepth 100000 in
theorem c_rF_goesDeeper_1 (l : Launch) (D : va_G) (y : Nat → ClassId) (rd : Nat) (ow : Nat) (tp : Nat) (lk : Nat) (td : Nat) (fa : Int32) (pl : Int32) (so : Int32) (le : Int64) (wo : Int32) (nu : Int32) (si : Int32) (ra : Nat) (rs : Nat) (k : Nat) (tx : Nat → Nat) (ww : Nat → Int64) (gs : PS) (ha : ra ≤ k) (hs : rs ≤ ra) (hk : k ≤ 1600) (hB : ∀ j, tx j < 256) (hWW : ∀ w, w < 33 → ww w = nL (pk5 (owf w))) (hg : CR tx k gs fa pl ra rs so le wo nu si) : CT l D y ⟨"NineBoards$Reader", "goesDeeper", "(I)Z"⟩ prog_8_method_22_code 2 (some .boolean) ({ frames := 2, cells := 0, slots := 0, locals := 44 } : Room) [.ref rd, .int 1] [(rd, .inr (5, [.int fa, .int pl, .ref ow, .ref tp, .ref lk, .int (nI ra), .int so, .int (nI rs), .long le, .int wo, .int nu, .int si])), (tp, .inr (0, [.ref td, .int (nI k)])), (td, .inl (y 0, 1600, .inl (tby tx))), (ow, .inl (y 1, 33, .inr (.inl ww)))] (QI D [(rd, .inr (5, [.int fa, .int pl, .ref ow, .ref tp, .ref lk, .int (nI ra), .int so, .int (nI rs), .long le, .int wo, .int nu, .int si])), (tp, .inr (0, [.ref td, .int (nI k)])), (td, .inl (y 0, 1600, .inl (tby tx))), (ow, .inl (y 1, 33, .inr (.inl ww)))] (fun (r : Int32) (u : Int32 × Int32 × Nat × Nat × Int32 × Int64 × Int32 × Int32 × Int32) => r = 1 ∧ u.2.2.1 ≤ k ∧ u.2.2.2.1 ≤ u.2.2.1 ∧ (u.1 = 0 → fa = 0) ∧ CR tx k (advS tx k gs) u.1 u.2.1 u.2.2.1 u.2.2.2.1 u.2.2.2.2.1 u.2.2.2.2.2.1 u.2.2.2.2.2.2.1 u.2.2.2.2.2.2.2.1 u.2.2.2.2.2.2.2.2) (fun u => [(rd, .inr (5, [.int u.1, .int u.2.1, .ref ow, .ref tp, .ref lk, .int (nI u.2.2.1), .int u.2.2.2.2.1, .int (nI u.2.2.2.1), .long u.2.2.2.2.2.1, .int u.2.2.2.2.2.2.1, .int u.2.2.2.2.2.2.2.1, .int u.2.2.2.2.2.2.2.2])), (tp, .inr (0, [.ref td, .int (nI k)])), (td, .inl (y 0, 1600, .inl (tby tx))), (ow, .inl (y 1, 33, .inr (.inl ww)))])) := by
  refine CT.of (by decide) (nb rfl) ?_
  intro p e s m args below meth c C hr
  refine j_lv (lv' := [(0, .ref rd), (1, .int 1)]) rfl ?_
  refine j_iload_n (pc := 0) C d_Reader_goesDeeper_0 rfl 1 rfl ?_
  refine j_bipush (pc := 1) C (v := 6) d_Reader_goesDeeper_1 (by decide) ?_
  refine j_icmp_ltT (pc := 3) C (tgt := 17) d_Reader_goesDeeper_3 (by decide) (by decide) ?_
  refine j_aload_n (pc := 17) C d_Reader_goesDeeper_17 rfl 0 rfl ?_
  refine j_callVv (pc := 18) C (c_rF_advance l D y rd ow tp lk td fa pl so le wo nu si ra k (nI rs) tx ww (srS tx k gs) ha hk hB hWW (cr_so hg) (srS_le _)) kw_Reader_53 kv_Reader_advance 0 5 rfl rfl ⟨by decide, by decide⟩ ⟨by decide, by decide⟩ (wr := []) [0, 1, 2, 3] [] rfl rfl (by decide) (by decide) (by decide) (As := []) (rest := []) rfl (nb rfl) rfl d_Reader_goesDeeper_18 (fun u1 hu2 => ?_)
  obtain ⟨xh3, xh4, xh5⟩ := hu2
  have xh6 : CR tx k (advS tx k gs) fa pl u1.1 u1.2.1 u1.2.2.1 u1.2.2.2.1 u1.2.2.2.2.1 u1.2.2.2.2.2.1 u1.2.2.2.2.2.2 := cr_adv hg (cr_so hg) (srS_le _) xh5
  refine j_ws (ws' := [(rd, .inr (5, [.int fa, .int pl, .ref ow, .ref tp, .ref lk, .int (nI u1.1), .int u1.2.2.1, .int (nI u1.2.1), .long u1.2.2.2.1, .int u1.2.2.2.2.1, .int u1.2.2.2.2.2.1, .int u1.2.2.2.2.2.2])), (tp, .inr (0, [.ref td, .int (nI k)])), (td, .inl (y 0, 1600, .inl (tby tx))), (ow, .inl (y 1, 33, .inr (.inl ww)))]) rfl ?_
  refine j_iconst (pc := 21) C (v := 1) d_Reader_goesDeeper_21 (by decide) ?_
  exact j_iret (pc := 22) C hr (by decide) (fa, pl, u1.1, u1.2.1, u1.2.2.1, u1.2.2.2.1, u1.2.2.2.2.1, u1.2.2.2.2.2.1, u1.2.2.2.2.2.2) ⟨rfl, (show u1.1 ≤ k by omega), (show u1.2.1 ≤ u1.1 by omega), id, (show CR tx k (advS tx k gs) fa pl u1.1 u1.2.1 u1.2.2.1 u1.2.2.2.1 u1.2.2.2.2.1 u1.2.2.2.2.2.1 u1.2.2.2.2.2.2 from xh6)⟩ [0, 1, 2, 3] rfl (by decide) (by decide) (by decide) d_Reader_goesDeeper_22
set_option maxHeartbeats 4000000 in
set_option maxRecDepth 100000 in
theorem c_rF_goesDeeper_2 (l : Launch) (D : va_G) (y : Nat → ClassId) (rd : Nat) (ow : Nat) (tp : Nat) (lk : Nat) (td : Nat) (fa : Int32) (pl : Int32) (so : Int32) (le : Int64) (wo : Int32) (nu : Int32) (si : Int32) (ra : Nat) (rs : Nat) (k : Nat) (tx : Nat → Nat) (ww : Nat → Int64) (gs : PS) (ha : ra ≤ k) (hs : rs ≤ ra) (hk : k ≤ 1600) (hB : ∀ j, tx j < 256) (hWW : ∀ w, w < 33 → ww w = nL (pk5 (owf w))) (hg : CR tx k gs fa pl ra rs so le wo nu si) : CT l D y ⟨"NineBoards$Reader", "goesDeeper", "(I)Z"⟩ prog_8_method_22_code 2 (some .boolean) ({ frames := 2, cells := 0, slots := 0, locals := 44 } : Room) [.ref rd, .int 2] [(rd, .inr (5, [.int fa, .int pl, .ref ow, .ref tp, .ref lk, .int (nI ra), .int so, .int (nI rs), .long le, .int wo, .int nu, .int si])), (tp, .inr (0, [.ref td, .int (nI k)])), (td, .inl (y 0, 1600, .inl (tby tx))), (ow, .inl (y 1, 33, .inr (.inl ww)))] (QI D [(rd, .inr (5, [.int fa, .int pl, .ref ow, .ref tp, .ref lk, .int (nI ra), .int so, .int (nI rs), .long le, .int wo, .int nu, .int si])), (tp, .inr (0, [.ref td, .int (nI k)])), (td, .inl (y 0, 1600, .inl (tby tx))), (ow, .inl (y 1, 33, .inr (.inl ww)))] (fun (r : Int32) (u : Int32 × Int32 × Nat × Nat × Int32 × Int64 × Int32 × Int32 × Int32) => r = 1 ∧ u.2.2.1 ≤ k ∧ u.2.2.2.1 ≤ u.2.2.1 ∧ (u.1 = 0 → fa = 0) ∧ CR tx k (advS tx k gs) u.1 u.2.1 u.2.2.1 u.2.2.2.1 u.2.2.2.2.1 u.2.2.2.2.2.1 u.2.2.2.2.2.2.1 u.2.2.2.2.2.2.2.1 u.2.2.2.2.2.2.2.2) (fun u => [(rd, .inr (5, [.int u.1, .int u.2.1, .ref ow, .ref tp, .ref lk, .int (nI u.2.2.1), .int u.2.2.2.2.1, .int (nI u.2.2.2.1), .long u.2.2.2.2.2.1, .int u.2.2.2.2.2.2.1, .int u.2.2.2.2.2.2.2.1, .int u.2.2.2.2.2.2.2.2])), (tp, .inr (0, [.ref td, .int (nI k)])), (td, .inl (y 0, 1600, .inl (tby tx))), (ow, .inl (y 1, 33, .inr (.inl ww)))])) := by
  refine CT.of (by decide) (nb rfl) ?_
  intro p e s m args below meth c C hr
  refine j_lv (lv' := [(0, .ref rd), (1, .int 2)]) rfl ?_
  refine j_iload_n (pc := 0) C d_Reader_goesDeeper_0 rfl 1 rfl ?_
  refine j_bipush (pc := 1) C (v := 6) d_Reader_goesDeeper_1 (by decide) ?_
  refine j_icmp_ltT (pc := 3) C (tgt := 17) d_Reader_goesDeeper_3 (by decide) (by decide) ?_
  refine j_aload_n (pc := 17) C d_Reader_goesDeeper_17 rfl 0 rfl ?_
  refine j_callVv (pc := 18) C (c_rF_advance l D y rd ow tp lk td fa pl so le wo nu si ra k (nI rs) tx ww (srS tx k gs) ha hk hB hWW (cr_so hg) (srS_le _)) kw_Reader_53 kv_Reader_advance 0 5 rfl rfl ⟨by decide, by decide⟩ ⟨by decide, by decide⟩ (wr := []) [0, 1, 2, 3] [] rfl rfl (by decide) (by decide) (by decide) (As := []) (rest := []) rfl (nb rfl) rfl d_Reader_goesDeeper_18 (fun u1 hu2 => ?_)
  obtain ⟨xh3, xh4, xh5⟩ := hu2
  have xh6 : CR tx k (advS tx k gs) fa pl u1.1 u1.2.1 u1.2.2.1 u1.2.2.2.1 u1.2.2.2.2.1 u1.2.2.2.2.2.1 u1.2.2.2.2.2.2 := cr_adv hg (cr_so hg) (srS_le _) xh5
  refine j_ws (ws' := [(rd, .inr (5, [.int fa, .int pl, .ref ow, .ref tp, .ref lk, .int (nI u1.1), .int u1.2.2.1, .int (nI u1.2.1), .long u1.2.2.2.1, .int u1.2.2.2.2.1, .int u1.2.2.2.2.2.1, .int u1.2.2.2.2.2.2])), (tp, .inr (0, [.ref td, .int (nI k)])), (td, .inl (y 0, 1600, .inl (tby tx))), (ow, .inl (y 1, 33, .inr (.inl ww)))]) rfl ?_
  refine j_iconst (pc := 21) C (v := 1) d_Reader_goesDeeper_21 (by decide) ?_
  exact j_iret (pc := 22) C hr (by decide) (fa, pl, u1.1, u1.2.1, u1.2.2.1, u1.2.2.2.1, u1.2.2.2.2.1, u1.2.2.2.2.2.1, u1.2.2.2.2.2.2) ⟨rfl, (show u1.1 ≤ k by omega), (show u1.2.1 ≤ u1.1 by omega), id, (show CR tx k (advS tx k gs) fa pl u1.1 u1.2.1 u1.2.2.1 u1.2.2.2.1 u1.2.2.2.2.1 u1.2.2.2.2.2.1 u1.2.2.2.2.2.2 from xh6)⟩ [0, 1, 2, 3] rfl (by decide) (by decide) (by decide) d_Reader_goesDeeper_22
set_option maxHeartbeats 4000000 in
set_option maxRecDepth 100000 in
theorem c_rF_goesDeeper_3 (l : Launch) (D : va_G) (y : Nat → ClassId) (rd : Nat) (ow : Nat) (tp : Nat) (lk : Nat) (td : Nat) (fa : Int32) (pl : Int32) (so : Int32) (le : Int64) (wo : Int32) (nu : Int32) (si : Int32) (ra : Nat) (rs : Nat) (k : Nat) (tx : Nat → Nat) (ww : Nat → Int64) (gs : PS) (ha : ra ≤ k) (hs : rs ≤ ra) (hk : k ≤ 1600) (hB : ∀ j, tx j < 256) (hWW : ∀ w, w < 33 → ww w = nL (pk5 (owf w))) (hg : CR tx k gs fa pl ra rs so le wo nu si) : CT l D y ⟨"NineBoards$Reader", "goesDeeper", "(I)Z"⟩ prog_8_method_22_code 2 (some .boolean) ({ frames := 2, cells := 0, slots := 0, locals := 44 } : Room) [.ref rd, .int 3] [(rd, .inr (5, [.int fa, .int pl, .ref ow, .ref tp, .ref lk, .int (nI ra), .int so, .int (nI rs), .long le, .int wo, .int nu, .int si])), (tp, .inr (0, [.ref td, .int (nI k)])), (td, .inl (y 0, 1600, .inl (tby tx))), (ow, .inl (y 1, 33, .inr (.inl ww)))] (QI D [(rd, .inr (5, [.int fa, .int pl, .ref ow, .ref tp, .ref lk, .int (nI ra), .int so, .int (nI rs), .long le, .int wo, .int nu, .int si])), (tp, .inr (0, [.ref td, .int (nI k)])), (td, .inl (y 0, 1600, .inl (tby tx))), (ow, .inl (y 1, 33, .inr (.inl ww)))] (fun (r : Int32) (u : Int32 × Int32 × Nat × Nat × Int32 × Int64 × Int32 × Int32 × Int32) => r = 1 ∧ u.2.2.1 ≤ k ∧ u.2.2.2.1 ≤ u.2.2.1 ∧ (u.1 = 0 → fa = 0) ∧ CR tx k (advS tx k gs) u.1 u.2.1 u.2.2.1 u.2.2.2.1 u.2.2.2.2.1 u.2.2.2.2.2.1 u.2.2.2.2.2.2.1 u.2.2.2.2.2.2.2.1 u.2.2.2.2.2.2.2.2) (fun u => [(rd, .inr (5, [.int u.1, .int u.2.1, .ref ow, .ref tp, .ref lk, .int (nI u.2.2.1), .int u.2.2.2.2.1, .int (nI u.2.2.2.1), .long u.2.2.2.2.2.1, .int u.2.2.2.2.2.2.1, .int u.2.2.2.2.2.2.2.1, .int u.2.2.2.2.2.2.2.2])), (tp, .inr (0, [.ref td, .int (nI k)])), (td, .inl (y 0, 1600, .inl (tby tx))), (ow, .inl (y 1, 33, .inr (.inl ww)))])) := by
  refine CT.of (by decide) (nb rfl) ?_
  intro p e s m args below meth c C hr
  refine j_lv (lv' := [(0, .ref rd), (1, .int 3)]) rfl ?_
  refine j_iload_n (pc := 0) C d_Reader_goesDeeper_0 rfl 1 rfl ?_
  refine j_bipush (pc := 1) C (v := 6) d_Reader_goesDeeper_1 (by decide) ?_
  refine j_icmp_ltT (pc := 3) C (tgt := 17) d_Reader_goesDeeper_3 (by decide) (by decide) ?_
  refine j_aload_n (pc := 17) C d_Reader_goesDeeper_17 rfl 0 rfl ?_
  refine j_callVv (pc := 18) C (c_rF_advance l D y rd ow tp lk td fa pl so le wo nu si ra k (nI rs) tx ww (srS tx k gs) ha hk hB hWW (cr_so hg) (srS_le _)) kw_Reader_53 kv_Reader_advance 0 5 rfl rfl ⟨by decide, by decide⟩ ⟨by decide, by decide⟩ (wr := []) [0, 1, 2, 3] [] rfl rfl (by decide) (by decide) (by decide) (As := []) (rest := []) rfl (nb rfl) rfl d_Reader_goesDeeper_18 (fun u1 hu2 => ?_)
  obtain ⟨xh3, xh4, xh5⟩ := hu2
  have xh6 : CR tx k (advS tx k gs) fa pl u1.1 u1.2.1 u1.2.2.1 u1.2.2.2.1 u1.2.2.2.2.1 u1.2.2.2.2.2.1 u1.2.2.2.2.2.2 := cr_adv hg (cr_so hg) (srS_le _) xh5
  refine j_ws (ws' := [(rd, .inr (5, [.int fa, .int pl, .ref ow, .ref tp, .ref lk, .int (nI u1.1), .int u1.2.2.1, .int (nI u1.2.1), .long u1.2.2.2.1, .int u1.2.2.2.2.1, .int u1.2.2.2.2.2.1, .int u1.2.2.2.2.2.2])), (tp, .inr (0, [.ref td, .int (nI k)])), (td, .inl (y 0, 1600, .inl (tby tx))), (ow, .inl (y 1, 33, .inr (.inl ww)))]) rfl ?_
  refine j_iconst (pc := 21) C (v := 1) d_Reader_goesDeeper_21 (by decide) ?_
  exact j_iret (pc := 22) C hr (by decide) (fa, pl, u1.1, u1.2.1, u1.2.2.1, u1.2.2.2.1, u1.2.2.2.2.1, u1.2.2.2.2.2.1, u1.2.2.2.2.2.2) ⟨rfl, (show u1.1 ≤ k by omega), (show u1.2.1 ≤ u1.1 by omega), id, (show CR tx k (advS tx k gs) fa pl u1.1 u1.2.1 u1.2.2.1 u1.2.2.2.1 u1.2.2.2.2.1 u1.2.2.2.2.2.1 u1.2.2.2.2.2.2 from xh6)⟩ [0, 1, 2, 3] rfl (by decide) (by decide) (by decide) d_Reader_goesDeeper_22
set_option maxHeartbeats 4000000 in
set_option maxRecDepth 100000 in
theorem c_rF_goesDeeper_4 (l : Launch) (D : va_G) (y : Nat → ClassId) (rd : Nat) (ow : Nat) (tp : Nat) (lk : Nat) (td : Nat) (fa : Int32) (pl : Int32) (so : Int32) (le : Int64) (wo : Int32) (nu : Int32) (si : Int32) (ra : Nat) (rs : Nat) (k : Nat) (tx : Nat → Nat) (ww : Nat → Int64) (gs : PS) (ha : ra ≤ k) (hs : rs ≤ ra) (hk : k ≤ 1600) (hB : ∀ j, tx j < 256) (hWW : ∀ w, w < 33 → ww w = nL (pk5 (owf w))) (hg : CR tx k gs fa pl ra rs so le wo nu si) : CT l D y ⟨"NineBoards$Reader", "goesDeeper", "(I)Z"⟩ prog_8_method_22_code 2 (some .boolean) ({ frames := 2, cells := 0, slots := 0, locals := 44 } : Room) [.ref rd, .int 4] [(rd, .inr (5, [.int fa, .int pl, .ref ow, .ref tp, .ref lk, .int (nI ra), .int so, .int (nI rs), .long le, .int wo, .int nu, .int si])), (tp, .inr (0, [.ref td, .int (nI k)])), (td, .inl (y 0, 1600, .inl (tby tx))), (ow, .inl (y 1, 33, .inr (.inl ww)))] (QI D [(rd, .inr (5, [.int fa, .int pl, .ref ow, .ref tp, .ref lk, .int (nI ra), .int so, .int (nI rs), .long le, .int wo, .int nu, .int si])), (tp, .inr (0, [.ref td, .int (nI k)])), (td, .inl (y 0, 1600, .inl (tby tx))), (ow, .inl (y 1, 33, .inr (.inl ww)))] (fun (r : Int32) (u : Int32 × Int32 × Nat × Nat × Int32 × Int64 × Int32 × Int32 × Int32) => r = 1 ∧ u.2.2.1 ≤ k ∧ u.2.2.2.1 ≤ u.2.2.1 ∧ (u.1 = 0 → fa = 0) ∧ CR tx k (advS tx k gs) u.1 u.2.1 u.2.2.1 u.2.2.2.1 u.2.2.2.2.1 u.2.2.2.2.2.1 u.2.2.2.2.2.2.1 u.2.2.2.2.2.2.2.1 u.2.2.2.2.2.2.2.2) (fun u => [(rd, .inr (5, [.int u.1, .int u.2.1, .ref ow, .ref tp, .ref lk, .int (nI u.2.2.1), .int u.2.2.2.2.1, .int (nI u.2.2.2.1), .long u.2.2.2.2.2.1, .int u.2.2.2.2.2.2.1, .int u.2.2.2.2.2.2.2.1, .int u.2.2.2.2.2.2.2.2])), (tp, .inr (0, [.ref td, .int (nI k)])), (td, .inl (y 0, 1600, .inl (tby tx))), (ow, .inl (y 1, 33, .inr (.inl ww)))])) := by
  refine CT.of (by decide) (nb rfl) ?_
  intro p e s m args below meth c C hr
  refine j_lv (lv' := [(0, .ref rd), (1, .int 4)]) rfl ?_
  refine j_iload_n (pc := 0) C d_Reader_goesDeeper_0 rfl 1 rfl ?_
  refine j_bipush (pc := 1) C (v := 6) d_Reader_goesDeeper_1 (by decide) ?_
  refine j_icmp_ltT (pc := 3) C (tgt := 17) d_Reader_goesDeeper_3 (by decide) (by decide) ?_
  refine j_aload_n (pc := 17) C d_Reader_goesDeeper_17 rfl 0 rfl ?_
  refine j_callVv (pc := 18) C (c_rF_advance l D y rd ow tp lk td fa pl so le wo nu si ra k (nI rs) tx ww (srS tx k gs) ha hk hB hWW (cr_so hg) (srS_le _)) kw_Reader_53 kv_Reader_advance 0 5 rfl rfl ⟨by decide, by decide⟩ ⟨by decide, by decide⟩ (wr := []) [0, 1, 2, 3] [] rfl rfl (by decide) (by decide) (by decide) (As := []) (rest := []) rfl (nb rfl) rfl d_Reader_goesDeeper_18 (fun u1 hu2 => ?_)
  obtain ⟨xh3, xh4, xh5⟩ := hu2
  have xh6 : CR tx k (advS tx k gs) fa pl u1.1 u1.2.1 u1.2.2.1 u1.2.2.2.1 u1.2.2.2.2.1 u1.2.2.2.2.2.1 u1.2.2.2.2.2.2 := cr_adv hg (cr_so hg) (srS_le _) xh5
  refine j_ws (ws' := [(rd, .inr (5, [.int fa, .int pl, .ref ow, .ref tp, .ref lk, .int (nI u1.1), .int u1.2.2.1, .int (nI u1.2.1), .long u1.2.2.2.1, .int u1.2.2.2.2.1, .int u1.2.2.2.2.2.1, .int u1.2.2.2.2.2.2])), (tp, .inr (0, [.ref td, .int (nI k)])), (td, .inl (y 0, 1600, .inl (tby tx))), (ow, .inl (y 1, 33, .inr (.inl ww)))]) rfl ?_
  refine j_iconst (pc := 21) C (v := 1) d_Reader_goesDeeper_21 (by decide) ?_
  exact j_iret (pc := 22) C hr (by decide) (fa, pl, u1.1, u1.2.1, u1.2.2.1, u1.2.2.2.1, u1.2.2.2.2.1, u1.2.2.2.2.2.1, u1.2.2.2.2.2.2) ⟨rfl, (show u1.1 ≤ k by omega), (show u1.2.1 ≤ u1.1 by omega), id, (show CR tx k (advS tx k gs) fa pl u1.1 u1.2.1 u1.2.2.1 u1.2.2.2.1 u1.2.2.2.2.1 u1.2.2.2.2.2.1 u1.2.2.2.2.2.2 from xh6)⟩ [0, 1, 2, 3] rfl (by decide) (by decide) (by decide) d_Reader_goesDeeper_22
set_option maxHeartbeats 4000000 in
set_option maxRecDepth 100000 in
theorem c_rF_goesDeeper_5 (l : Launch) (D : va_G) (y : Nat → ClassId) (rd : Nat) (ow : Nat) (tp : Nat) (lk : Nat) (td : Nat) (fa : Int32) (pl : Int32) (so : Int32) (le : Int64) (wo : Int32) (nu : Int32) (si : Int32) (ra : Nat) (rs : Nat) (k : Nat) (tx : Nat → Nat) (ww : Nat → Int64) (gs : PS) (ha : ra ≤ k) (hs : rs ≤ ra) (hk : k ≤ 1600) (hB : ∀ j, tx j < 256) (hWW : ∀ w, w < 33 → ww w = nL (pk5 (owf w))) (hg : CR tx k gs fa pl ra rs so le wo nu si) : CT l D y ⟨"NineBoards$Reader", "goesDeeper", "(I)Z"⟩ prog_8_method_22_code 2 (some .boolean) ({ frames := 2, cells := 0, slots := 0, locals := 44 } : Room) [.ref rd, .int 5] [(rd, .inr (5, [.int fa, .int pl, .ref ow, .ref tp, .ref lk, .int (nI ra), .int so, .int (nI rs), .long le, .int wo, .int nu, .int si])), (tp, .inr (0, [.ref td, .int (nI k)])), (td, .inl (y 0, 1600, .inl (tby tx))), (ow, .inl (y 1, 33, .inr (.inl ww)))] (QI D [(rd, .inr (5, [.int fa, .int pl, .ref ow, .ref tp, .ref lk, .int (nI ra), .int so, .int (nI rs), .long le, .int wo, .int nu, .int si])), (tp, .inr (0, [.ref td, .int (nI k)])), (td, .inl (y 0, 1600, .inl (tby tx))), (ow, .inl (y 1, 33, .inr (.inl ww)))] (fun (r : Int32) (u : Int32 × Int32 × Nat × Nat × Int32 × Int64 × Int32 × Int32 × Int32) => r = 1 ∧ u.2.2.1 ≤ k ∧ u.2.2.2.1 ≤ u.2.2.1 ∧ (u.1 = 0 → fa = 0) ∧ CR tx k (advS tx k gs) u.1 u.2.1 u.2.2.1 u.2.2.2.1 u.2.2.2.2.1 u.2.2.2.2.2.1 u.2.2.2.2.2.2.1 u.2.2.2.2.2.2.2.1 u.2.2.2.2.2.2.2.2) (fun u => [(rd, .inr (5, [.int u.1, .int u.2.1, .ref ow, .ref tp, .ref lk, .int (nI u.2.2.1), .int u.2.2.2.2.1, .int (nI u.2.2.2.1), .long u.2.2.2.2.2.1, .int u.2.2.2.2.2.2.1, .int u.2.2.2.2.2.2.2.1, .int u.2.2.2.2.2.2.2.2])), (tp, .inr (0, [.ref td, .int (nI k)])), (td, .inl (y 0, 1600, .inl (tby tx))), (ow, .inl (y 1, 33, .inr (.inl ww)))])) := by
  refine CT.of (by decide) (nb rfl) ?_
  intro p e s m args below meth c C hr
  refine j_lv (lv' := [(0, .ref rd), (1, .int 5)]) rfl ?_
  refine j_iload_n (pc := 0) C d_Reader_goesDeeper_0 rfl 1 rfl ?_
  refine j_bipush (pc := 1) C (v := 6) d_Reader_goesDeeper_1 (by decide) ?_
  refine j_icmp_ltT (pc := 3) C (tgt := 17) d_Reader_goesDeeper_3 (by decide) (by decide) ?_
  refine j_aload_n (pc := 17) C d_Reader_goesDeeper_17 rfl 0 rfl ?_
  refine j_callVv (pc := 18) C (c_rF_advance l D y rd ow tp lk td fa pl so le wo nu si ra k (nI rs) tx ww (srS tx k gs) ha hk hB hWW (cr_so hg) (srS_le _)) kw_Reader_53 kv_Reader_advance 0 5 rfl rfl ⟨by decide, by decide⟩ ⟨by decide, by decide⟩ (wr := []) [0, 1, 2, 3] [] rfl rfl (by decide) (by decide) (by decide) (As := []) (rest := []) rfl (nb rfl) rfl d_Reader_goesDeeper_18 (fun u1 hu2 => ?_)
  obtain ⟨xh3, xh4, xh5⟩ := hu2
  have xh6 : CR tx k (advS tx k gs) fa pl u1.1 u1.2.1 u1.2.2.1 u1.2.2.2.1 u1.2.2.2.2.1 u1.2.2.2.2.2.1 u1.2.2.2.2.2.2 := cr_adv hg (cr_so hg) (srS_le _) xh5
  refine j_ws (ws' := [(rd, .inr (5, [.int fa, .int pl, .ref ow, .ref tp, .ref lk, .int (nI u1.1), .int u1.2.2.1, .int (nI u1.2.1), .long u1.2.2.2.1, .int u1.2.2.2.2.1, .int u1.2.2.2.2.2.1, .int u1.2.2.2.2.2.2])), (tp, .inr (0, [.ref td, .int (nI k)])), (td, .inl (y 0, 1600, .inl (tby tx))), (ow, .inl (y 1, 33, .inr (.inl ww)))]) rfl ?_
  refine j_iconst (pc := 21) C (v := 1) d_Reader_goesDeeper_21 (by decide) ?_
  exact j_iret (pc := 22) C hr (by decide) (fa, pl, u1.1, u1.2.1, u1.2.2.1, u1.2.2.2.1, u1.2.2.2.2.1, u1.2.2.2.2.2.1, u1.2.2.2.2.2.2) ⟨rfl, (show u1.1 ≤ k by omega), (show u1.2.1 ≤ u1.1 by omega), id, (show CR tx k (advS tx k gs) fa pl u1.1 u1.2.1 u1.2.2.1 u1.2.2.2.1 u1.2.2.2.2.1 u1.2.2.2.2.2.1 u1.2.2.2.2.2.2 from xh6)⟩ [0, 1, 2, 3] rfl (by decide) (by decide) (by decide) d_Reader_goesDeeper_22
set_option maxHeartbeats 4000000 in
set_option maxRecDepth 100000 in
theorem c_rF_goesDeeper_6 (l : Launch) (D : va_G) (y : Nat → ClassId) (rd : Nat) (ow : Nat) (tp : Nat) (lk : Nat) (td : Nat) (fa : Int32) (pl : Int32) (so : Int32) (le : Int64) (wo : Int32) (nu : Int32) (si : Int32) (ra : Nat) (rs : Nat) (k : Nat) (tx : Nat → Nat) (ww : Nat → Int64) (gs : PS) (ha : ra ≤ k) (hs : rs ≤ ra) (hk : k ≤ 1600) (hB : ∀ j, tx j < 256) (hWW : ∀ w, w < 33 → ww w = nL (pk5 (owf w))) (hg : CR tx k gs fa pl ra rs so le wo nu si) : CT l D y ⟨"NineBoards$Reader", "goesDeeper", "(I)Z"⟩ prog_8_method_22_code 2 (some .boolean) ({ frames := 1, cells := 0, slots := 0, locals := 22 } : Room) [.ref rd, .int 6] [(rd, .inr (5, [.int fa, .int pl, .ref ow, .ref tp, .ref lk, .int (nI ra), .int so, .int (nI rs), .long le, .int wo, .int nu, .int si])), (tp, .inr (0, [.ref td, .int (nI k)])), (td, .inl (y 0, 1600, .inl (tby tx))), (ow, .inl (y 1, 33, .inr (.inl ww)))] (QI D [(rd, .inr (5, [.int fa, .int pl, .ref ow, .ref tp, .ref lk, .int (nI ra), .int so, .int (nI rs), .long le, .int wo, .int nu, .int si])), (tp, .inr (0, [.ref td, .int (nI k)])), (td, .inl (y 0, 1600, .inl (tby tx))), (ow, .inl (y 1, 33, .inr (.inl ww)))] (fun (r : Int32) (u : Int32 × Int32 × Nat × Nat × Int32 × Int64 × Int32 × Int32 × Int32) => r = 0 ∧ u.2.2.1 ≤ k ∧ u.2.2.2.1 ≤ u.2.2.1 ∧ (u.1 = 0 → fa = 0) ∧ CR tx k (failS 4 (stS tx k gs) gs) u.1 u.2.1 u.2.2.1 u.2.2.2.1 u.2.2.2.2.1 u.2.2.2.2.2.1 u.2.2.2.2.2.2.1 u.2.2.2.2.2.2.2.1 u.2.2.2.2.2.2.2.2) (fun u => [(rd, .inr (5, [.int u.1, .int u.2.1, .ref ow, .ref tp, .ref lk, .int (nI u.2.2.1), .int u.2.2.2.2.1, .int (nI u.2.2.2.1), .long u.2.2.2.2.2.1, .int u.2.2.2.2.2.2.1, .int u.2.2.2.2.2.2.2.1, .int u.2.2.2.2.2.2.2.2])), (tp, .inr (0, [.ref td, .int (nI k)])), (td, .inl (y 0, 1600, .inl (tby tx))), (ow, .inl (y 1, 33, .inr (.inl ww)))])) := by
  refine CT.of (by decide) (nb rfl) ?_
  intro p e s m args below meth c C hr
  refine j_lv (lv' := [(0, .ref rd), (1, .int 6)]) rfl ?_
  refine j_iload_n (pc := 0) C d_Reader_goesDeeper_0 rfl 1 rfl ?_
  refine j_bipush (pc := 1) C (v := 6) d_Reader_goesDeeper_1 (by decide) ?_
  refine j_icmp_ltF (pc := 3) C (tgt := 17) d_Reader_goesDeeper_3 (by decide) (by decide) ?_
  refine j_aload_n (pc := 6) C d_Reader_goesDeeper_6 rfl 0 rfl ?_
  refine j_iconst (pc := 7) C (v := 4) d_Reader_goesDeeper_7 (by decide) ?_
  refine j_aload_n (pc := 8) C d_Reader_goesDeeper_8 rfl 0 rfl ?_
  refine j_get (pc := 9) C gf_Reader_62 0 rfl rfl d_Reader_goesDeeper_9 ?_
  refine j_callVv (pc := 12) C (c_rF_fail_4 l D y rd ow tp lk td fa pl so le wo nu si ra rs k tx gs rs ha hs hk hg (by omega)) kw_Reader_65 kv_Reader_fail 0 5 rfl rfl ⟨by decide, by decide⟩ ⟨by decide, by decide⟩ (wr := [(td, .inl (y 0, 1600, .inl (tby tx))), (ow, .inl (y 1, 33, .inr (.inl ww)))]) [0, 1] [2, 3] rfl rfl (by decide) (by decide) (by decide) (As := [.int 4, .int (nI rs)]) (rest := []) rfl (nb rfl) rfl d_Reader_goesDeeper_12 (fun u1 hu2 => ?_)
  obtain ⟨xh3, xh4⟩ := hu2
  refine j_ws (ws' := [(td, .inl (y 0, 1600, .inl (tby tx))), (ow, .inl (y 1, 33, .inr (.inl ww))), (rd, .inr (5, [.int u1.1, .int u1.2, .ref ow, .ref tp, .ref lk, .int (nI k), .int 0, .int (nI k), .long le, .int wo, .int nu, .int si])), (tp, .inr (0, [.ref td, .int (nI k)]))]) rfl ?_
  refine j_iconst (pc := 15) C (v := 0) d_Reader_goesDeeper_15 (by decide) ?_
  exact j_iret (pc := 16) C hr (by decide) (u1.1, u1.2, k, k, 0, le, wo, nu, si) ⟨rfl, (show k ≤ k by omega), (show k ≤ k by omega), (fun e => absurd e xh3), (show CR tx k (failS 4 (stS tx k gs) gs) u1.1 u1.2 k k 0 le wo nu si from (by rw [← cr_f0 hg]; exact xh4))⟩ [2, 3, 0, 1] rfl (by decide) (by decide) (by decide) d_Reader_goesDeeper_16
set_option maxHeartbeats 4000000 in
set_option maxRecDepth 100000 in
theorem c_rF_readKind_9 (l : Launch) (D : va_G) (y : Nat → ClassId) (rd : Nat) (ow : Nat) (tp : Nat) (lk : Nat) (td : Nat) (fa : Int32) (pl : Int32) (so : Int32) (le : Int64) (wo : Int32) (nu : Int32) (si : Int32) (ra : Nat) (rs : Nat) (k : Nat) (tx : Nat → Nat) (ww : Nat → Int64) (gs : PS) (n : Nat) (ha : ra ≤ k) (hs : rs ≤ ra) (hk : k ≤ 1600) (hB : ∀ j, tx j < 256) (hWW : ∀ w, w < 33 → ww w = nL (pk5 (owf w))) (hg : CR tx k gs fa pl ra rs so le wo nu si) (hn : n ≤ 9) : CT l D y ⟨"NineBoards$Reader", "readKind", "(II)Z"⟩ prog_8_method_14_code 3 (some .boolean) ({ frames := 2, cells := 0, slots := 0, locals := 44 } : Room) [.ref rd, .int (nI n), .int 9] [(rd, .inr (5, [.int fa, .int pl, .ref ow, .ref tp, .ref lk, .int (nI ra), .int so, .int (nI rs), .long le, .int wo, .int nu, .int si])), (tp, .inr (0, [.ref td, .int (nI k)])), (td, .inl (y 0, 1600, .inl (tby tx))), (ow, .inl (y 1, 33, .inr (.inl ww)))] (QI D [(rd, .inr (5, [.int fa, .int pl, .ref ow, .ref tp, .ref lk, .int (nI ra), .int so, .int (nI rs), .long le, .int wo, .int nu, .int si])), (tp, .inr (0, [.ref td, .int (nI k)])), (td, .inl (y 0, 1600, .inl (tby tx))), (ow, .inl (y 1, 33, .inr (.inl ww)))] (fun (r : Int32) (u : Int32 × Int32 × Nat × Nat × Int32 × Int64 × Int32 × Int32 × Int32) => u.2.2.1 ≤ k ∧ u.2.2.2.1 ≤ u.2.2.1 ∧ (u.1 = 0 → fa = 0) ∧ CR tx k (kdS tx k 9 n gs) u.1 u.2.1 u.2.2.1 u.2.2.2.1 u.2.2.2.2.1 u.2.2.2.2.2.1 u.2.2.2.2.2.2.1 u.2.2.2.2.2.2.2.1 u.2.2.2.2.2.2.2.2 ∧ (r = 0 ∧ ¬ n < 9 ∨ (r = 1 ∧ n < 9))) (fun u => [(rd, .inr (5, [.int u.1, .int u.2.1, .ref ow, .ref tp, .ref lk, .int (nI u.2.2.1), .int u.2.2.2.2.1, .int (nI u.2.2.2.1), .long u.2.2.2.2.2.1, .int u.2.2.2.2.2.2.1, .int u.2.2.2.2.2.2.2.1, .int u.2.2.2.2.2.2.2.2])), (tp, .inr (0, [.ref td, .int (nI k)])), (td, .inl (y 0, 1600, .inl (tby tx))), (ow, .inl (y 1, 33, .inr (.inl ww)))])) := by
  refine CT.of (by decide) (nb rfl) ?_
  intro p e s m args below meth c C hr
  refine j_lv (lv' := [(0, .ref rd), (1, .int (nI n)), (2, .int 9)]) rfl ?_
  refine j_iload_n (pc := 0) C d_Reader_readKind_0 rfl 1 rfl ?_
  refine j_if_ltF (pc := 1) C (tgt := 9) d_Reader_readKind_1 (by decide) (show ¬ nI n < nI 0 from nI_nlt (by omega) (by omega)) ?_
  refine j_iload_n (pc := 4) C d_Reader_readKind_4 rfl 1 rfl ?_
  refine j_iload_n (pc := 5) C d_Reader_readKind_5 rfl 2 rfl ?_
  by_cases c1 : n < 9
  · refine j_icmp_ltT (pc := 6) C (tgt := 20) d_Reader_readKind_6 (by decide) (show nI n < nI 9 from nI_lt (by omega) (by omega)) ?_
    refine j_aload_n (pc := 20) C d_Reader_readKind_20 rfl 0 rfl ?_
    refine j_callVv (pc := 21) C (c_rF_advance l D y rd ow tp lk td fa pl so le wo nu si ra k (nI rs) tx ww (srS tx k gs) ha hk hB hWW (cr_so hg) (srS_le _)) kw_Reader_53 kv_Reader_advance 0 5 rfl rfl ⟨by decide, by decide⟩ ⟨by decide, by decide⟩ (wr := []) [0, 1, 2, 3] [] rfl rfl (by decide) (by decide) (by decide) (As := []) (rest := []) rfl (nb rfl) rfl d_Reader_readKind_21 (fun u2 hu3 => ?_)
    obtain ⟨xh4, xh5, xh6⟩ := hu3
    have xh7 : CR tx k (advS tx k gs) fa pl u2.1 u2.2.1 u2.2.2.1 u2.2.2.2.1 u2.2.2.2.2.1 u2.2.2.2.2.2.1 u2.2.2.2.2.2.2 := cr_adv hg (cr_so hg) (srS_le _) xh6
    refine j_ws (ws' := [(rd, .inr (5, [.int fa, .int pl, .ref ow, .ref tp, .ref lk, .int (nI u2.1), .int u2.2.2.1, .int (nI u2.2.1), .long u2.2.2.2.1, .int u2.2.2.2.2.1, .int u2.2.2.2.2.2.1, .int u2.2.2.2.2.2.2])), (tp, .inr (0, [.ref td, .int (nI k)])), (td, .inl (y 0, 1600, .inl (tby tx))), (ow, .inl (y 1, 33, .inr (.inl ww)))]) rfl ?_
    refine j_iconst (pc := 24) C (v := 1) d_Reader_readKind_24 (by decide) ?_
    exact j_iret (pc := 25) C hr (by decide) (fa, pl, u2.1, u2.2.1, u2.2.2.1, u2.2.2.2.1, u2.2.2.2.2.1, u2.2.2.2.2.2.1, u2.2.2.2.2.2.2) ⟨(show u2.1 ≤ k by omega), (show u2.2.1 ≤ u2.1 by omega), id, (show CR tx k (kdS tx k 9 n gs) fa pl u2.1 u2.2.1 u2.2.2.1 u2.2.2.2.1 u2.2.2.2.2.1 u2.2.2.2.2.2.1 u2.2.2.2.2.2.2 from (by rw [show kdS tx k 9 n gs = advS tx k gs from if_pos (by omega)]; exact xh7)), (Or.inr ⟨rfl, show n < 9 by omega⟩)⟩ [0, 1, 2, 3] rfl (by decide) (by decide) (by decide) d_Reader_readKind_25
  · refine j_icmp_ltF (pc := 6) C (tgt := 20) d_Reader_readKind_6 (by decide) (show ¬ nI n < nI 9 from nI_nlt (by omega) (by omega)) ?_
    refine j_aload_n (pc := 9) C d_Reader_readKind_9 rfl 0 rfl ?_
    refine j_iconst (pc := 10) C (v := 5) d_Reader_readKind_10 (by decide) ?_
    refine j_aload_n (pc := 11) C d_Reader_readKind_11 rfl 0 rfl ?_
    refine j_get (pc := 12) C gf_Reader_62 0 rfl rfl d_Reader_readKind_12 ?_
    refine j_callVv (pc := 15) C (c_rF_fail_5 l D y rd ow tp lk td fa pl so le wo nu si ra rs k tx gs rs ha hs hk hg (by omega)) kw_Reader_65 kv_Reader_fail 0 5 rfl rfl ⟨by decide, by decide⟩ ⟨by decide, by decide⟩ (wr := [(td, .inl (y 0, 1600, .inl (tby tx))), (ow, .inl (y 1, 33, .inr (.inl ww)))]) [0, 1] [2, 3] rfl rfl (by decide) (by decide) (by decide) (As := [.int 5, .int (nI rs)]) (rest := []) rfl (nb rfl) rfl d_Reader_readKind_15 (fun u8 hu9 => ?_)
    obtain ⟨xh10, xh11⟩ := hu9
    refine j_ws (ws' := [(td, .inl (y 0, 1600, .inl (tby tx))), (ow, .inl (y 1, 33, .inr (.inl ww))), (rd, .inr (5, [.int u8.1, .int u8.2, .ref ow, .ref tp, .ref lk, .int (nI k), .int 0, .int (nI k), .long le, .int wo, .int nu, .int si])), (tp, .inr (0, [.ref td, .int (nI k)]))]) rfl ?_
    refine j_iconst (pc := 18) C (v := 0) d_Reader_readKind_18 (by decide) ?_
    exact j_iret (pc := 19) C hr (by decide) (u8.1, u8.2, k, k, 0, le, wo, nu, si) ⟨(show k ≤ k by omega), (show k ≤ k by omega), (fun e => absurd e xh10), (show CR tx k (kdS tx k 9 n gs) u8.1 u8.2 k k 0 le wo nu si from (by rw [show kdS tx k 9 n gs = failS 5 (stS tx k gs) gs from if_neg (by omega), ← cr_f0 hg]; exact xh11)), (Or.inl ⟨rfl, show ¬ n < 9 by omega⟩)⟩ [2, 3, 0, 1] rfl (by decide) (by decide) (by decide) d_Reader_readKind_19
set_option maxHeartbeats 4000000 in
set_option maxRecDepth 100000 in
theorem c_rF_readKind_6 (l : Launch) (D : va_G) (y : Nat → ClassId) (rd : Nat) (ow : Nat) (tp : Nat) (lk : Nat) (td : Nat) (fa : Int32) (pl : Int32) (so : Int32) (le : Int64) (wo : Int32) (nu : Int32) (si : Int32) (ra : Nat) (rs : Nat) (k : Nat) (tx : Nat → Nat) (ww : Nat → Int64) (gs : PS) (n : Nat) (ha : ra ≤ k) (hs : rs ≤ ra) (hk : k ≤ 1600) (hB : ∀ j, tx j < 256) (hWW : ∀ w, w < 33 → ww w = nL (pk5 (owf w))) (hg : CR tx k gs fa pl ra rs so le wo nu si) (hn : n ≤ 6) : CT l D y ⟨"NineBoards$Reader", "readKind", "(II)Z"⟩ prog_8_method_14_code 3 (some .boolean) ({ frames := 2, cells := 0, slots := 0, locals := 44 } : Room) [.ref rd, .int (nI n), .int 6] [(rd, .inr (5, [.int fa, .int pl, .ref ow, .ref tp, .ref lk, .int (nI ra), .int so, .int (nI rs), .long le, .int wo, .int nu, .int si])), (tp, .inr (0, [.ref td, .int (nI k)])), (td, .inl (y 0, 1600, .inl (tby tx))), (ow, .inl (y 1, 33, .inr (.inl ww)))] (QI D [(rd, .inr (5, [.int fa, .int pl, .ref ow, .ref tp, .ref lk, .int (nI ra), .int so, .int (nI rs), .long le, .int wo, .int nu, .int si])), (tp, .inr (0, [.ref td, .int (nI k)])), (td, .inl (y 0, 1600, .inl (tby tx))), (ow, .inl (y 1, 33, .inr (.inl ww)))] (fun (r : Int32) (u : Int32 × Int32 × Nat × Nat × Int32 × Int64 × Int32 × Int32 × Int32) => u.2.2.1 ≤ k ∧ u.2.2.2.1 ≤ u.2.2.1 ∧ (u.1 = 0 → fa = 0) ∧ CR tx k (kdS tx k 6 n gs) u.1 u.2.1 u.2.2.1 u.2.2.2.1 u.2.2.2.2.1 u.2.2.2.2.2.1 u.2.2.2.2.2.2.1 u.2.2.2.2.2.2.2.1 u.2.2.2.2.2.2.2.2 ∧ (r = 0 ∧ ¬ n < 6 ∨ (r = 1 ∧ n < 6))) (fun u => [(rd, .inr (5, [.int u.1, .int u.2.1, .ref ow, .ref tp, .ref lk, .int (nI u.2.2.1), .int u.2.2.2.2.1, .int (nI u.2.2.2.1), .long u.2.2.2.2.2.1, .int u.2.2.2.2.2.2.1, .int u.2.2.2.2.2.2.2.1, .int u.2.2.2.2.2.2.2.2])), (tp, .inr (0, [.ref td, .int (nI k)])), (td, .inl (y 0, 1600, .inl (tby tx))), (ow, .inl (y 1, 33, .inr (.inl ww)))])) := by
  refine CT.of (by decide) (nb rfl) ?_
  intro p e s m args below meth c C hr
  refine j_lv (lv' := [(0, .ref rd), (1, .int (nI n)), (2, .int 6)]) rfl ?_
  refine j_iload_n (pc := 0) C d_Reader_readKind_0 rfl 1 rfl ?_
  refine j_if_ltF (pc := 1) C (tgt := 9) d_Reader_readKind_1 (by decide) (show ¬ nI n < nI 0 from nI_nlt (by omega) (by omega)) ?_
  refine j_iload_n (pc := 4) C d_Reader_readKind_4 rfl 1 rfl ?_
  refine j_iload_n (pc := 5) C d_Reader_readKind_5 rfl 2 rfl ?_
  by_cases c1 : n < 6
  · refine j_icmp_ltT (pc := 6) C (tgt := 20) d_Reader_readKind_6 (by decide) (show nI n < nI 6 from nI_lt (by omega) (by omega)) ?_
    refine j_aload_n (pc := 20) C d_Reader_readKind_20 rfl 0 rfl ?_
    refine j_callVv (pc := 21) C (c_rF_advance l D y rd ow tp lk td fa pl so le wo nu si ra k (nI rs) tx ww (srS tx k gs) ha hk hB hWW (cr_so hg) (srS_le _)) kw_Reader_53 kv_Reader_advance 0 5 rfl rfl ⟨by decide, by decide⟩ ⟨by decide, by decide⟩ (wr := []) [0, 1, 2, 3] [] rfl rfl (by decide) (by decide) (by decide) (As := []) (rest := []) rfl (nb rfl) rfl d_Reader_readKind_21 (fun u2 hu3 => ?_)
    obtain ⟨xh4, xh5, xh6⟩ := hu3
    have xh7 : CR tx k (advS tx k gs) fa pl u2.1 u2.2.1 u2.2.2.1 u2.2.2.2.1 u2.2.2.2.2.1 u2.2.2.2.2.2.1 u2.2.2.2.2.2.2 := cr_adv hg (cr_so hg) (srS_le _) xh6
    refine j_ws (ws' := [(rd, .inr (5, [.int fa, .int pl, .ref ow, .ref tp, .ref lk, .int (nI u2.1), .int u2.2.2.1, .int (nI u2.2.1), .long u2.2.2.2.1, .int u2.2.2.2.2.1, .int u2.2.2.2.2.2.1, .int u2.2.2.2.2.2.2])), (tp, .inr (0, [.ref td, .int (nI k)])), (td, .inl (y 0, 1600, .inl (tby tx))), (ow, .inl (y 1, 33, .inr (.inl ww)))]) rfl ?_
    refine j_iconst (pc := 24) C (v := 1) d_Reader_readKind_24 (by decide) ?_
    exact j_iret (pc := 25) C hr (by decide) (fa, pl, u2.1, u2.2.1, u2.2.2.1, u2.2.2.2.1, u2.2.2.2.2.1, u2.2.2.2.2.2.1, u2.2.2.2.2.2.2) ⟨(show u2.1 ≤ k by omega), (show u2.2.1 ≤ u2.1 by omega), id, (show CR tx k (kdS tx k 6 n gs) fa pl u2.1 u2.2.1 u2.2.2.1 u2.2.2.2.1 u2.2.2.2.2.1 u2.2.2.2.2.2.1 u2.2.2.2.2.2.2 from (by rw [show kdS tx k 6 n gs = advS tx k gs from if_pos (by omega)]; exact xh7)), (Or.inr ⟨rfl, show n < 6 by omega⟩)⟩ [0, 1, 2, 3] rfl (by decide) (by decide) (by decide) d_Reader_readKind_25
  · refine j_icmp_ltF (pc := 6) C (tgt := 20) d_Reader_readKind_6 (by decide) (show ¬ nI n < nI 6 from nI_nlt (by omega) (by omega)) ?_
    refine j_aload_n (pc := 9) C d_Reader_readKind_9 rfl 0 rfl ?_
    refine j_iconst (pc := 10) C (v := 5) d_Reader_readKind_10 (by decide) ?_
    refine j_aload_n (pc := 11) C d_Reader_readKind_11 rfl 0 rfl ?_
    refine j_get (pc := 12) C gf_Reader_62 0 rfl rfl d_Reader_readKind_12 ?_
    refine j_callVv (pc := 15) C (c_rF_fail_5 l D y rd ow tp lk td fa pl so le wo nu si ra rs k tx gs rs ha hs hk hg (by omega)) kw_Reader_65 kv_Reader_fail 0 5 rfl rfl ⟨by decide, by decide⟩ ⟨by decide, by decide⟩ (wr := [(td, .inl (y 0, 1600, .inl (tby tx))), (ow, .inl (y 1, 33, .inr (.inl ww)))]) [0, 1] [2, 3] rfl rfl (by decide) (by decide) (by decide) (As := [.int 5, .int (nI rs)]) (rest := []) rfl (nb rfl) rfl d_Reader_readKind_15 (fun u8 hu9 => ?_)
    obtain ⟨xh10, xh11⟩ := hu9
    refine j_ws (ws' := [(td, .inl (y 0, 1600, .inl (tby tx))), (ow, .inl (y 1, 33, .inr (.inl ww))), (rd, .inr (5, [.int u8.1, .int u8.2, .ref ow, .ref tp, .ref lk, .int (nI k), .int 0, .int (nI k), .long le, .int wo, .int nu, .int si])), (tp, .inr (0, [.ref td, .int (nI k)]))]) rfl ?_
    refine j_iconst (pc := 18) C (v := 0) d_Reader_readKind_18 (by decide) ?_
    exact j_iret (pc := 19) C hr (by decide) (u8.1, u8.2, k, k, 0, le, wo, nu, si) ⟨(show k ≤ k by omega), (show k ≤ k by omega), (fun e => absurd e xh10), (show CR tx k (kdS tx k 6 n gs) u8.1 u8.2 k k 0 le wo nu si from (by rw [show kdS tx k 6 n gs = failS 5 (stS tx k gs) gs from if_neg (by omega), ← cr_f0 hg]; exact xh11)), (Or.inl ⟨rfl, show ¬ n < 6 by omega⟩)⟩ [2, 3, 0, 1] rfl (by decide) (by decide) (by decide) d_Reader_readKind_19
set_option maxHeartbeats 4000000 in
set_option maxRecDepth 100000 in
theorem c_rF_readKind_16 (l : Launch) (D : va_G) (y : Nat → ClassId) (rd : Nat) (ow : Nat) (tp : Nat) (lk : Nat) (td : Nat) (fa : Int32) (pl : Int32) (so : Int32) (le : Int64) (wo : Int32) (nu : Int32) (si : Int32) (ra : Nat) (rs : Nat) (k : Nat) (tx : Nat → Nat) (ww : Nat → Int64) (gs : PS) (n : Nat) (ha : ra ≤ k) (hs : rs ≤ ra) (hk : k ≤ 1600) (hB : ∀ j, tx j < 256) (hWW : ∀ w, w < 33 → ww w = nL (pk5 (owf w))) (hg : CR tx k gs fa pl ra rs so le wo nu si) (hn : n ≤ 16) : CT l D y ⟨"NineBoards$Reader", "readKind", "(II)Z"⟩ prog_8_method_14_code 3 (some .boolean) ({ frames := 2, cells := 0, slots := 0, locals := 44 } : Room) [.ref rd, .int (nI n), .int 16] [(rd, .inr (5, [.int fa, .int pl, .ref ow, .ref tp, .ref lk, .int (nI ra), .int so, .int (nI rs), .long le, .int wo, .int nu, .int si])), (tp, .inr (0, [.ref td, .int (nI k)])), (td, .inl (y 0, 1600, .inl (tby tx))), (ow, .inl (y 1, 33, .inr (.inl ww)))] (QI D [(rd, .inr (5, [.int fa, .int pl, .ref ow, .ref tp, .ref lk, .int (nI ra), .int so, .int (nI rs), .long le, .int wo, .int nu, .int si])), (tp, .inr (0, [.ref td, .int (nI k)])), (td, .inl (y 0, 1600, .inl (tby tx))), (ow, .inl (y 1, 33, .inr (.inl ww)))] (fun (r : Int32) (u : Int32 × Int32 × Nat × Nat × Int32 × Int64 × Int32 × Int32 × Int32) => u.2.2.1 ≤ k ∧ u.2.2.2.1 ≤ u.2.2.1 ∧ (u.1 = 0 → fa = 0) ∧ CR tx k (kdS tx k 16 n gs) u.1 u.2.1 u.2.2.1 u.2.2.2.1 u.2.2.2.2.1 u.2.2.2.2.2.1 u.2.2.2.2.2.2.1 u.2.2.2.2.2.2.2.1 u.2.2.2.2.2.2.2.2 ∧ (r = 0 ∧ ¬ n < 16 ∨ (r = 1 ∧ n < 16))) (fun u => [(rd, .inr (5, [.int u.1, .int u.2.1, .ref ow, .ref tp, .ref lk, .int (nI u.2.2.1), .int u.2.2.2.2.1, .int (nI u.2.2.2.1), .long u.2.2.2.2.2.1, .int u.2.2.2.2.2.2.1, .int u.2.2.2.2.2.2.2.1, .int u.2.2.2.2.2.2.2.2])), (tp, .inr (0, [.ref td, .int (nI k)])), (td, .inl (y 0, 1600, .inl (tby tx))), (ow, .inl (y 1, 33, .inr (.inl ww)))])) := by
  refine CT.of (by decide) (nb rfl) ?_
  intro p e s m args below meth c C hr
  refine j_lv (lv' := [(0, .ref rd), (1, .int (nI n)), (2, .int 16)]) rfl ?_
  refine j_iload_n (pc := 0) C d_Reader_readKind_0 rfl 1 rfl ?_
  refine j_if_ltF (pc := 1) C (tgt := 9) d_Reader_readKind_1 (by decide) (show ¬ nI n < nI 0 from nI_nlt (by omega) (by omega)) ?_
  refine j_iload_n (pc := 4) C d_Reader_readKind_4 rfl 1 rfl ?_
  refine j_iload_n (pc := 5) C d_Reader_readKind_5 rfl 2 rfl ?_
  by_cases c1 : n < 16
  · refine j_icmp_ltT (pc := 6) C (tgt := 20) d_Reader_readKind_6 (by decide) (show nI n < nI 16 from nI_lt (by omega) (by omega)) ?_
    refine j_aload_n (pc := 20) C d_Reader_readKind_20 rfl 0 rfl ?_
    refine j_callVv (pc := 21) C (c_rF_advance l D y rd ow tp lk td fa pl so le wo nu si ra k (nI rs) tx ww (srS tx k gs) ha hk hB hWW (cr_so hg) (srS_le _)) kw_Reader_53 kv_Reader_advance 0 5 rfl rfl ⟨by decide, by decide⟩ ⟨by decide, by decide⟩ (wr := []) [0, 1, 2, 3] [] rfl rfl (by decide) (by decide) (by decide) (As := []) (rest := []) rfl (nb rfl) rfl d_Reader_readKind_21 (fun u2 hu3 => ?_)
    obtain ⟨xh4, xh5, xh6⟩ := hu3
    have xh7 : CR tx k (advS tx k gs) fa pl u2.1 u2.2.1 u2.2.2.1 u2.2.2.2.1 u2.2.2.2.2.1 u2.2.2.2.2.2.1 u2.2.2.2.2.2.2 := cr_adv hg (cr_so hg) (srS_le _) xh6
    refine j_ws (ws' := [(rd, .inr (5, [.int fa, .int pl, .ref ow, .ref tp, .ref lk, .int (nI u2.1), .int u2.2.2.1, .int (nI u2.2.1), .long u2.2.2.2.1, .int u2.2.2.2.2.1, .int u2.2.2.2.2.2.1, .int u2.2.2.2.2.2.2])), (tp, .inr (0, [.ref td, .int (nI k)])), (td, .inl (y 0, 1600, .inl (tby tx))), (ow, .inl (y 1, 33, .inr (.inl ww)))]) rfl ?_
    refine j_iconst (pc := 24) C (v := 1) d_Reader_readKind_24 (by decide) ?_
    exact j_iret (pc := 25) C hr (by decide) (fa, pl, u2.1, u2.2.1, u2.2.2.1, u2.2.2.2.1, u2.2.2.2.2.1, u2.2.2.2.2.2.1, u2.2.2.2.2.2.2) ⟨(show u2.1 ≤ k by omega), (show u2.2.1 ≤ u2.1 by omega), id, (show CR tx k (kdS tx k 16 n gs) fa pl u2.1 u2.2.1 u2.2.2.1 u2.2.2.2.1 u2.2.2.2.2.1 u2.2.2.2.2.2.1 u2.2.2.2.2.2.2 from (by rw [show kdS tx k 16 n gs = advS tx k gs from if_pos (by omega)]; exact xh7)), (Or.inr ⟨rfl, show n < 16 by omega⟩)⟩ [0, 1, 2, 3] rfl (by decide) (by decide) (by decide) d_Reader_readKind_25
  · refine j_icmp_ltF (pc := 6) C (tgt := 20) d_Reader_readKind_6 (by decide) (show ¬ nI n < nI 16 from nI_nlt (by omega) (by omega)) ?_
    refine j_aload_n (pc := 9) C d_Reader_readKind_9 rfl 0 rfl ?_
    refine j_iconst (pc := 10) C (v := 5) d_Reader_readKind_10 (by decide) ?_
    refine j_aload_n (pc := 11) C d_Reader_readKind_11 rfl 0 rfl ?_
    refine j_get (pc := 12) C gf_Reader_62 0 rfl rfl d_Reader_readKind_12 ?_
    refine j_callVv (pc := 15) C (c_rF_fail_5 l D y rd ow tp lk td fa pl so le wo nu si ra rs k tx gs rs ha hs hk hg (by omega)) kw_Reader_65 kv_Reader_fail 0 5 rfl rfl ⟨by decide, by decide⟩ ⟨by decide, by decide⟩ (wr := [(td, .inl (y 0, 1600, .inl (tby tx))), (ow, .inl (y 1, 33, .inr (.inl ww)))]) [0, 1] [2, 3] rfl rfl (by decide) (by decide) (by decide) (As := [.int 5, .int (nI rs)]) (rest := []) rfl (nb rfl) rfl d_Reader_readKind_15 (fun u8 hu9 => ?_)
    obtain ⟨xh10, xh11⟩ := hu9
    refine j_ws (ws' := [(td, .inl (y 0, 1600, .inl (tby tx))), (ow, .inl (y 1, 33, .inr (.inl ww))), (rd, .inr (5, [.int u8.1, .int u8.2, .ref ow, .ref tp, .ref lk, .int (nI k), .int 0, .int (nI k), .long le, .int wo, .int nu, .int si])), (tp, .inr (0, [.ref td, .int (nI k)]))]) rfl ?_
    refine j_iconst (pc := 18) C (v := 0) d_Reader_readKind_18 (by decide) ?_
    exact j_iret (pc := 19) C hr (by decide) (u8.1, u8.2, k, k, 0, le, wo, nu, si) ⟨(show k ≤ k by omega), (show k ≤ k by omega), (fun e => absurd e xh10), (show CR tx k (kdS tx k 16 n gs) u8.1 u8.2 k k 0 le wo nu si from (by rw [show kdS tx k 16 n gs = failS 5 (stS tx k gs) gs from if_neg (by omega), ← cr_f0 hg]; exact xh11)), (Or.inl ⟨rfl, show ¬ n < 16 by omega⟩)⟩ [2, 3, 0, 1] rfl (by decide) (by decide) (by decide) d_Reader_readKind_19
set_option maxHeartbeats 4000000 in
set_option maxRecDepth 100000 in
theorem c_rF_readKind_8 (l : Launch) (D : va_G) (y : Nat → ClassId) (rd : Nat) (ow : Nat) (tp : Nat) (lk : Nat) (td : Nat) (fa : Int32) (pl : Int32) (so : Int32) (le : Int64) (wo : Int32) (nu : Int32) (si : Int32) (ra : Nat) (rs : Nat) (k : Nat) (tx : Nat → Nat) (ww : Nat → Int64) (gs : PS) (n : Nat) (ha : ra ≤ k) (hs : rs ≤ ra) (hk : k ≤ 1600) (hB : ∀ j, tx j < 256) (hWW : ∀ w, w < 33 → ww w = nL (pk5 (owf w))) (hg : CR tx k gs fa pl ra rs so le wo nu si) (hn : n ≤ 8) : CT l D y ⟨"NineBoards$Reader", "readKind", "(II)Z"⟩ prog_8_method_14_code 3 (some .boolean) ({ frames := 2, cells := 0, slots := 0, locals := 44 } : Room) [.ref rd, .int (nI n), .int 8] [(rd, .inr (5, [.int fa, .int pl, .ref ow, .ref tp, .ref lk, .int (nI ra), .int so, .int (nI rs), .long le, .int wo, .int nu, .int si])), (tp, .inr (0, [.ref td, .int (nI k)])), (td, .inl (y 0, 1600, .inl (tby tx))), (ow, .inl (y 1, 33, .inr (.inl ww)))] (QI D [(rd, .inr (5, [.int fa, .int pl, .ref ow, .ref tp, .ref lk, .int (nI ra), .int so, .int (nI rs), .long le, .int wo, .int nu, .int si])), (tp, .inr (0, [.ref td, .int (nI k)])), (td, .inl (y 0, 1600, .inl (tby tx))), (ow, .inl (y 1, 33, .inr (.inl ww)))] (fun (r : Int32) (u : Int32 × Int32 × Nat × Nat × Int32 × Int64 × Int32 × Int32 × Int32) => u.2.2.1 ≤ k ∧ u.2.2.2.1 ≤ u.2.2.1 ∧ (u.1 = 0 → fa = 0) ∧ CR tx k (kdS tx k 8 n gs) u.1 u.2.1 u.2.2.1 u.2.2.2.1 u.2.2.2.2.1 u.2.2.2.2.2.1 u.2.2.2.2.2.2.1 u.2.2.2.2.2.2.2.1 u.2.2.2.2.2.2.2.2 ∧ (r = 0 ∧ ¬ n < 8 ∨ (r = 1 ∧ n < 8))) (fun u => [(rd, .inr (5, [.int u.1, .int u.2.1, .ref ow, .ref tp, .ref lk, .int (nI u.2.2.1), .int u.2.2.2.2.1, .int (nI u.2.2.2.1), .long u.2.2.2.2.2.1, .int u.2.2.2.2.2.2.1, .int u.2.2.2.2.2.2.2.1, .int u.2.2.2.2.2.2.2.2])), (tp, .inr (0, [.ref td, .int (nI k)])), (td, .inl (y 0, 1600, .inl (tby tx))), (ow, .inl (y 1, 33, .inr (.inl ww)))])) := by
  refine CT.of (by decide) (nb rfl) ?_
  intro p e s m args below meth c C hr
  refine j_lv (lv' := [(0, .ref rd), (1, .int (nI n)), (2, .int 8)]) rfl ?_
  refine j_iload_n (pc := 0) C d_Reader_readKind_0 rfl 1 rfl ?_
  refine j_if_ltF (pc := 1) C (tgt := 9) d_Reader_readKind_1 (by decide) (show ¬ nI n < nI 0 from nI_nlt (by omega) (by omega)) ?_
  refine j_iload_n (pc := 4) C d_Reader_readKind_4 rfl 1 rfl ?_
  refine j_iload_n (pc := 5) C d_Reader_readKind_5 rfl 2 rfl ?_
  by_cases c1 : n < 8
  · refine j_icmp_ltT (pc := 6) C (tgt := 20) d_Reader_readKind_6 (by decide) (show nI n < nI 8 from nI_lt (by omega) (by omega)) ?_
    refine j_aload_n (pc := 20) C d_Reader_readKind_20 rfl 0 rfl ?_
    refine j_callVv (pc := 21) C (c_rF_advance l D y rd ow tp lk td fa pl so le wo nu si ra k (nI rs) tx ww (srS tx k gs) ha hk hB hWW (cr_so hg) (srS_le _)) kw_Reader_53 kv_Reader_advance 0 5 rfl rfl ⟨by decide, by decide⟩ ⟨by decide, by decide⟩ (wr := []) [0, 1, 2, 3] [] rfl rfl (by decide) (by decide) (by decide) (As := []) (rest := []) rfl (nb rfl) rfl d_Reader_readKind_21 (fun u2 hu3 => ?_)
    obtain ⟨xh4, xh5, xh6⟩ := hu3
    have xh7 : CR tx k (advS tx k gs) fa pl u2.1 u2.2.1 u2.2.2.1 u2.2.2.2.1 u2.2.2.2.2.1 u2.2.2.2.2.2.1 u2.2.2.2.2.2.2 := cr_adv hg (cr_so hg) (srS_le _) xh6
    refine j_ws (ws' := [(rd, .inr (5, [.int fa, .int pl, .ref ow, .ref tp, .ref lk, .int (nI u2.1), .int u2.2.2.1, .int (nI u2.2.1), .long u2.2.2.2.1, .int u2.2.2.2.2.1, .int u2.2.2.2.2.2.1, .int u2.2.2.2.2.2.2])), (tp, .inr (0, [.ref td, .int (nI k)])), (td, .inl (y 0, 1600, .inl (tby tx))), (ow, .inl (y 1, 33, .inr (.inl ww)))]) rfl ?_
    refine j_iconst (pc := 24) C (v := 1) d_Reader_readKind_24 (by decide) ?_
    exact j_iret (pc := 25) C hr (by decide) (fa, pl, u2.1, u2.2.1, u2.2.2.1, u2.2.2.2.1, u2.2.2.2.2.1, u2.2.2.2.2.2.1, u2.2.2.2.2.2.2) ⟨(show u2.1 ≤ k by omega), (show u2.2.1 ≤ u2.1 by omega), id, (show CR tx k (kdS tx k 8 n gs) fa pl u2.1 u2.2.1 u2.2.2.1 u2.2.2.2.1 u2.2.2.2.2.1 u2.2.2.2.2.2.1 u2.2.2.2.2.2.2 from (by rw [show kdS tx k 8 n gs = advS tx k gs from if_pos (by omega)]; exact xh7)), (Or.inr ⟨rfl, show n < 8 by omega⟩)⟩ [0, 1, 2, 3] rfl (by decide) (by decide) (by decide) d_Reader_readKind_25
  · refine j_icmp_ltF (pc := 6) C (tgt := 20) d_Reader_readKind_6 (by decide) (show ¬ nI n < nI 8 from nI_nlt (by omega) (by omega)) ?_
    refine j_aload_n (pc := 9) C d_Reader_readKind_9 rfl 0 rfl ?_
    refine j_iconst (pc := 10) C (v := 5) d_Reader_readKind_10 (by decide) ?_
    refine j_aload_n (pc := 11) C d_Reader_readKind_11 rfl 0 rfl ?_
    refine j_get (pc := 12) C gf_Reader_62 0 rfl rfl d_Reader_readKind_12 ?_
    refine j_callVv (pc := 15) C (c_rF_fail_5 l D y rd ow tp lk td fa pl so le wo nu si ra rs k tx gs rs ha hs hk hg (by omega)) kw_Reader_65 kv_Reader_fail 0 5 rfl rfl ⟨by decide, by decide⟩ ⟨by decide, by decide⟩ (wr := [(td, .inl (y 0, 1600, .inl (tby tx))), (ow, .inl (y 1, 33, .inr (.inl ww)))]) [0, 1] [2, 3] rfl rfl (by decide) (by decide) (by decide) (As := [.int 5, .int (nI rs)]) (rest := []) rfl (nb rfl) rfl d_Reader_readKind_15 (fun u8 hu9 => ?_)
    obtain ⟨xh10, xh11⟩ := hu9
    refine j_ws (ws' := [(td, .inl (y 0, 1600, .inl (tby tx))), (ow, .inl (y 1, 33, .inr (.inl ww))), (rd, .inr (5, [.int u8.1, .int u8.2, .ref ow, .ref tp, .ref lk, .int (nI k), .int 0, .int (nI k), .long le, .int wo, .int nu, .int si])), (tp, .inr (0, [.ref td, .int (nI k)]))]) rfl ?_
    refine j_iconst (pc := 18) C (v := 0) d_Reader_readKind_18 (by decide) ?_
    exact j_iret (pc := 19) C hr (by decide) (u8.1, u8.2, k, k, 0, le, wo, nu, si) ⟨(show k ≤ k by omega), (show k ≤ k by omega), (fun e => absurd e xh10), (show CR tx k (kdS tx k 8 n gs) u8.1 u8.2 k k 0 le wo nu si from (by rw [show kdS tx k 8 n gs = failS 5 (stS tx k gs) gs from if_neg (by omega), ← cr_f0 hg]; exact xh11)), (Or.inl ⟨rfl, show ¬ n < 8 by omega⟩)⟩ [2, 3, 0, 1] rfl (by decide) (by decide) (by decide) d_Reader_readKind_19
set_option maxHeartbeats 4000000 in
set_option maxRecDepth 100000 in
theorem c_rF_readName (l : Launch) (D : va_G) (y : Nat → ClassId) (rd : Nat) (ow : Nat) (tp : Nat) (lk : Nat) (td : Nat) (fa : Int32) (pl : Int32) (so : Int32) (le : Int64) (wo : Int32) (nu : Int32) (si : Int32) (ra : Nat) (rs : Nat) (k : Nat) (tx : Nat → Nat) (ww : Nat → Int64) (gs : PS) (ha : ra ≤ k) (hs : rs ≤ ra) (hk : k ≤ 1600) (hB : ∀ j, tx j < 256) (hWW : ∀ w, w < 33 → ww w = nL (pk5 (owf w))) (hg : CR tx k gs fa pl ra rs so le wo nu si) : CT l D y ⟨"NineBoards$Reader", "readName", "()I"⟩ prog_8_method_28_code 2 (some .int) ({ frames := 2, cells := 0, slots := 0, locals := 44 } : Room) [.ref rd] [(rd, .inr (5, [.int fa, .int pl, .ref ow, .ref tp, .ref lk, .int (nI ra), .int so, .int (nI rs), .long le, .int wo, .int nu, .int si])), (tp, .inr (0, [.ref td, .int (nI k)])), (td, .inl (y 0, 1600, .inl (tby tx))), (ow, .inl (y 1, 33, .inr (.inl ww)))] (QI D [(rd, .inr (5, [.int fa, .int pl, .ref ow, .ref tp, .ref lk, .int (nI ra), .int so, .int (nI rs), .long le, .int wo, .int nu, .int si])), (tp, .inr (0, [.ref td, .int (nI k)])), (td, .inl (y 0, 1600, .inl (tby tx))), (ow, .inl (y 1, 33, .inr (.inl ww)))] (fun (r : Int32) (u : Int32 × Int32 × Nat × Nat × Int32 × Int64 × Int32 × Int32 × Int32) => r = rmV tx k gs ∧ u.2.2.1 ≤ k ∧ u.2.2.2.1 ≤ u.2.2.1 ∧ (u.1 = 0 → fa = 0) ∧ CR tx k (rmS tx k gs) u.1 u.2.1 u.2.2.1 u.2.2.2.1 u.2.2.2.2.1 u.2.2.2.2.2.1 u.2.2.2.2.2.2.1 u.2.2.2.2.2.2.2.1 u.2.2.2.2.2.2.2.2) (fun u => [(rd, .inr (5, [.int u.1, .int u.2.1, .ref ow, .ref tp, .ref lk, .int (nI u.2.2.1), .int u.2.2.2.2.1, .int (nI u.2.2.2.1), .long u.2.2.2.2.2.1, .int u.2.2.2.2.2.2.1, .int u.2.2.2.2.2.2.2.1, .int u.2.2.2.2.2.2.2.2])), (tp, .inr (0, [.ref td, .int (nI k)])), (td, .inl (y 0, 1600, .inl (tby tx))), (ow, .inl (y 1, 33, .inr (.inl ww)))])) := by
  refine CT.of (by decide) (nb rfl) ?_
  intro p e s m args below meth c C hr
  refine j_lv (lv' := [(0, .ref rd)]) rfl ?_
  refine j_aload_n (pc := 0) C d_Reader_readName_0 rfl 0 rfl ?_
  refine j_get (pc := 1) C gf_Reader_50 0 rfl rfl d_Reader_readName_1 ?_
  refine j_iconst (pc := 4) C (v := 1) d_Reader_readName_4 (by decide) ?_
  refine j_icmp_ne (pc := 5) C (tgt := 16) d_Reader_readName_5 (by decide) (fun c1 => ?_) (fun c1 => ?_)
  · refine j_aload_n (pc := 16) C d_Reader_readName_16 rfl 0 rfl ?_
    refine j_iconst (pc := 17) C (v := 1) d_Reader_readName_17 (by decide) ?_
    refine j_aload_n (pc := 18) C d_Reader_readName_18 rfl 0 rfl ?_
    refine j_get (pc := 19) C gf_Reader_62 0 rfl rfl d_Reader_readName_19 ?_
    refine j_callVv (pc := 22) C (c_rF_fail_1 l D y rd ow tp lk td fa pl so le wo nu si ra rs k tx gs rs ha hs hk hg (by omega)) kw_Reader_65 kv_Reader_fail 0 5 rfl rfl ⟨by decide, by decide⟩ ⟨by decide, by decide⟩ (wr := [(td, .inl (y 0, 1600, .inl (tby tx))), (ow, .inl (y 1, 33, .inr (.inl ww)))]) [0, 1] [2, 3] rfl rfl (by decide) (by decide) (by decide) (As := [.int 1, .int (nI rs)]) (rest := []) rfl (nb rfl) rfl d_Reader_readName_22 (fun u2 hu3 => ?_)
    obtain ⟨xh4, xh5⟩ := hu3
    refine j_ws (ws' := [(td, .inl (y 0, 1600, .inl (tby tx))), (ow, .inl (y 1, 33, .inr (.inl ww))), (rd, .inr (5, [.int u2.1, .int u2.2, .ref ow, .ref tp, .ref lk, .int (nI k), .int 0, .int (nI k), .long le, .int wo, .int nu, .int si])), (tp, .inr (0, [.ref td, .int (nI k)]))]) rfl ?_
    refine j_iconst (pc := 25) C (v := (-1)) d_Reader_readName_25 (by decide) ?_
    exact j_iret (pc := 26) C hr rfl (u2.1, u2.2, k, k, 0, le, wo, nu, si) ⟨(by rw [rmV_n (fun e => c1 ((cr_iso hg).mp e).1)]), (show k ≤ k by omega), (show k ≤ k by omega), (fun e => absurd e xh4), (show CR tx k (rmS tx k gs) u2.1 u2.2 k k 0 le wo nu si from (by rw [rmS_n (fun e => c1 ((cr_iso hg).mp e).1), ← cr_f0 hg]; exact xh5))⟩ [2, 3, 0, 1] rfl (by decide) (by decide) (by decide) d_Reader_readName_26
  · refine j_aload_n (pc := 8) C d_Reader_readName_8 rfl 0 rfl ?_
    refine j_get (pc := 9) C gf_Reader_80 0 rfl rfl d_Reader_readName_9 ?_
    refine j_iconst (pc := 12) C (v := (-1)) d_Reader_readName_12 (by decide) ?_
    refine j_icmp_eq (pc := 13) C (tgt := 27) d_Reader_readName_13 (by decide) (fun c6 => ?_) (fun c6 => ?_)
    · refine j_aload_n (pc := 27) C d_Reader_readName_27 rfl 0 rfl ?_
      refine j_get (pc := 28) C gf_Reader_47 0 rfl rfl d_Reader_readName_28 ?_
      refine j_aload_n (pc := 31) C d_Reader_readName_31 rfl 0 rfl ?_
      refine j_get (pc := 32) C gf_Reader_62 0 rfl rfl d_Reader_readName_32 ?_
      refine j_isub (pc := 35) C (v := nI (ra - rs)) d_Reader_readName_35 (pk_sub (by omega)) ?_
      refine j_bipush (pc := 36) C (v := 6) d_Reader_readName_36 (by decide) ?_
      by_cases c7 : (ra - rs) ≤ 6
      · refine j_icmp_leT (pc := 38) C (tgt := 55) d_Reader_readName_38 (by decide) (show nI (ra - rs) ≤ nI 6 from nI_le (by omega) (by omega)) ?_
        refine j_aload_n (pc := 55) C d_Reader_readName_55 rfl 0 rfl ?_
        refine j_get (pc := 56) C gf_Reader_278 0 rfl rfl d_Reader_readName_56 ?_
        refine j_l2i (pc := 59) C (v := le.toInt32) d_Reader_readName_59 rfl ?_
        refine j_istore_n (pc := 60) C (lv' := [(1, .int le.toInt32), (0, .ref rd)]) d_Reader_readName_60 rfl (by decide) rfl ?_
        refine j_aload_n (pc := 61) C d_Reader_readName_61 rfl 1 rfl ?_
        refine j_callVv (pc := 62) C (c_rF_advance l D y rd ow tp lk td fa pl so le wo nu si ra k (nI rs) tx ww (srS tx k gs) ha hk hB hWW (cr_so hg) (srS_le _)) kw_Reader_53 kv_Reader_advance 0 5 rfl rfl ⟨by decide, by decide⟩ ⟨by decide, by decide⟩ (wr := []) [0, 1, 2, 3] [] rfl rfl (by decide) (by decide) (by decide) (As := []) (rest := []) rfl (nb rfl) rfl d_Reader_readName_62 (fun u8 hu9 => ?_)
        obtain ⟨xh10, xh11, xh12⟩ := hu9
        have xh13 : CR tx k (advS tx k gs) fa pl u8.1 u8.2.1 u8.2.2.1 u8.2.2.2.1 u8.2.2.2.2.1 u8.2.2.2.2.2.1 u8.2.2.2.2.2.2 := cr_adv hg (cr_so hg) (srS_le _) xh12
        refine j_ws (ws' := [(rd, .inr (5, [.int fa, .int pl, .ref ow, .ref tp, .ref lk, .int (nI u8.1), .int u8.2.2.1, .int (nI u8.2.1), .long u8.2.2.2.1, .int u8.2.2.2.2.1, .int u8.2.2.2.2.2.1, .int u8.2.2.2.2.2.2])), (tp, .inr (0, [.ref td, .int (nI k)])), (td, .inl (y 0, 1600, .inl (tby tx))), (ow, .inl (y 1, 33, .inr (.inl ww)))]) rfl ?_
        refine j_iload_n (pc := 65) C d_Reader_readName_65 rfl 0 rfl ?_
        exact j_iret (pc := 66) C hr rfl (fa, pl, u8.1, u8.2.1, u8.2.2.1, u8.2.2.2.1, u8.2.2.2.2.1, u8.2.2.2.2.2.1, u8.2.2.2.2.2.2) ⟨(by obtain ⟨hN1, hN2⟩ := cr_st hg (iso_nz ((cr_iso hg).mpr ⟨c1, c6⟩)); exact rmV_k hg ((cr_iso hg).mpr ⟨c1, c6⟩) (by rw [← hN1, ← hN2]; omega)), (show u8.1 ≤ k by omega), (show u8.2.1 ≤ u8.1 by omega), id, (show CR tx k (rmS tx k gs) fa pl u8.1 u8.2.1 u8.2.2.1 u8.2.2.2.1 u8.2.2.2.2.1 u8.2.2.2.2.2.1 u8.2.2.2.2.2.2 from (by obtain ⟨hN1, hN2⟩ := cr_st hg (iso_nz ((cr_iso hg).mpr ⟨c1, c6⟩)); rw [rmS_k ((cr_iso hg).mpr ⟨c1, c6⟩) (by rw [← hN1, ← hN2]; omega)]; exact xh13))⟩ [0, 1, 2, 3] rfl (by decide) (by decide) (by decide) d_Reader_readName_66
      · refine j_icmp_leF (pc := 38) C (tgt := 55) d_Reader_readName_38 (by decide) (show ¬ nI (ra - rs) ≤ nI 6 from nI_ge (by omega) (by omega)) ?_
        refine j_aload_n (pc := 41) C d_Reader_readName_41 rfl 0 rfl ?_
        refine j_iconst (pc := 42) C (v := 1) d_Reader_readName_42 (by decide) ?_
        refine j_aload_n (pc := 43) C d_Reader_readName_43 rfl 0 rfl ?_
        refine j_get (pc := 44) C gf_Reader_62 0 rfl rfl d_Reader_readName_44 ?_
        refine j_bipush (pc := 47) C (v := 6) d_Reader_readName_47 (by decide) ?_
        refine j_iadd (pc := 49) C (v := nI (rs + 6)) d_Reader_readName_49 (nI_add _ _) ?_
        refine j_callVv (pc := 50) C (c_rF_fail_1 l D y rd ow tp lk td fa pl so le wo nu si ra rs k tx gs (rs + 6) ha hs hk hg (by omega)) kw_Reader_65 kv_Reader_fail 0 5 rfl rfl ⟨by decide, by decide⟩ ⟨by decide, by decide⟩ (wr := [(td, .inl (y 0, 1600, .inl (tby tx))), (ow, .inl (y 1, 33, .inr (.inl ww)))]) [0, 1] [2, 3] rfl rfl (by decide) (by decide) (by decide) (As := [.int 1, .int (nI (rs + 6))]) (rest := []) rfl (nb rfl) rfl d_Reader_readName_50 (fun u14 hu15 => ?_)
        obtain ⟨xh16, xh17⟩ := hu15
        refine j_ws (ws' := [(td, .inl (y 0, 1600, .inl (tby tx))), (ow, .inl (y 1, 33, .inr (.inl ww))), (rd, .inr (5, [.int u14.1, .int u14.2, .ref ow, .ref tp, .ref lk, .int (nI k), .int 0, .int (nI k), .long le, .int wo, .int nu, .int si])), (tp, .inr (0, [.ref td, .int (nI k)]))]) rfl ?_
        refine j_iconst (pc := 53) C (v := (-1)) d_Reader_readName_53 (by decide) ?_
        exact j_iret (pc := 54) C hr rfl (u14.1, u14.2, k, k, 0, le, wo, nu, si) ⟨(by obtain ⟨hN1, hN2⟩ := cr_st hg (iso_nz ((cr_iso hg).mpr ⟨c1, c6⟩)); rw [rmV_l (by rw [← hN1, ← hN2]; omega)]), (show k ≤ k by omega), (show k ≤ k by omega), (fun e => absurd e xh16), (show CR tx k (rmS tx k gs) u14.1 u14.2 k k 0 le wo nu si from (by obtain ⟨hN1, hN2⟩ := cr_st hg (iso_nz ((cr_iso hg).mpr ⟨c1, c6⟩)); rw [rmS_l ((cr_iso hg).mpr ⟨c1, c6⟩) (by rw [← hN1, ← hN2]; omega), ← cr_fl hg id]; exact xh17))⟩ [2, 3, 0, 1] rfl (by decide) (by decide) (by decide) d_Reader_readName_54
    · refine j_aload_n (pc := 16) C d_Reader_readName_16 rfl 0 rfl ?_
      refine j_iconst (pc := 17) C (v := 1) d_Reader_readName_17 (by decide) ?_
      refine j_aload_n (pc := 18) C d_Reader_readName_18 rfl 0 rfl ?_
      refine j_get (pc := 19) C gf_Reader_62 0 rfl rfl d_Reader_readName_19 ?_
      refine j_callVv (pc := 22) C (c_rF_fail_1 l D y rd ow tp lk td fa pl so le wo nu si ra rs k tx gs rs ha hs hk hg (by omega)) kw_Reader_65 kv_Reader_fail 0 5 rfl rfl ⟨by decide, by decide⟩ ⟨by decide, by decide⟩ (wr := [(td, .inl (y 0, 1600, .inl (tby tx))), (ow, .inl (y 1, 33, .inr (.inl ww)))]) [0, 1] [2, 3] rfl rfl (by decide) (by decide) (by decide) (As := [.int 1, .int (nI rs)]) (rest := []) rfl (nb rfl) rfl d_Reader_readName_22 (fun u18 hu19 => ?_)
      obtain ⟨xh20, xh21⟩ := hu19
      refine j_ws (ws' := [(td, .inl (y 0, 1600, .inl (tby tx))), (ow, .inl (y 1, 33, .inr (.inl ww))), (rd, .inr (5, [.int u18.1, .int u18.2, .ref ow, .ref tp, .ref lk, .int (nI k), .int 0, .int (nI k), .long le, .int wo, .int nu, .int si])), (tp, .inr (0, [.ref td, .int (nI k)]))]) rfl ?_
      refine j_iconst (pc := 25) C (v := (-1)) d_Reader_readName_25 (by decide) ?_
      exact j_iret (pc := 26) C hr rfl (u18.1, u18.2, k, k, 0, le, wo, nu, si) ⟨(by rw [rmV_n (fun e => c6 ((cr_iso hg).mp e).2)]), (show k ≤ k by omega), (show k ≤ k by omega), (fun e => absurd e xh20), (show CR tx k (rmS tx k gs) u18.1 u18.2 k k 0 le wo nu si from (by rw [rmS_n (fun e => c6 ((cr_iso hg).mp e).2), ← cr_f0 hg]; exact xh21))⟩ [2, 3, 0, 1] rfl (by decide) (by decide) (by decide) d_Reader_readName_26
set_option maxHeartbeats 4000000 in
set_option maxRecDepth 100000 in
theorem c_lF_named (l : Launch) (D : va_G) (y : Nat → ClassId) (ad : Nat → Nat) (d : LD) (n9 : Nat) (v : Int32) (h9 : d.1 9 = nI n9) (b9 : n9 ≤ 9) : CT l D y ⟨"NineBoards$Gates", "named", "(I)I"⟩ prog_4_method_2_code 3 (some .int) ({ frames := 0, cells := 0, slots := 0, locals := 0 } : Room) [.ref (ad 1), .int v] [(ad 1, .inr (1, [.int (d.1 9), .ref (ad 4), .ref (ad 5), .ref (ad 6), .ref (ad 7), .ref (ad 8), .ref (ad 9), .ref (ad 10)])), (ad 4, .inl (y 0, 9, .inl (d.2 0)))] (QI D [(ad 1, .inr (1, [.int (d.1 9), .ref (ad 4), .ref (ad 5), .ref (ad 6), .ref (ad 7), .ref (ad 8), .ref (ad 9), .ref (ad 10)])), (ad 4, .inl (y 0, 9, .inl (d.2 0)))] (fun (r : Int32) (u : Unit) => ((r = -1 ∧ nmI (d.2 0) n9 v = -1) ∨ ∃ j : Nat, j < n9 ∧ r = nI j ∧ nmI (d.2 0) n9 v = nI j)) (fun _ => [(ad 1, .inr (1, [.int (d.1 9), .ref (ad 4), .ref (ad 5), .ref (ad 6), .ref (ad 7), .ref (ad 8), .ref (ad 9), .ref (ad 10)])), (ad 4, .inl (y 0, 9, .inl (d.2 0)))])) := by
  refine CT.of (by decide) (nb rfl) ?_
  intro p e s m args below meth c C hr
  refine j_lv (lv' := [(0, .ref (ad 1)), (1, .int v)]) rfl ?_
  refine j_iconst (pc := 0) C (v := 0) d_Gates_named_0 (by decide) ?_
  refine j_istore_n (pc := 1) C (lv' := [(2, .int 0), (0, .ref (ad 1)), (1, .int v)]) d_Gates_named_1 rfl (by decide) rfl ?_
  refine j_loop (α := Nat) (fun a => n9 - a) (fun a => (a ≤ n9) ∧ ((∀ i, i < a → ¬ (d.2 0) i = v))) (fun a => [(ad 1, .inr (1, [.int (d.1 9), .ref (ad 4), .ref (ad 5), .ref (ad 6), .ref (ad 7), .ref (ad 8), .ref (ad 9), .ref (ad 10)])), (ad 4, .inl (y 0, 9, .inl (d.2 0)))]) (fun a => [(2, .int (nI a)), (0, .ref (ad 1)), (1, .int v)]) (0) rfl rfl ⟨(show 0 ≤ n9 by omega), (fun i h1 => absurd h1 (by omega))⟩ ?_
  rintro iz hP3 ih4
  obtain ⟨hi__, hz__⟩ := hP3
  have hi_ : iz ≤ n9 := hi__
  have hz_ : (∀ i, i < iz → ¬ (d.2 0) i = v) := hz__
  refine j_ws (ws' := [(ad 1, .inr (1, [.int (d.1 9), .ref (ad 4), .ref (ad 5), .ref (ad 6), .ref (ad 7), .ref (ad 8), .ref (ad 9), .ref (ad 10)])), (ad 4, .inl (y 0, 9, .inl (d.2 0)))]) rfl ?_
  refine j_lv (lv' := [(2, .int (nI iz)), (0, .ref (ad 1)), (1, .int v)]) rfl ?_
  refine j_iload_n (pc := 2) C d_Gates_named_2 rfl 0 rfl ?_
  refine j_aload_n (pc := 3) C d_Gates_named_3 rfl 1 rfl ?_
  refine j_get (pc := 4) C gf_Gates_33 0 rfl rfl d_Gates_named_4 ?_
  refine j_st (st' := [.int (nI n9), .int (nI iz)]) (by rw [h9]) ?_
  by_cases c5 : n9 ≤ iz
  · refine j_icmp_geT (pc := 7) C (tgt := 28) d_Gates_named_7 (by decide) (show nI n9 ≤ nI iz from nI_le (by omega) (by omega)) ?_
    refine j_iconst (pc := 28) C (v := (-1)) d_Gates_named_28 (by decide) ?_
    exact j_iret (pc := 29) C hr rfl () (Or.inl ⟨rfl, nmI_n (fun i h1 => hz_ i (by omega))⟩) [0, 1] rfl (by decide) (by decide) (by decide) d_Gates_named_29
  · refine j_icmp_geF (pc := 7) C (tgt := 28) d_Gates_named_7 (by decide) (show ¬ nI n9 ≤ nI iz from nI_ge (by omega) (by omega)) ?_
    refine j_aload_n (pc := 10) C d_Gates_named_10 rfl 1 rfl ?_
    refine j_get (pc := 11) C gf_Gates_9 0 rfl rfl d_Gates_named_11 ?_
    refine j_iload_n (pc := 14) C d_Gates_named_14 rfl 0 rfl ?_
    refine j_iald (pc := 15) C 1 rfl (v := (d.2 0) iz) (vp_in_nI (by omega) (by decide)) (by rw [nI_clamp (by omega)]) d_Gates_named_15 ?_
    refine j_iload_n (pc := 16) C d_Gates_named_16 rfl 2 rfl ?_
    refine j_icmp_ne (pc := 17) C (tgt := 22) d_Gates_named_17 (by decide) (fun c6 => ?_) (fun c6 => ?_)
    · refine j_iinc (pc := 22) C (v := nI (iz + 1)) (lv' := [(2, .int (nI (iz + 1))), (0, .ref (ad 1)), (1, .int v)]) d_Gates_named_22 0 rfl (nI_add _ _) (by decide) rfl ?_
      refine j_goto (pc := 25) C (tgt := 2) d_Gates_named_25 (by decide) ?_
      exact ih4 ((iz + 1)) ⟨(show (iz + 1) ≤ n9 by omega), (fun i h1 => by
              by_cases e : i = iz
              · rw [e]; exact c6
              · exact hz_ i (by omega))⟩ (show n9 - (iz + 1) < n9 - iz by omega)
    · refine j_iload_n (pc := 20) C d_Gates_named_20 rfl 0 rfl ?_
      exact j_iret (pc := 21) C hr rfl () (Or.inr ⟨iz, by omega, rfl, nmI_f (by omega) hz_ c6⟩) [0, 1] rfl (by decide) (by decide) (by decide) d_Gates_named_21
set_option maxHeartbeats 4000000 in
set_option maxRecDepth 100000 in
theorem c_lF_villageNamed (l : Launch) (D : va_G) (y : Nat → ClassId) (ad : Nat → Nat) (d : LD) (n4 : Nat) (v : Int32) (h4 : d.1 4 = nI n4) (b4 : n4 ≤ 6) : CT l D y ⟨"NineBoards$Lake", "villageNamed", "(I)I"⟩ prog_5_method_6_code 3 (some .int) ({ frames := 0, cells := 0, slots := 0, locals := 0 } : Room) [.ref (ad 0), .int v] [(ad 0, .inr (2, [.int (d.1 0), .int (d.1 1), .int (d.1 2), .int (d.1 3), .ref (ad 1), .int (d.1 4), .ref (ad 11), .ref (ad 12), .ref (ad 2), .ref (ad 3), .int (d.1 5), .int (d.1 6), .int (d.1 7), .int (d.1 8)])), (ad 11, .inl (y 0, 6, .inl (d.2 7)))] (QI D [(ad 0, .inr (2, [.int (d.1 0), .int (d.1 1), .int (d.1 2), .int (d.1 3), .ref (ad 1), .int (d.1 4), .ref (ad 11), .ref (ad 12), .ref (ad 2), .ref (ad 3), .int (d.1 5), .int (d.1 6), .int (d.1 7), .int (d.1 8)])), (ad 11, .inl (y 0, 6, .inl (d.2 7)))] (fun (r : Int32) (u : Unit) => ((r = -1 ∧ nmI (d.2 7) n4 v = -1) ∨ ∃ j : Nat, j < n4 ∧ r = nI j ∧ nmI (d.2 7) n4 v = nI j)) (fun _ => [(ad 0, .inr (2, [.int (d.1 0), .int (d.1 1), .int (d.1 2), .int (d.1 3), .ref (ad 1), .int (d.1 4), .ref (ad 11), .ref (ad 12), .ref (ad 2), .ref (ad 3), .int (d.1 5), .int (d.1 6), .int (d.1 7), .int (d.1 8)])), (ad 11, .inl (y 0, 6, .inl (d.2 7)))])) := by
  refine CT.of (by decide) (nb rfl) ?_
  intro p e s m args below meth c C hr
  refine j_lv (lv' := [(0, .ref (ad 0)), (1, .int v)]) rfl ?_
  refine j_iconst (pc := 0) C (v := 0) d_Lake_villageNamed_0 (by decide) ?_
  refine j_istore_n (pc := 1) C (lv' := [(2, .int 0), (0, .ref (ad 0)), (1, .int v)]) d_Lake_villageNamed_1 rfl (by decide) rfl ?_
  refine j_loop (α := Nat) (fun a => n4 - a) (fun a => (a ≤ n4) ∧ ((∀ i, i < a → ¬ (d.2 7) i = v))) (fun a => [(ad 0, .inr (2, [.int (d.1 0), .int (d.1 1), .int (d.1 2), .int (d.1 3), .ref (ad 1), .int (d.1 4), .ref (ad 11), .ref (ad 12), .ref (ad 2), .ref (ad 3), .int (d.1 5), .int (d.1 6), .int (d.1 7), .int (d.1 8)])), (ad 11, .inl (y 0, 6, .inl (d.2 7)))]) (fun a => [(2, .int (nI a)), (0, .ref (ad 0)), (1, .int v)]) (0) rfl rfl ⟨(show 0 ≤ n4 by omega), (fun i h1 => absurd h1 (by omega))⟩ ?_
  rintro iz hP3 ih4
  obtain ⟨hi__, hz__⟩ := hP3
  have hi_ : iz ≤ n4 := hi__
  have hz_ : (∀ i, i < iz → ¬ (d.2 7) i = v) := hz__
  refine j_ws (ws' := [(ad 0, .inr (2, [.int (d.1 0), .int (d.1 1), .int (d.1 2), .int (d.1 3), .ref (ad 1), .int (d.1 4), .ref (ad 11), .ref (ad 12), .ref (ad 2), .ref (ad 3), .int (d.1 5), .int (d.1 6), .int (d.1 7), .int (d.1 8)])), (ad 11, .inl (y 0, 6, .inl (d.2 7)))]) rfl ?_
  refine j_lv (lv' := [(2, .int (nI iz)), (0, .ref (ad 0)), (1, .int v)]) rfl ?_
  refine j_iload_n (pc := 2) C d_Lake_villageNamed_2 rfl 0 rfl ?_
  refine j_aload_n (pc := 3) C d_Lake_villageNamed_3 rfl 1 rfl ?_
  refine j_get (pc := 4) C gf_Lake_58 0 rfl rfl d_Lake_villageNamed_4 ?_
  refine j_st (st' := [.int (nI n4), .int (nI iz)]) (by rw [h4]) ?_
  by_cases c5 : n4 ≤ iz
  · refine j_icmp_geT (pc := 7) C (tgt := 28) d_Lake_villageNamed_7 (by decide) (show nI n4 ≤ nI iz from nI_le (by omega) (by omega)) ?_
    refine j_iconst (pc := 28) C (v := (-1)) d_Lake_villageNamed_28 (by decide) ?_
    exact j_iret (pc := 29) C hr rfl () (Or.inl ⟨rfl, nmI_n (fun i h1 => hz_ i (by omega))⟩) [0, 1] rfl (by decide) (by decide) (by decide) d_Lake_villageNamed_29
  · refine j_icmp_geF (pc := 7) C (tgt := 28) d_Lake_villageNamed_7 (by decide) (show ¬ nI n4 ≤ nI iz from nI_ge (by omega) (by omega)) ?_
    refine j_aload_n (pc := 10) C d_Lake_villageNamed_10 rfl 1 rfl ?_
    refine j_get (pc := 11) C gf_Lake_18 0 rfl rfl d_Lake_villageNamed_11 ?_
    refine j_iload_n (pc := 14) C d_Lake_villageNamed_14 rfl 0 rfl ?_
    refine j_iald (pc := 15) C 1 rfl (v := (d.2 7) iz) (vp_in_nI (by omega) (by decide)) (by rw [nI_clamp (by omega)]) d_Lake_villageNamed_15 ?_
    refine j_iload_n (pc := 16) C d_Lake_villageNamed_16 rfl 2 rfl ?_
    refine j_icmp_ne (pc := 17) C (tgt := 22) d_Lake_villageNamed_17 (by decide) (fun c6 => ?_) (fun c6 => ?_)
    · refine j_iinc (pc := 22) C (v := nI (iz + 1)) (lv' := [(2, .int (nI (iz + 1))), (0, .ref (ad 0)), (1, .int v)]) d_Lake_villageNamed_22 0 rfl (nI_add _ _) (by decide) rfl ?_
      refine j_goto (pc := 25) C (tgt := 2) d_Lake_villageNamed_25 (by decide) ?_
      exact ih4 ((iz + 1)) ⟨(show (iz + 1) ≤ n4 by omega), (fun i h1 => by
              by_cases e : i = iz
              · rw [e]; exact c6
              · exact hz_ i (by omega))⟩ (show n4 - (iz + 1) < n4 - iz by omega)
    · refine j_iload_n (pc := 20) C d_Lake_villageNamed_20 rfl 0 rfl ?_
      exact j_iret (pc := 21) C hr rfl () (Or.inr ⟨iz, by omega, rfl, nmI_f (by omega) hz_ c6⟩) [0, 1] rfl (by decide) (by decide) (by decide) d_Lake_villageNamed_21
