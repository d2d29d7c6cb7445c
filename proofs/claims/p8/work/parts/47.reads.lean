theorem i0_of {v : Int32} {q : Nat} (e : v = nI q) (h : 1 ≤ q) (h2 : q ≤ 100000) : ¬ v = 0 := by
  rw [e]
  exact fun e => absurd ((nI_eq (a := q) (b := 0) (by omega) (by omega)).mp e) (by omega)
/-! the reference's reader as it stands, in the words of the text -/
def pk27 (b : Nat → Nat) (q : Nat) : Nat → Nat
  | 0 => 0
  | j + 1 => 27 * pk27 b q j + (b (q + j) - 96)
def wdv (v j : Nat) : Nat := (owf v).getD j 0 + 96
def WD (v : Nat) : Nat → Int32 := fun j => if j < (owf v).length then nI (wdv v j) else 0
def RR (tx : Nat → Nat) (k : Nat) (x : PS) (a : Nat) (en bd bp : Int32) : Prop :=
  bd = nI x.1 ∧ x.1 ≤ 5 ∧ a ≤ k ∧ ((x.1 = 0 ∧ bp = -1 ∧ x.2.2.1 ≤ a ∧ a ≤ tq tx k x.2.2.1 ∧ ((x.2.2.2 = 1 ∧ en = nI x.2.2.1) ∨ (x.2.2.2 = 0 ∧ (en = -1 ∨ ∃ q, q < x.2.2.1 ∧ en = nI q)))) ∨ (¬ x.1 = 0 ∧ bp = nI x.2.1))
section RRL
variable {tx : Nat → Nat} {k : Nat} {x : PS} {a : Nat} {en bd bp : Int32}
theorem rr_z (h : RR tx k x a en bd bp) : bd = 0 ↔ x.1 = 0 := by
  obtain ⟨e, c, _⟩ := h
  rw [e]
  exact nI_z (by omega)
theorem rr_al (h : RR tx k x a en bd bp) (h0 : x.1 = 0) : bp = -1 ∧ x.2.2.1 ≤ a ∧ a ≤ tq tx k x.2.2.1 ∧ ((x.2.2.2 = 1 ∧ en = nI x.2.2.1) ∨ (x.2.2.2 = 0 ∧ (en = -1 ∨ ∃ q, q < x.2.2.1 ∧ en = nI q))) := by
  obtain ⟨_, _, _, d | d⟩ := h
  · exact ⟨d.2.1, d.2.2.1, d.2.2.2.1, d.2.2.2.2⟩
  · exact absurd h0 d.1
/-- blanks are gone by -/
theorem rr_look (h : RR tx k x a en bd bp) (h0 : x.1 = 0) : sc (fun i => blkb (tx i)) k a = stS tx k x := by
  obtain ⟨_, b, c, _⟩ := rr_al h h0
  exact sq_from b c
theorem rr_at (h : RR tx k x a en bd bp) : RR tx k x (if x.1 = 0 then stS tx k x else a) en bd bp := by
  obtain ⟨e, c, f, d | d⟩ := h
  · rw [if_pos d.1]
    exact ⟨e, c, sq_le (by have := d.2.2.2.1; have := tq_ge (tx := tx) (k := k) x.2.2.1; omega), Or.inl ⟨d.1, d.2.1, tq_ge _, Nat.le_refl _, d.2.2.2.2⟩⟩
  · rw [if_neg d.1]
    exact ⟨e, c, f, Or.inr d⟩
/-- whether a word or number ended just here -/
theorem rr_end (h : RR tx k x a en bd bp) (h0 : x.1 = 0) (hk : k ≤ 1600) (ha : a = stS tx k x) : nI a = en ↔ (x.2.2.2 = 1 ∧ tq tx k x.2.2.1 = x.2.2.1) := by
  obtain ⟨_, b, c, d⟩ := rr_al h h0
  have hak : a ≤ k := h.2.2.1
  have ha' : a = tq tx k x.2.2.1 := ha
  rcases d with ⟨d1, d2⟩ | ⟨d1, d2⟩
  · rw [d2]
    constructor
    · intro e
      have := (nI_eq (by omega) (by omega)).mp e
      exact ⟨d1, by omega⟩
    · intro e
      rw [ha', e.2]
  · constructor
    · intro e
      rcases d2 with d2 | ⟨q, hq, d2⟩
      · exact absurd (e.trans d2) (nI_nm1 (by omega))
      · have := (nI_eq (by omega) (by omega)).mp (e.trans d2)
        omega
    · intro e
      omega
/-- a step on: behind a word or a number, behind a sign -/
theorem rr_adv (h : RR tx k x a en bd bp) (hk : k ≤ 1600) {s : Nat} (hs : srS tx k x = s) (h0 : ¬ s = 0) {a' : Nat} (ha : a' = enS tx k x) {en' : Int32} (he : (s = 3 ∧ en' = en) ∨ (¬ s = 3 ∧ en' = nI a')) : RR tx k (advS tx k x) a' en' bd bp := by
  have e0 : x.1 = 0 := sr_al (by rw [hs]; exact h0)
  obtain ⟨b, c, f, _⟩ := h
  obtain ⟨g1, g2, g3, g4⟩ := rr_al ⟨b, c, f, by assumption⟩ e0
  have ea : advS tx k x = (0, 0, enS tx k x, tgl tx k x.2.2.1 x.2.2.2) := if_pos e0
  have st : srS tx k x = tsr tx k x.2.2.1 x.2.2.2 := if_pos e0
  have hpk : x.2.2.1 ≤ k := by omega
  have hle : enS tx k x ≤ k := ten_le _ _ hpk
  have hlt : x.2.2.1 < enS tx k x := by
    have q := tq_ge (tx := tx) (k := k) x.2.2.1
    show x.2.2.1 < ten tx k x.2.2.1 x.2.2.2
    unfold ten
    rw [if_neg (by rw [← st, hs]; exact h0)]
    split
    · omega
    · have := sq_ge (fun i => decide (srt (tx i) = tsr tx k x.2.2.1 x.2.2.2)) k (tq tx k x.2.2.1 + 1)
      omega
  rw [ea, ha]
  refine ⟨by rw [b, e0], Nat.zero_le _, hle, Or.inl ⟨rfl, g1, Nat.le_refl _, tq_ge _, ?_⟩⟩
  have hs3 := srS_le (tx := tx) (k := k) x
  rcases he with ⟨q1, q2⟩ | ⟨q1, q2⟩
  · refine Or.inr ⟨?_, ?_⟩
    · show tgl tx k x.2.2.1 x.2.2.2 = 0
      unfold tgl
      rw [← st, hs, q1]
      rfl
    · rw [q2]
      rcases g4 with ⟨_, z⟩ | ⟨_, z | ⟨q, hq, z⟩⟩
      · exact Or.inr ⟨x.2.2.1, hlt, z⟩
      · exact Or.inl z
      · exact Or.inr ⟨q, by show q < enS tx k x; omega, z⟩
  · refine Or.inl ⟨?_, by rw [q2, ha]⟩
    show tgl tx k x.2.2.1 x.2.2.2 = 1
    unfold tgl
    rw [← st, hs]
    exact if_pos (by omega)
end RRL
theorem wd_ld {v n j : Nat} (hn : (owf v).length = n) (h : j < n) : WD v j = nI (wdv v j) := if_pos (by rw [hn]; exact h)
theorem gd_lt {l : List Nat} {j : Nat} (h : j < l.length) : l.getD j 0 = l[j] := by
  rw [List.getD_eq_getElem?_getD, List.getElem?_eq_getElem h]
  rfl
theorem gd_ge {l : List Nat} {j : Nat} (h : l.length ≤ j) : l.getD j 0 = 0 := by
  rw [List.getD_eq_getElem?_getD, List.getElem?_eq_none h]
  rfl
theorem wd_lt {v : Nat} (hv : v < 33) (j : Nat) : wdv v j < 256 := by
  have h := (ow_ok v hv).2
  unfold wdv
  by_cases c : j < (owf v).length
  · rw [gd_lt c]
    have := (h _ (List.getElem_mem c)).2
    omega
  · rw [gd_ge (by omega)]
    omega
section RW1
variable {tx : Nat → Nat} {k : Nat} {x : PS} {a : Nat} {en bd bp : Int32}
theorem hw_dead (h : RR tx k x a en bd bp) (h0 : ¬ bd = 0) {v : Nat} : ¬ iswS tx k v x = true := fun g => h0 ((rr_z h).mpr (isw_al g))
theorem hs_dead (h : RR tx k x a en bd bp) (h0 : ¬ bd = 0) {v : Nat} : ¬ issS tx k v x = true := fun g => h0 ((rr_z h).mpr (iss_al g))
theorem rl_end (h0 : x.1 = 0) (ha : a = stS tx k x) (hk : k ≤ a) : srS tx k x = 0 := by
  unfold srS
  rw [if_pos h0]
  exact if_pos (show k ≤ stS tx k x by omega)
theorem rl_ns (ha : a = stS tx k x) {s : Nat} (hs : ¬ srt (tx a) = s) (h3 : ¬ s = 3) (hz : ¬ s = 0) : ¬ srS tx k x = s := by
  rw [ha] at hs
  have hs' : ¬ srt (tx (tq tx k x.2.2.1)) = s := hs
  unfold srS
  split
  · unfold tsr
    split
    · omega
    · split
      · omega
      · exact hs'
  · omega
theorem rl_ad (h : RR tx k x a en bd bp) (h0 : x.1 = 0) (hk : k ≤ 1600) (ha : a = stS tx k x) (e : nI a = en) {s : Nat} (h3 : ¬ s = 3) (hz : ¬ s = 0) : ¬ srS tx k x = s := by
  have c := (rr_end h h0 hk ha).mp e
  unfold srS
  rw [if_pos h0]
  unfold tsr
  split
  · omega
  · first
    | omega
    | (rw [if_pos c]; omega)
theorem rl_yes (h : RR tx k x a en bd bp) (h0 : x.1 = 0) (hk : k ≤ 1600) (ha : a = stS tx k x) (hlt : a < k) {s : Nat} (hs : srt (tx a) = s) (e : ¬ nI a = en) : srS tx k x = s := by
  have c : ¬ (x.2.2.2 = 1 ∧ tq tx k x.2.2.1 = x.2.2.1) := fun q => e ((rr_end h h0 hk ha).mpr q)
  have hq : ¬ k ≤ tq tx k x.2.2.1 := by
    have : stS tx k x = tq tx k x.2.2.1 := rfl
    omega
  unfold srS
  rw [if_pos h0]
  unfold tsr
  rw [if_neg hq, if_neg c]
  rw [ha] at hs
  exact hs
theorem en_end {s : Nat} (hs : srS tx k x = s) (h0 : ¬ s = 0) (h3 : ¬ s = 3) : enS tx k x ≤ k ∧ ¬ (enS tx k x < k ∧ srt (tx (enS tx k x)) = s) := by
  have ha : x.1 = 0 := sr_al (tx := tx) (k := k) (by omega)
  have t : tsr tx k x.2.2.1 x.2.2.2 = s := (if_pos ha).symm.trans hs
  have hq : tq tx k x.2.2.1 < k := by
    by_cases c : k ≤ tq tx k x.2.2.1
    · unfold tsr at t
      rw [if_pos c] at t
      omega
    · omega
  have e : enS tx k x = sc (fun i => decide (srt (tx i) = s)) k (tq tx k x.2.2.1 + 1) := by
    unfold enS ten
    rw [t, if_neg h0, if_neg h3]
  rw [e]
  exact ⟨sq_le (by omega), fun g => sq_end _ k _ ⟨g.1, decide_eq_true g.2⟩⟩
theorem en_of {s z : Nat} (hs : srS tx k x = s) (h0 : ¬ s = 0) (h3 : ¬ s = 3) (ha : a = stS tx k x) (hall : ∀ i, a ≤ i → i < z → srt (tx i) = s) (haz : a ≤ z) (hx : ¬ (z < k ∧ srt (tx z) = s)) (hzk : z ≤ k) : z = enS tx k x := by
  obtain ⟨e1, e2⟩ := en_end hs h0 h3
  obtain ⟨f1, f2⟩ := sr_all hs h0 h3
  rcases Nat.lt_trichotomy z (enS tx k x) with q | q | q
  · exact absurd ⟨by omega, f2 z (by omega) q⟩ hx
  · exact q
  · exact absurd ⟨by omega, hall _ (by omega) q⟩ e2
theorem en_gt {s z : Nat} (hs : srS tx k x = s) (h0 : ¬ s = 0) (h3 : ¬ s = 3) (ha : a = stS tx k x) (hall : ∀ i, a ≤ i → i < z → srt (tx i) = s) (haz : a ≤ z) (hz : z < k) (hx : srt (tx z) = s) : z < enS tx k x := by
  obtain ⟨e1, e2⟩ := en_end hs h0 h3
  obtain ⟨f1, f2⟩ := sr_all hs h0 h3
  rcases Nat.lt_or_ge z (enS tx k x) with q | q
  · exact q
  · refine absurd ⟨by omega, ?_⟩ e2
    rcases Nat.lt_or_ge (enS tx k x) z with r | r
    · exact hall _ (by omega) r
    · rw [show enS tx k x = z by omega]
      exact hx
theorem is_yes {v n z : Nat} (hs : srS tx k x = 1) (ha : a = stS tx k x) (hz : z = enS tx k x) (hl : (owf v).length = n) (hn : z - a = n) (hc : ∀ j, j < n → tx (a + j) = wdv v j) : iswS tx k v x = true := by
  unfold iswS
  refine decide_eq_true ⟨hs, ?_⟩
  unfold tlS
  rw [← ha, ← hz]
  apply List.ext_getElem
  · rw [tl, List.length_map, List.length_range, hl, hn]
  · intro i h1 h2
    have q := hc i (by rw [← hl]; exact h2)
    unfold wdv at q
    rw [gd_lt h2] at q
    simp only [tl, List.getElem_map, List.getElem_range]
    omega
theorem is_no0 {v s : Nat} (hs : ¬ srS tx k x = 1) : ¬ iswS tx k v x = true := fun g => hs (of_decide_eq_true g).1
theorem is_no1 {v n z : Nat} (ha : a = stS tx k x) (hz : z = enS tx k x) (hl : (owf v).length = n) (hn : ¬ z - a = n) : ¬ iswS tx k v x = true := by
  intro g
  have q := congrArg List.length (of_decide_eq_true g).2
  unfold tlS at q
  rw [← ha, ← hz, tl, List.length_map, List.length_range, hl] at q
  exact hn q
theorem is_no2 {v j z : Nat} (ha : a = stS tx k x) (hz : z = enS tx k x) (hj : a + j < z) (hl : srt (tx (a + j)) = 1) (hc : ¬ tx (a + j) = wdv v j) : ¬ iswS tx k v x = true := by
  intro g
  have q := (of_decide_eq_true g).2
  unfold tlS at q
  rw [← ha, ← hz] at q
  have hlen : j < (tl tx a z).length := by
    rw [tl, List.length_map, List.length_range]
    omega
  have q2 : (tl tx a z).getD j 0 = (owf v).getD j 0 := by rw [q]
  rw [gd_lt hlen] at q2
  simp only [tl, List.getElem_map, List.getElem_range] at q2
  have := srt_1' hl
  unfold wdv at hc
  omega
theorem sg_yes (h0 : x.1 = 0) (ha : a = stS tx k x) (hk : a < k) {c : Nat} (hc : tx a = c) (h3 : srt c = 3) : issS tx k c x = true ∧ a + 1 = enS tx k x ∧ srS tx k x = 3 := by
  have hq : ¬ k ≤ tq tx k x.2.2.1 := by
    have : stS tx k x = tq tx k x.2.2.1 := rfl
    omega
  have t : tsr tx k x.2.2.1 x.2.2.2 = 3 := by
    unfold tsr
    rw [if_neg hq]
    split
    · rfl
    · rw [ha] at hc
      rw [show srt (tx (tq tx k x.2.2.1)) = srt c from congrArg srt hc, h3]
  have s : srS tx k x = 3 := (if_pos h0).trans t
  refine ⟨decide_eq_true ⟨s, by rw [← ha]; exact hc⟩, ?_, s⟩
  unfold enS ten
  rw [t, if_neg (by decide), if_pos rfl, ha]
  rfl
theorem sg_no1 (h0 : x.1 = 0) (ha : a = stS tx k x) (hk : k ≤ a) {c : Nat} : ¬ issS tx k c x = true := fun g => by
  have := (of_decide_eq_true g).1
  rw [rl_end h0 ha hk] at this
  omega
theorem sg_no2 (ha : a = stS tx k x) {c : Nat} (hc : ¬ tx a = c) : ¬ issS tx k c x = true := fun g => by
  have := (of_decide_eq_true g).2
  rw [← ha] at this
  exact hc this
theorem rr_at0 (h : RR tx k x a en bd bp) (h0 : x.1 = 0) {a' : Nat} (ha : a' = stS tx k x) : RR tx k x a' en bd bp := by
  have q := rr_at h
  rw [if_pos h0, ← ha] at q
  exact q
theorem rr_dd (h : RR tx k x a en bd bp) (h0 : ¬ bd = 0) {a' : Nat} (ha : a' ≤ k) {en' : Int32} : RR tx k x a' en' bd bp := by
  obtain ⟨b, c, _, d | d⟩ := h
  · exact absurd ((rr_z ⟨b, c, by assumption, Or.inl d⟩).mpr d.1) h0
  · exact ⟨b, c, ha, Or.inr d⟩
theorem rr_fl (h0 : x.1 = 0) {kd pp : Nat} (h1 : 0 < kd) (h2 : kd ≤ 5) (ha : a ≤ k) : RR tx k (failS kd pp x) a en (nI kd) (nI pp) := by
  rw [failS_0 kd pp h0]
  exact ⟨rfl, h2, ha, Or.inr ⟨fun q => by simp only at q; omega, rfl⟩⟩
theorem rr_of {y : PS} (h : RR tx k x a en bd bp) (e : y = x) : RR tx k y a en bd bp := e ▸ h
theorem isn_yes (hs : srS tx k x = 2) : isnS tx k x = true := decide_eq_true hs
theorem isn_no (hs : ¬ srS tx k x = 2) : ¬ isnS tx k x = true := fun g => hs (of_decide_eq_true g)
theorem tvS_of {z : Nat} (ha : a = stS tx k x) (hz : z = enS tx k x) : tvn tx a (z - a) = tvS tx k x := by
  rw [ha, hz]
  rfl
theorem own_no (h : ∀ w, w < 33 → ¬ iswS tx k w x = true) (hs : srS tx k x = 1) : isoS tx k x = true := isoS_iff.mpr ⟨hs, fun w hw e => h w hw (decide_eq_true ⟨hs, e⟩)⟩
theorem own_yes (h : ∃ w, w < 33 ∧ iswS tx k w x = true) : ¬ isoS tx k x = true := fun g => by
  obtain ⟨w, hw, e⟩ := h
  exact (isoS_iff.mp g).2 w hw (of_decide_eq_true e).2
theorem iso_ns (hs : ¬ srS tx k x = 1) : ¬ isoS tx k x = true := fun g => hs (isoS_iff.mp g).1
end RW1
theorem own33 {P : Nat → Prop} (h0 : P 0) (h1 : P 1) (h2 : P 2) (h3 : P 3) (h4 : P 4) (h5 : P 5) (h6 : P 6) (h7 : P 7) (h8 : P 8) (h9 : P 9) (h10 : P 10) (h11 : P 11) (h12 : P 12) (h13 : P 13) (h14 : P 14) (h15 : P 15) (h16 : P 16) (h17 : P 17) (h18 : P 18) (h19 : P 19) (h20 : P 20) (h21 : P 21) (h22 : P 22) (h23 : P 23) (h24 : P 24) (h25 : P 25) (h26 : P 26) (h27 : P 27) (h28 : P 28) (h29 : P 29) (h30 : P 30) (h31 : P 31) (h32 : P 32) : ∀ w, w < 33 → P w := by
  intro w hw
  have : w = 0 ∨ w = 1 ∨ w = 2 ∨ w = 3 ∨ w = 4 ∨ w = 5 ∨ w = 6 ∨ w = 7 ∨ w = 8 ∨ w = 9 ∨ w = 10 ∨ w = 11 ∨ w = 12 ∨ w = 13 ∨ w = 14 ∨ w = 15 ∨ w = 16 ∨ w = 17 ∨ w = 18 ∨ w = 19 ∨ w = 20 ∨ w = 21 ∨ w = 22 ∨ w = 23 ∨ w = 24 ∨ w = 25 ∨ w = 26 ∨ w = 27 ∨ w = 28 ∨ w = 29 ∨ w = 30 ∨ w = 31 ∨ w = 32 := by omega
  rcases this with rfl | rfl | rfl | rfl | rfl | rfl | rfl | rfl | rfl | rfl | rfl | rfl | rfl | rfl | rfl | rfl | rfl | rfl | rfl | rfl | rfl | rfl | rfl | rfl | rfl | rfl | rfl | rfl | rfl | rfl | rfl | rfl | rfl <;> assumption
/-! names as numbers to the base 27 -/
def r27 : List Nat → Nat
  | [] => 0
  | a :: l => a + 27 * r27 l
def pl27 (l : List Nat) : Nat := r27 l.reverse
theorem r27_inj {l m : List Nat} (hl : ∀ a ∈ l, 0 < a ∧ a < 27) (hm : ∀ a ∈ m, 0 < a ∧ a < 27) (h : r27 l = r27 m) : l = m := by
  induction l generalizing m with
  | nil =>
    cases m with
    | nil => rfl
    | cons b m =>
      have := (hm b List.mem_cons_self).1
      simp only [r27] at h
      omega
  | cons a l ih =>
    have ha := hl a List.mem_cons_self
    cases m with
    | nil =>
      simp only [r27] at h
      omega
    | cons b m =>
      have hb := hm b List.mem_cons_self
      simp only [r27] at h
      have e : a = b := by omega
      have e2 : r27 l = r27 m := by omega
      rw [e, ih (fun x hx => hl x (List.mem_cons_of_mem _ hx)) (fun x hx => hm x (List.mem_cons_of_mem _ hx)) e2]
theorem r27_lt {l : List Nat} (h : ∀ a ∈ l, 0 < a ∧ a < 27) : r27 l < 27 ^ l.length := by
  induction l with
  | nil => exact (by decide : 0 < 1)
  | cons a l ih =>
    have ha := h a List.mem_cons_self
    have q := ih (fun x hx => h x (List.mem_cons_of_mem _ hx))
    rw [r27, List.length_cons, Nat.pow_succ]
    omega
theorem pl27_inj {l m : List Nat} (hl : okn l) (hm : okn m) (h : pl27 l = pl27 m) : l = m := by
  have := r27_inj (l := l.reverse) (m := m.reverse) (fun a ha => hl.2 a (List.mem_reverse.mp ha)) (fun a ha => hm.2 a (List.mem_reverse.mp ha)) h
  exact List.reverse_inj.mp this
theorem pl27_lt {l : List Nat} (h : okn l) : pl27 l < 2 ^ 63 := by
  have a := r27_lt (l := l.reverse) (fun a ha => h.2 a (List.mem_reverse.mp ha))
  rw [List.length_reverse] at a
  exact Nat.lt_of_lt_of_le a (Nat.le_trans (Nat.pow_le_pow_right (by decide) h.1) (by decide))
theorem pk27_tl (b : Nat → Nat) (q j : Nat) : pk27 b q j = pl27 (tl b q (q + j)) := by
  induction j with
  | zero =>
    rw [Nat.add_zero, tl, Nat.sub_self]
    rfl
  | succ j ih =>
    have e : tl b q (q + (j + 1)) = tl b q (q + j) ++ [b (q + j) - 96] := by
      unfold tl
      rw [show q + (j + 1) - q = j + 1 by omega, show q + j - q = j by omega, List.range_succ, List.map_append]
      rfl
    rw [pk27, ih, e, pl27, pl27, List.reverse_append]
    show 27 * r27 (tl b q (q + j)).reverse + (b (q + j) - 96) = (b (q + j) - 96) + 27 * r27 (tl b q (q + j)).reverse
    omega
theorem nL_add (a c : Nat) : nL a + nL c = nL (a + c) := by
  apply Int64.toBitVec_inj.mp
  show BitVec.ofNat 64 a + BitVec.ofNat 64 c = BitVec.ofNat 64 (a + c)
  exact (BitVec.ofNat_add a c).symm
theorem nL_mul (a c : Nat) : nL a * nL c = nL (a * c) := by
  apply Int64.toBitVec_inj.mp
  show BitVec.ofNat 64 a * BitVec.ofNat 64 c = BitVec.ofNat 64 (a * c)
  exact (BitVec.ofNat_mul a c).symm
theorem nm_step {v : Int64} {x b : Nat} (hv : v = nL x) (hb : 97 ≤ b) (hb2 : b ≤ 122) : (27 : Int64) * v + (nI b).toInt64 - 97 + 1 = nL (27 * x + (b - 96)) := by
  rw [hv, nI_64 (by omega), show (27 : Int64) = nL 27 from rfl, show (97 : Int64) = nL 97 from rfl, show (1 : Int64) = nL 1 from rfl, nL_mul, nL_add, show 27 * x + b = (27 * x + (b - 97)) + 97 by omega, ← nL_add, Int64.add_sub_cancel, nL_add]
  congr 1
  omega
def NL (f : Nat → List Nat) (n : Nat) (row : Nat → Int64) : Prop := ∀ j, j < n → row j = nL (pl27 (f j)) ∧ okn (f j)
theorem nl_inj {v w : List Nat} (hv : okn v) (hw : okn w) (h : nL (pl27 v) = nL (pl27 w)) : v = w := pl27_inj hv hw (nL_eq (pl27_lt hv) (pl27_lt hw) h)
theorem nl_no {f : Nat → List Nat} {n : Nat} {row : Nat → Int64} {w : List Nat} (h : NL f n row) (hw : okn w) {v : Int64} (hv : v = nL (pl27 w)) (hn : ∀ i, i < n → ¬ row i = v) : nmF f n w = n :=
  sq_eq (Nat.zero_le _) (fun i _ hi => ⟨hi, decide_eq_true (fun e => hn i hi (by rw [(h i hi).1, hv, e]))⟩) (by omega)
theorem nl_hit {f : Nat → List Nat} {n q : Nat} {row : Nat → Int64} {w : List Nat} (h : NL f n row) (hw : okn w) {v : Int64} (hv : v = nL (pl27 w)) (hq : q < n) (he : row q = v) (hb : ∀ i, i < q → ¬ row i = v) : nmF f n w = q :=
  sq_eq (Nat.zero_le _) (fun i _ hi => ⟨by omega, decide_eq_true (fun e => hb i hi (by rw [(h i (by omega)).1, hv, e]))⟩) (fun g => of_decide_eq_true g.2 (nl_inj (h q hq).2 hw ((h q hq).1.symm.trans (he.trans hv))))
section NW2
variable {tx : Nat → Nat} {k : Nat} {x : PS} {t : LA_}
theorem nw_dd (h : ¬ (rmS tx k x).1 = 0) : nwS tx k x t = rmS tx k x := by
  unfold nwS
  split
  · exact failS_d _ _ h
  · rfl
theorem nw_new (h0 : nmF (t.nm 0) (t.s 9) (tlS tx k x) = t.s 9) (h1 : nmF (t.nm 1) (t.s 4) (tlS tx k x) = t.s 4) : nwS tx k x t = rmS tx k x := by
  unfold nwS
  exact if_neg (by omega)
theorem nw_old (h : nmF (t.nm 0) (t.s 9) (tlS tx k x) < t.s 9 ∨ nmF (t.nm 1) (t.s 4) (tlS tx k x) < t.s 4) : nwS tx k x t = failS 3 (stS tx k x) (rmS tx k x) := if_pos h
theorem ol_d2 {f : Nat → List Nat} {n : Nat} (h : ¬ (rmS tx k x).1 = 0) : olS tx k f n x = rmS tx k x := by
  unfold olS
  split
  · rfl
  · exact failS_d _ _ h
theorem ol_hit {f : Nat → List Nat} {n : Nat} (h : nmF f n (tlS tx k x) < n) : olS tx k f n x = rmS tx k x := if_pos h
theorem ol_not {f : Nat → List Nat} {n : Nat} (h : nmF f n (tlS tx k x) = n) : olS tx k f n x = failS 3 (stS tx k x) (rmS tx k x) := if_neg (by omega)
end NW2
theorem d_Model_fail_0 : decode prog_13_method_5_code 0 = .ok (.aload_n 0, 1) := by decide +kernel
theorem d_Model_fail_1 : decode prog_13_method_5_code 1 = .ok (.getfield 201, 3) := by decide +kernel
theorem gf_Model_201 : GF "NineBoardsModel" 201 10 5 := ⟨_, _, _, rfl, ci_Model, by decide, (mt_5 (List.mem_of_getElem? (i := 93) rfl) rfl)⟩
theorem d_Model_fail_4 : decode prog_13_method_5_code 4 = .ok (.ifCond .eq 4, 3) := by decide +kernel
theorem d_Model_fail_8 : decode prog_13_method_5_code 8 = .ok (.aload_n 0, 1) := by decide +kernel
theorem d_Model_fail_9 : decode prog_13_method_5_code 9 = .ok (.iload_n 1, 1) := by decide +kernel
theorem d_Model_fail_10 : decode prog_13_method_5_code 10 = .ok (.putfield 201, 3) := by decide +kernel
theorem pf_Model_201 : PF "NineBoardsModel" 201 10 5 (.int) false := ⟨_, _, _, ct_Model, rfl, ci_Model, by decide, (mt_5 (List.mem_of_getElem? (i := 93) rfl) rfl), cp_Model, cn_Model, rfl, by decide +kernel, (fun h => by cases h)⟩
theorem d_Model_fail_13 : decode prog_13_method_5_code 13 = .ok (.aload_n 0, 1) := by decide +kernel
theorem d_Model_fail_14 : decode prog_13_method_5_code 14 = .ok (.iload_n 2, 1) := by decide +kernel
theorem d_Model_fail_15 : decode prog_13_method_5_code 15 = .ok (.putfield 204, 3) := by decide +kernel
theorem pf_Model_204 : PF "NineBoardsModel" 204 10 6 (.int) false := ⟨_, _, _, ct_Model, rfl, ci_Model, by decide, (mt_5 (List.mem_of_getElem? (i := 94) rfl) rfl), cp_Model, cn_Model, rfl, by decide +kernel, (fun h => by cases h)⟩
theorem d_Model_fail_18 : decode prog_13_method_5_code 18 = .ok (.return_, 1) := by decide +kernel
set_option maxHeartbeats 4000000 in
set_option maxRecDepth 100000 in
theorem c_M_fail_1 (l : Launch) (D : va_G) (y : Nat → ClassId) (mo : Nat) (ma : Nat → Nat) (t1 : Nat) (t2 : Nat) (t3 : Nat) (i4 : Int32) (i5 : Int32) (i6 : Int32) (i7 : Int32) (i8 : Int32) (i42 : Int32) (i49 : Int32) (i51 : Int32) (i53 : Int32) (i54 : Int32) (i59 : Int32) (i61 : Int32) (i64 : Int32) (i66 : Int32) (t67 : Nat) (i76 : Int64) (i78 : Int32) (pp : Nat) (gs : PS) (tx : Nat → Nat) (hgs : gs.1 = 0) (hak : t2 ≤ t3) (hz : i5 = 0) : CT l D y ⟨"NineBoardsModel", "fail", "(II)V"⟩ prog_13_method_5_code 3 none ({ frames := 0, cells := 0, slots := 0, locals := 0 } : Room) [.ref mo, .int 1, .int (nI pp)] [MB mo ma (nI t1) (nI t2) (nI t3) i4 i5 i6 i7 i8 i42 i49 i51 i53 i54 i59 i61 i64 i66 (nI t67) i76 i78] (QV D [MB mo ma (nI t1) (nI t2) (nI t3) i4 i5 i6 i7 i8 i42 i49 i51 i53 i54 i59 i61 i64 i66 (nI t67) i76 i78] (fun (u : Int32 × Int32) => ¬ u.1 = 0 ∧ RR tx t3 (failS 1 pp gs) t2 i4 u.1 u.2) (fun u => [MB mo ma (nI t1) (nI t2) (nI t3) i4 u.1 u.2 i7 i8 i42 i49 i51 i53 i54 i59 i61 i64 i66 (nI t67) i76 i78])) := by
  refine CT.of (by decide) (nb rfl) ?_
  intro p e s m args below meth c C hr
  refine j_lv (lv' := [(0, .ref mo), (1, .int 1), (2, .int (nI pp))]) rfl ?_
  refine j_aload_n (pc := 0) C d_Model_fail_0 rfl 0 rfl ?_
  refine j_get (pc := 1) C gf_Model_201 0 rfl rfl d_Model_fail_1 ?_
  refine j_if_eqT (pc := 4) C (tgt := 8) d_Model_fail_4 (by decide) hz ?_
  refine j_aload_n (pc := 8) C d_Model_fail_8 rfl 0 rfl ?_
  refine j_iload_n (pc := 9) C d_Model_fail_9 rfl 1 rfl ?_
  refine j_put (pc := 10) C pf_Model_201 0 (ws' := [MB mo ma (nI t1) (nI t2) (nI t3) i4 1 i6 i7 i8 i42 i49 i51 i53 i54 i59 i61 i64 i66 (nI t67) i76 i78]) rfl rfl rfl (nl rfl) rfl d_Model_fail_10 ?_
  refine j_aload_n (pc := 13) C d_Model_fail_13 rfl 0 rfl ?_
  refine j_iload_n (pc := 14) C d_Model_fail_14 rfl 2 rfl ?_
  refine j_put (pc := 15) C pf_Model_204 0 (ws' := [MB mo ma (nI t1) (nI t2) (nI t3) i4 1 (nI pp) i7 i8 i42 i49 i51 i53 i54 i59 i61 i64 i66 (nI t67) i76 i78]) rfl rfl rfl (nl rfl) rfl d_Model_fail_15 ?_
  exact j_vret (pc := 18) C hr (1, nI pp) ⟨(show ¬ (1 : Int32) = 0 by decide), (rr_fl hgs (by decide) (by decide) hak)⟩ [0] rfl (by decide) (by decide) (by decide) d_Model_fail_18
set_option maxHeartbeats 4000000 in
set_option maxRecDepth 100000 in
theorem c_M_fail_2 (l : Launch) (D : va_G) (y : Nat → ClassId) (mo : Nat) (ma : Nat → Nat) (t1 : Nat) (t2 : Nat) (t3 : Nat) (i4 : Int32) (i5 : Int32) (i6 : Int32) (i7 : Int32) (i8 : Int32) (i42 : Int32) (i49 : Int32) (i51 : Int32) (i53 : Int32) (i54 : Int32) (i59 : Int32) (i61 : Int32) (i64 : Int32) (i66 : Int32) (t67 : Nat) (i76 : Int64) (i78 : Int32) (pp : Nat) (gs : PS) (tx : Nat → Nat) (hgs : gs.1 = 0) (hak : t2 ≤ t3) (hz : i5 = 0) : CT l D y ⟨"NineBoardsModel", "fail", "(II)V"⟩ prog_13_method_5_code 3 none ({ frames := 0, cells := 0, slots := 0, locals := 0 } : Room) [.ref mo, .int 2, .int (nI pp)] [MB mo ma (nI t1) (nI t2) (nI t3) i4 i5 i6 i7 i8 i42 i49 i51 i53 i54 i59 i61 i64 i66 (nI t67) i76 i78] (QV D [MB mo ma (nI t1) (nI t2) (nI t3) i4 i5 i6 i7 i8 i42 i49 i51 i53 i54 i59 i61 i64 i66 (nI t67) i76 i78] (fun (u : Int32 × Int32) => ¬ u.1 = 0 ∧ RR tx t3 (failS 2 pp gs) t2 i4 u.1 u.2) (fun u => [MB mo ma (nI t1) (nI t2) (nI t3) i4 u.1 u.2 i7 i8 i42 i49 i51 i53 i54 i59 i61 i64 i66 (nI t67) i76 i78])) := by
  refine CT.of (by decide) (nb rfl) ?_
  intro p e s m args below meth c C hr
  refine j_lv (lv' := [(0, .ref mo), (1, .int 2), (2, .int (nI pp))]) rfl ?_
  refine j_aload_n (pc := 0) C d_Model_fail_0 rfl 0 rfl ?_
  refine j_get (pc := 1) C gf_Model_201 0 rfl rfl d_Model_fail_1 ?_
  refine j_if_eqT (pc := 4) C (tgt := 8) d_Model_fail_4 (by decide) hz ?_
  refine j_aload_n (pc := 8) C d_Model_fail_8 rfl 0 rfl ?_
  refine j_iload_n (pc := 9) C d_Model_fail_9 rfl 1 rfl ?_
  refine j_put (pc := 10) C pf_Model_201 0 (ws' := [MB mo ma (nI t1) (nI t2) (nI t3) i4 2 i6 i7 i8 i42 i49 i51 i53 i54 i59 i61 i64 i66 (nI t67) i76 i78]) rfl rfl rfl (nl rfl) rfl d_Model_fail_10 ?_
  refine j_aload_n (pc := 13) C d_Model_fail_13 rfl 0 rfl ?_
  refine j_iload_n (pc := 14) C d_Model_fail_14 rfl 2 rfl ?_
  refine j_put (pc := 15) C pf_Model_204 0 (ws' := [MB mo ma (nI t1) (nI t2) (nI t3) i4 2 (nI pp) i7 i8 i42 i49 i51 i53 i54 i59 i61 i64 i66 (nI t67) i76 i78]) rfl rfl rfl (nl rfl) rfl d_Model_fail_15 ?_
  exact j_vret (pc := 18) C hr (2, nI pp) ⟨(show ¬ (2 : Int32) = 0 by decide), (rr_fl hgs (by decide) (by decide) hak)⟩ [0] rfl (by decide) (by decide) (by decide) d_Model_fail_18
set_option maxHeartbeats 4000000 in
set_option maxRecDepth 100000 in
theorem c_M_fail_3 (l : Launch) (D : va_G) (y : Nat → ClassId) (mo : Nat) (ma : Nat → Nat) (t1 : Nat) (t2 : Nat) (t3 : Nat) (i4 : Int32) (i5 : Int32) (i6 : Int32) (i7 : Int32) (i8 : Int32) (i42 : Int32) (i49 : Int32) (i51 : Int32) (i53 : Int32) (i54 : Int32) (i59 : Int32) (i61 : Int32) (i64 : Int32) (i66 : Int32) (t67 : Nat) (i76 : Int64) (i78 : Int32) (pp : Nat) (gs : PS) (tx : Nat → Nat) (hgs : gs.1 = 0) (hak : t2 ≤ t3) (hz : i5 = 0) : CT l D y ⟨"NineBoardsModel", "fail", "(II)V"⟩ prog_13_method_5_code 3 none ({ frames := 0, cells := 0, slots := 0, locals := 0 } : Room) [.ref mo, .int 3, .int (nI pp)] [MB mo ma (nI t1) (nI t2) (nI t3) i4 i5 i6 i7 i8 i42 i49 i51 i53 i54 i59 i61 i64 i66 (nI t67) i76 i78] (QV D [MB mo ma (nI t1) (nI t2) (nI t3) i4 i5 i6 i7 i8 i42 i49 i51 i53 i54 i59 i61 i64 i66 (nI t67) i76 i78] (fun (u : Int32 × Int32) => ¬ u.1 = 0 ∧ RR tx t3 (failS 3 pp gs) t2 i4 u.1 u.2) (fun u => [MB mo ma (nI t1) (nI t2) (nI t3) i4 u.1 u.2 i7 i8 i42 i49 i51 i53 i54 i59 i61 i64 i66 (nI t67) i76 i78])) := by
  refine CT.of (by decide) (nb rfl) ?_
  intro p e s m args below meth c C hr
  refine j_lv (lv' := [(0, .ref mo), (1, .int 3), (2, .int (nI pp))]) rfl ?_
  refine j_aload_n (pc := 0) C d_Model_fail_0 rfl 0 rfl ?_
  refine j_get (pc := 1) C gf_Model_201 0 rfl rfl d_Model_fail_1 ?_
  refine j_if_eqT (pc := 4) C (tgt := 8) d_Model_fail_4 (by decide) hz ?_
  refine j_aload_n (pc := 8) C d_Model_fail_8 rfl 0 rfl ?_
  refine j_iload_n (pc := 9) C d_Model_fail_9 rfl 1 rfl ?_
  refine j_put (pc := 10) C pf_Model_201 0 (ws' := [MB mo ma (nI t1) (nI t2) (nI t3) i4 3 i6 i7 i8 i42 i49 i51 i53 i54 i59 i61 i64 i66 (nI t67) i76 i78]) rfl rfl rfl (nl rfl) rfl d_Model_fail_10 ?_
  refine j_aload_n (pc := 13) C d_Model_fail_13 rfl 0 rfl ?_
  refine j_iload_n (pc := 14) C d_Model_fail_14 rfl 2 rfl ?_
  refine j_put (pc := 15) C pf_Model_204 0 (ws' := [MB mo ma (nI t1) (nI t2) (nI t3) i4 3 (nI pp) i7 i8 i42 i49 i51 i53 i54 i59 i61 i64 i66 (nI t67) i76 i78]) rfl rfl rfl (nl rfl) rfl d_Model_fail_15 ?_
  exact j_vret (pc := 18) C hr (3, nI pp) ⟨(show ¬ (3 : Int32) = 0 by decide), (rr_fl hgs (by decide) (by decide) hak)⟩ [0] rfl (by decide) (by decide) (by decide) d_Model_fail_18
set_option maxHeartbeats 4000000 in
set_option maxRecDepth 100000 in
theorem c_M_fail_4 (l : Launch) (D : va_G) (y : Nat → ClassId) (mo : Nat) (ma : Nat → Nat) (t1 : Nat) (t2 : Nat) (t3 : Nat) (i4 : Int32) (i5 : Int32) (i6 : Int32) (i7 : Int32) (i8 : Int32) (i42 : Int32) (i49 : Int32) (i51 : Int32) (i53 : Int32) (i54 : Int32) (i59 : Int32) (i61 : Int32) (i64 : Int32) (i66 : Int32) (t67 : Nat) (i76 : Int64) (i78 : Int32) (pp : Nat) (gs : PS) (tx : Nat → Nat) (hgs : gs.1 = 0) (hak : t2 ≤ t3) (hz : i5 = 0) : CT l D y ⟨"NineBoardsModel", "fail", "(II)V"⟩ prog_13_method_5_code 3 none ({ frames := 0, cells := 0, slots := 0, locals := 0 } : Room) [.ref mo, .int 4, .int (nI pp)] [MB mo ma (nI t1) (nI t2) (nI t3) i4 i5 i6 i7 i8 i42 i49 i51 i53 i54 i59 i61 i64 i66 (nI t67) i76 i78] (QV D [MB mo ma (nI t1) (nI t2) (nI t3) i4 i5 i6 i7 i8 i42 i49 i51 i53 i54 i59 i61 i64 i66 (nI t67) i76 i78] (fun (u : Int32 × Int32) => ¬ u.1 = 0 ∧ RR tx t3 (failS 4 pp gs) t2 i4 u.1 u.2) (fun u => [MB mo ma (nI t1) (nI t2) (nI t3) i4 u.1 u.2 i7 i8 i42 i49 i51 i53 i54 i59 i61 i64 i66 (nI t67) i76 i78])) := by
  refine CT.of (by decide) (nb rfl) ?_
  intro p e s m args below meth c C hr
  refine j_lv (lv' := [(0, .ref mo), (1, .int 4), (2, .int (nI pp))]) rfl ?_
  refine j_aload_n (pc := 0) C d_Model_fail_0 rfl 0 rfl ?_
  refine j_get (pc := 1) C gf_Model_201 0 rfl rfl d_Model_fail_1 ?_
  refine j_if_eqT (pc := 4) C (tgt := 8) d_Model_fail_4 (by decide) hz ?_
  refine j_aload_n (pc := 8) C d_Model_fail_8 rfl 0 rfl ?_
  refine j_iload_n (pc := 9) C d_Model_fail_9 rfl 1 rfl ?_
  refine j_put (pc := 10) C pf_Model_201 0 (ws' := [MB mo ma (nI t1) (nI t2) (nI t3) i4 4 i6 i7 i8 i42 i49 i51 i53 i54 i59 i61 i64 i66 (nI t67) i76 i78]) rfl rfl rfl (nl rfl) rfl d_Model_fail_10 ?_
  refine j_aload_n (pc := 13) C d_Model_fail_13 rfl 0 rfl ?_
  refine j_iload_n (pc := 14) C d_Model_fail_14 rfl 2 rfl ?_
  refine j_put (pc := 15) C pf_Model_204 0 (ws' := [MB mo ma (nI t1) (nI t2) (nI t3) i4 4 (nI pp) i7 i8 i42 i49 i51 i53 i54 i59 i61 i64 i66 (nI t67) i76 i78]) rfl rfl rfl (nl rfl) rfl d_Model_fail_15 ?_
  exact j_vret (pc := 18) C hr (4, nI pp) ⟨(show ¬ (4 : Int32) = 0 by decide), (rr_fl hgs (by decide) (by decide) hak)⟩ [0] rfl (by decide) (by decide) (by decide) d_Model_fail_18
set_option maxHeartbeats 4000000 in
set_option maxRecDepth 100000 in
theorem c_M_fail_5 (l : Launch) (D : va_G) (y : Nat → ClassId) (mo : Nat) (ma : Nat → Nat) (t1 : Nat) (t2 : Nat) (t3 : Nat) (i4 : Int32) (i5 : Int32) (i6 : Int32) (i7 : Int32) (i8 : Int32) (i42 : Int32) (i49 : Int32) (i51 : Int32) (i53 : Int32) (i54 : Int32) (i59 : Int32) (i61 : Int32) (i64 : Int32) (i66 : Int32) (t67 : Nat) (i76 : Int64) (i78 : Int32) (pp : Nat) (gs : PS) (tx : Nat → Nat) (hgs : gs.1 = 0) (hak : t2 ≤ t3) (hz : i5 = 0) : CT l D y ⟨"NineBoardsModel", "fail", "(II)V"⟩ prog_13_method_5_code 3 none ({ frames := 0, cells := 0, slots := 0, locals := 0 } : Room) [.ref mo, .int 5, .int (nI pp)] [MB mo ma (nI t1) (nI t2) (nI t3) i4 i5 i6 i7 i8 i42 i49 i51 i53 i54 i59 i61 i64 i66 (nI t67) i76 i78] (QV D [MB mo ma (nI t1) (nI t2) (nI t3) i4 i5 i6 i7 i8 i42 i49 i51 i53 i54 i59 i61 i64 i66 (nI t67) i76 i78] (fun (u : Int32 × Int32) => ¬ u.1 = 0 ∧ RR tx t3 (failS 5 pp gs) t2 i4 u.1 u.2) (fun u => [MB mo ma (nI t1) (nI t2) (nI t3) i4 u.1 u.2 i7 i8 i42 i49 i51 i53 i54 i59 i61 i64 i66 (nI t67) i76 i78])) := by
  refine CT.of (by decide) (nb rfl) ?_
  intro p e s m args below meth c C hr
  refine j_lv (lv' := [(0, .ref mo), (1, .int 5), (2, .int (nI pp))]) rfl ?_
  refine j_aload_n (pc := 0) C d_Model_fail_0 rfl 0 rfl ?_
  refine j_get (pc := 1) C gf_Model_201 0 rfl rfl d_Model_fail_1 ?_
  refine j_if_eqT (pc := 4) C (tgt := 8) d_Model_fail_4 (by decide) hz ?_
  refine j_aload_n (pc := 8) C d_Model_fail_8 rfl 0 rfl ?_
  refine j_iload_n (pc := 9) C d_Model_fail_9 rfl 1 rfl ?_
  refine j_put (pc := 10) C pf_Model_201 0 (ws' := [MB mo ma (nI t1) (nI t2) (nI t3) i4 5 i6 i7 i8 i42 i49 i51 i53 i54 i59 i61 i64 i66 (nI t67) i76 i78]) rfl rfl rfl (nl rfl) rfl d_Model_fail_10 ?_
  refine j_aload_n (pc := 13) C d_Model_fail_13 rfl 0 rfl ?_
  refine j_iload_n (pc := 14) C d_Model_fail_14 rfl 2 rfl ?_
  refine j_put (pc := 15) C pf_Model_204 0 (ws' := [MB mo ma (nI t1) (nI t2) (nI t3) i4 5 (nI pp) i7 i8 i42 i49 i51 i53 i54 i59 i61 i64 i66 (nI t67) i76 i78]) rfl rfl rfl (nl rfl) rfl d_Model_fail_15 ?_
  exact j_vret (pc := 18) C hr (5, nI pp) ⟨(show ¬ (5 : Int32) = 0 by decide), (rr_fl hgs (by decide) (by decide) hak)⟩ [0] rfl (by decide) (by decide) (by decide) d_Model_fail_18
set_option maxHeartbeats 4000000 in
set_option maxRecDepth 100000 in
theorem c_M_isLetter_m (l : Launch) (D : va_G) (y : Nat → ClassId)   : CT l D y ⟨"NineBoardsModel", "isLetter", "(I)Z"⟩ prog_13_method_6_code 1 (some .boolean) ({ frames := 0, cells := 0, slots := 0, locals := 0 } : Room) [.int (-1)] [] (QI D [] (fun (r : Int32) (_ : Unit) => r = 0) (fun _ => [])) := by
  refine CT.of (by decide) (nb rfl) ?_
  intro p e s m args below meth c C hr
  refine j_lv (lv' := [(0, .int (-1))]) rfl ?_
  refine j_iload_n (pc := 0) C d_Model_isLetter_0 rfl 0 rfl ?_
  refine j_bipush (pc := 1) C (v := 97) d_Model_isLetter_1 (by decide) ?_
  refine j_icmp_ltT (pc := 3) C (tgt := 16) d_Model_isLetter_3 (by decide) (by decide) ?_
  refine j_iconst (pc := 16) C (v := 0) d_Model_isLetter_16 (by decide) ?_
  exact j_iret (pc := 17) C hr (by decide) () rfl [] rfl (by decide) (by decide) (by decide) d_Model_isLetter_17
set_option maxHeartbeats 4000000 in
set_option maxRecDepth 100000 in
theorem c_M_isLetter_n (l : Launch) (D : va_G) (y : Nat → ClassId) (cv : Nat) (h256 : cv < 256) : CT l D y ⟨"NineBoardsModel", "isLetter", "(I)Z"⟩ prog_13_method_6_code 1 (some .boolean) ({ frames := 0, cells := 0, slots := 0, locals := 0 } : Room) [.int (nI cv)] [] (QI D [] (fun (r : Int32) (u : Unit) => ((r = 0 ∧ ¬ srt cv = 1) ∨ (r = 1 ∧ srt cv = 1))) (fun _ => [])) := by
  refine CT.of (by decide) (nb rfl) ?_
  intro p e s m args below meth c C hr
  refine j_lv (lv' := [(0, .int (nI cv))]) rfl ?_
  refine j_iload_n (pc := 0) C d_Model_isLetter_0 rfl 0 rfl ?_
  refine j_bipush (pc := 1) C (v := 97) d_Model_isLetter_1 (by decide) ?_
  by_cases c1 : cv < 97
  · refine j_icmp_ltT (pc := 3) C (tgt := 16) d_Model_isLetter_3 (by decide) (show nI cv < nI 97 from nI_lt (by omega) (by omega)) ?_
    refine j_iconst (pc := 16) C (v := 0) d_Model_isLetter_16 (by decide) ?_
    exact j_iret (pc := 17) C hr (by decide) () (Or.inl ⟨rfl, fun e => by have := srt_1' e; omega⟩) [] rfl (by decide) (by decide) (by decide) d_Model_isLetter_17
  · refine j_icmp_ltF (pc := 3) C (tgt := 16) d_Model_isLetter_3 (by decide) (show ¬ nI cv < nI 97 from nI_nlt (by omega) (by omega)) ?_
    refine j_iload_n (pc := 6) C d_Model_isLetter_6 rfl 0 rfl ?_
    refine j_bipush (pc := 7) C (v := 122) d_Model_isLetter_7 (by decide) ?_
    by_cases c2 : 122 < cv
    · refine j_icmp_gtT (pc := 9) C (tgt := 16) d_Model_isLetter_9 (by decide) (show nI 122 < nI cv from nI_lt (by omega) (by omega)) ?_
      refine j_iconst (pc := 16) C (v := 0) d_Model_isLetter_16 (by decide) ?_
      exact j_iret (pc := 17) C hr (by decide) () (Or.inl ⟨rfl, fun e => by have := srt_1' e; omega⟩) [] rfl (by decide) (by decide) (by decide) d_Model_isLetter_17
    · refine j_icmp_gtF (pc := 9) C (tgt := 16) d_Model_isLetter_9 (by decide) (show ¬ nI 122 < nI cv from nI_nlt (by omega) (by omega)) ?_
      refine j_iconst (pc := 12) C (v := 1) d_Model_isLetter_12 (by decide) ?_
      refine j_goto (pc := 13) C (tgt := 17) d_Model_isLetter_13 (by decide) ?_
      exact j_iret (pc := 17) C hr (by decide) () (Or.inr ⟨rfl, srt_1 (by omega) (by omega)⟩) [] rfl (by decide) (by decide) (by decide) d_Model_isLetter_17
set_option maxHeartbeats 4000000 in
set_option maxRecDepth 100000 in
theorem c_M_isDigit_m (l : Launch) (D : va_G) (y : Nat → ClassId)   : CT l D y ⟨"NineBoardsModel", "isDigit", "(I)Z"⟩ prog_13_method_7_code 1 (some .boolean) ({ frames := 0, cells := 0, slots := 0, locals := 0 } : Room) [.int (-1)] [] (QI D [] (fun (r : Int32) (_ : Unit) => r = 0) (fun _ => [])) := by
  refine CT.of (by decide) (nb rfl) ?_
  intro p e s m args below meth c C hr
  refine j_lv (lv' := [(0, .int (-1))]) rfl ?_
  refine j_iload_n (pc := 0) C d_Model_isDigit_0 rfl 0 rfl ?_
  refine j_bipush (pc := 1) C (v := 48) d_Model_isDigit_1 (by decide) ?_
  refine j_icmp_ltT (pc := 3) C (tgt := 16) d_Model_isDigit_3 (by decide) (by decide) ?_
  refine j_iconst (pc := 16) C (v := 0) d_Model_isDigit_16 (by decide) ?_
  exact j_iret (pc := 17) C hr (by decide) () rfl [] rfl (by decide) (by decide) (by decide) d_Model_isDigit_17
set_option maxHeartbeats 4000000 in
set_option maxRecDepth 100000 in
theorem c_M_isDigit_n (l : Launch) (D : va_G) (y : Nat → ClassId) (cv : Nat) (h256 : cv < 256) : CT l D y ⟨"NineBoardsModel", "isDigit", "(I)Z"⟩ prog_13_method_7_code 1 (some .boolean) ({ frames := 0, cells := 0, slots := 0, locals := 0 } : Room) [.int (nI cv)] [] (QI D [] (fun (r : Int32) (u : Unit) => ((r = 0 ∧ ¬ srt cv = 2) ∨ (r = 1 ∧ srt cv = 2))) (fun _ => [])) := by
  refine CT.of (by decide) (nb rfl) ?_
  intro p e s m args below meth c C hr
  refine j_lv (lv' := [(0, .int (nI cv))]) rfl ?_
  refine j_iload_n (pc := 0) C d_Model_isDigit_0 rfl 0 rfl ?_
  refine j_bipush (pc := 1) C (v := 48) d_Model_isDigit_1 (by decide) ?_
  by_cases c1 : cv < 48
  · refine j_icmp_ltT (pc := 3) C (tgt := 16) d_Model_isDigit_3 (by decide) (show nI cv < nI 48 from nI_lt (by omega) (by omega)) ?_
    refine j_iconst (pc := 16) C (v := 0) d_Model_isDigit_16 (by decide) ?_
    exact j_iret (pc := 17) C hr (by decide) () (Or.inl ⟨rfl, fun e => by have := srt_2' e; omega⟩) [] rfl (by decide) (by decide) (by decide) d_Model_isDigit_17
  · refine j_icmp_ltF (pc := 3) C (tgt := 16) d_Model_isDigit_3 (by decide) (show ¬ nI cv < nI 48 from nI_nlt (by omega) (by omega)) ?_
    refine j_iload_n (pc := 6) C d_Model_isDigit_6 rfl 0 rfl ?_
    refine j_bipush (pc := 7) C (v := 57) d_Model_isDigit_7 (by decide) ?_
    by_cases c2 : 57 < cv
    · refine j_icmp_gtT (pc := 9) C (tgt := 16) d_Model_isDigit_9 (by decide) (show nI 57 < nI cv from nI_lt (by omega) (by omega)) ?_
      refine j_iconst (pc := 16) C (v := 0) d_Model_isDigit_16 (by decide) ?_
      exact j_iret (pc := 17) C hr (by decide) () (Or.inl ⟨rfl, fun e => by have := srt_2' e; omega⟩) [] rfl (by decide) (by decide) (by decide) d_Model_isDigit_17
    · refine j_icmp_gtF (pc := 9) C (tgt := 16) d_Model_isDigit_9 (by decide) (show ¬ nI 57 < nI cv from nI_nlt (by omega) (by omega)) ?_
      refine j_iconst (pc := 12) C (v := 1) d_Model_isDigit_12 (by decide) ?_
      refine j_goto (pc := 13) C (tgt := 17) d_Model_isDigit_13 (by decide) ?_
      exact j_iret (pc := 17) C hr (by decide) () (Or.inr ⟨rfl, srt_2 (by omega) (by omega)⟩) [] rfl (by decide) (by decide) (by decide) d_Model_isDigit_17
theorem d_Model_look_0 : decode prog_13_method_8_code 0 = .ok (.aload_n 0, 1) := by decide +kernel
theorem d_Model_look_1 : decode prog_13_method_8_code 1 = .ok (.getfield 207, 3) := by decide +kernel
theorem gf_Model_207 : GF "NineBoardsModel" 207 10 2 := ⟨_, _, _, rfl, ci_Model, by decide, (mt_5 (List.mem_of_getElem? (i := 90) rfl) rfl)⟩
theorem d_Model_look_4 : decode prog_13_method_8_code 4 = .ok (.aload_n 0, 1) := by decide +kernel
theorem d_Model_look_5 : decode prog_13_method_8_code 5 = .ok (.getfield 210, 3) := by decide +kernel
theorem gf_Model_210 : GF "NineBoardsModel" 210 10 3 := ⟨_, _, _, rfl, ci_Model, by decide, (mt_5 (List.mem_of_getElem? (i := 91) rfl) rfl)⟩
theorem d_Model_look_8 : decode prog_13_method_8_code 8 = .ok (.if_icmp .ge 44, 3) := by decide +kernel
theorem d_Model_look_52 : decode prog_13_method_8_code 52 = .ok (.aload_n 0, 1) := by decide +kernel
theorem d_Model_look_53 : decode prog_13_method_8_code 53 = .ok (.getfield 207, 3) := by decide +kernel
theorem d_Model_look_56 : decode prog_13_method_8_code 56 = .ok (.aload_n 0, 1) := by decide +kernel
theorem d_Model_look_57 : decode prog_13_method_8_code 57 = .ok (.getfield 210, 3) := by decide +kernel
theorem d_Model_look_60 : decode prog_13_method_8_code 60 = .ok (.if_icmp .ge 15, 3) := by decide +kernel
theorem d_Model_look_75 : decode prog_13_method_8_code 75 = .ok (.iconst (-1), 1) := by decide +kernel
theorem d_Model_look_76 : decode prog_13_method_8_code 76 = .ok (.ireturn, 1) := by decide +kernel
theorem d_Model_look_63 : decode prog_13_method_8_code 63 = .ok (.aload_n 0, 1) := by decide +kernel
theorem d_Model_look_64 : decode prog_13_method_8_code 64 = .ok (.getfield 7, 3) := by decide +kernel
theorem d_Model_look_67 : decode prog_13_method_8_code 67 = .ok (.aload_n 0, 1) := by decide +kernel
theorem d_Model_look_68 : decode prog_13_method_8_code 68 = .ok (.getfield 207, 3) := by decide +kernel
theorem d_Model_look_71 : decode prog_13_method_8_code 71 = .ok (.iaload, 1) := by decide +kernel
theorem d_Model_look_72 : decode prog_13_method_8_code 72 = .ok (.goto 4, 3) := by decide +kernel
theorem d_Model_look_11 : decode prog_13_method_8_code 11 = .ok (.aload_n 0, 1) := by decide +kernel
theorem d_Model_look_12 : decode prog_13_method_8_code 12 = .ok (.getfield 7, 3) := by decide +kernel
theorem d_Model_look_15 : decode prog_13_method_8_code 15 = .ok (.aload_n 0, 1) := by decide +kernel
theorem d_Model_look_16 : decode prog_13_method_8_code 16 = .ok (.getfield 207, 3) := by decide +kernel
theorem d_Model_look_19 : decode prog_13_method_8_code 19 = .ok (.iaload, 1) := by decide +kernel
theorem d_Model_look_20 : decode prog_13_method_8_code 20 = .ok (.bipush 10, 2) := by decide +kernel
theorem d_Model_look_22 : decode prog_13_method_8_code 22 = .ok (.if_icmp .eq 17, 3) := by decide +kernel
theorem d_Model_look_39 : decode prog_13_method_8_code 39 = .ok (.aload_n 0, 1) := by decide +kernel
theorem d_Model_look_40 : decode prog_13_method_8_code 40 = .ok (.dup, 1) := by decide +kernel
theorem d_Model_look_41 : decode prog_13_method_8_code 41 = .ok (.getfield 207, 3) := by decide +kernel
theorem d_Model_look_44 : decode prog_13_method_8_code 44 = .ok (.iconst 1, 1) := by decide +kernel
theorem d_Model_look_45 : decode prog_13_method_8_code 45 = .ok (.iadd, 1) := by decide +kernel
theorem d_Model_look_46 : decode prog_13_method_8_code 46 = .ok (.putfield 207, 3) := by decide +kernel
theorem pf_Model_207 : PF "NineBoardsModel" 207 10 2 (.int) false := ⟨_, _, _, ct_Model, rfl, ci_Model, by decide, (mt_5 (List.mem_of_getElem? (i := 90) rfl) rfl), cp_Model, cn_Model, rfl, by decide +kernel, (fun h => by cases h)⟩
theorem d_Model_look_49 : decode prog_13_method_8_code 49 = .ok (.goto (-49), 3) := by decide +kernel
theorem d_Model_look_25 : decode prog_13_method_8_code 25 = .ok (.aload_n 0, 1) := by decide +kernel
theorem d_Model_look_26 : decode prog_13_method_8_code 26 = .ok (.getfield 7, 3) := by decide +kernel
theorem d_Model_look_29 : decode prog_13_method_8_code 29 = .ok (.aload_n 0, 1) := by decide +kernel
theorem d_Model_look_30 : decode prog_13_method_8_code 30 = .ok (.getfield 207, 3) := by decide +kernel
theorem d_Model_look_33 : decode prog_13_method_8_code 33 = .ok (.iaload, 1) := by decide +kernel
theorem d_Model_look_34 : decode prog_13_method_8_code 34 = .ok (.bipush 32, 2) := by decide +kernel
theorem d_Model_look_36 : decode prog_13_method_8_code 36 = .ok (.if_icmp .ne 16, 3) := by decide +kernel
set_option maxHeartbeats 4000000 in
set_option maxRecDepth 100000 in
theorem c_M_look (l : Launch) (D : va_G) (y : Nat → ClassId) (mo : Nat) (ma : Nat → Nat) (t1 : Nat) (t2 : Nat) (t3 : Nat) (i4 : Int32) (i5 : Int32) (i6 : Int32) (i7 : Int32) (i8 : Int32) (i42 : Int32) (i49 : Int32) (i51 : Int32) (i53 : Int32) (i54 : Int32) (i59 : Int32) (i61 : Int32) (i64 : Int32) (i66 : Int32) (t67 : Nat) (i76 : Int64) (i78 : Int32) (tx : Nat → Nat) (gs : PS) (ha : t2 ≤ t3) (he : t3 ≤ 1600) (hB : ∀ j, tx j < 256) (hx : RR tx t3 gs t2 i4 i5 i6) (hz : i5 = 0) : CT l D y ⟨"NineBoardsModel", "look", "()I"⟩ prog_13_method_8_code 1 (some .int) ({ frames := 0, cells := 0, slots := 0, locals := 0 } : Room) [.ref mo] [MB mo ma (nI t1) (nI t2) (nI t3) i4 i5 i6 i7 i8 i42 i49 i51 i53 i54 i59 i61 i64 i66 (nI t67) i76 i78, (ma 0, .inl (y 0, 1600, .inl (tby tx)))] (QI D [MB mo ma (nI t1) (nI t2) (nI t3) i4 i5 i6 i7 i8 i42 i49 i51 i53 i54 i59 i61 i64 i66 (nI t67) i76 i78, (ma 0, .inl (y 0, 1600, .inl (tby tx)))] (fun (r : Int32) (u : Nat) => t2 ≤ u ∧ u ≤ t3 ∧ u = stS tx t3 gs ∧ RR tx t3 gs u i4 i5 i6 ∧ ((r = -1 ∧ t3 ≤ u) ∨ (r = nI (tx u) ∧ u < t3))) (fun u => [MB mo ma (nI t1) (nI u) (nI t3) i4 i5 i6 i7 i8 i42 i49 i51 i53 i54 i59 i61 i64 i66 (nI t67) i76 i78, (ma 0, .inl (y 0, 1600, .inl (tby tx)))])) := by
  refine CT.of (by decide) (nb rfl) ?_
  intro p e s m args below meth c C hr
  refine j_lv (lv' := [(0, .ref mo)]) rfl ?_
  refine j_loop (α := Nat) (fun a => t3 - a) (fun a => (a ≤ t3) ∧ (t2 ≤ a) ∧ ((∀ i, t2 ≤ i → i < a → tx i = 32 ∨ tx i = 10))) (fun a => [MB mo ma (nI t1) (nI a) (nI t3) i4 i5 i6 i7 i8 i42 i49 i51 i53 i54 i59 i61 i64 i66 (nI t67) i76 i78, (ma 0, .inl (y 0, 1600, .inl (tby tx)))]) (fun a => [(0, .ref mo)]) (t2) rfl rfl ⟨ha, (show t2 ≤ t2 by omega), (fun i h1 h2 => absurd h1 (by omega))⟩ ?_
  rintro az hP8 ih9
  obtain ⟨hz__, hy__, hc__⟩ := hP8
  have hz_ : az ≤ t3 := hz__
  have hy_ : t2 ≤ az := hy__
  have hc_ : (∀ i, t2 ≤ i → i < az → tx i = 32 ∨ tx i = 10) := hc__
  refine j_ws (ws' := [MB mo ma (nI t1) (nI az) (nI t3) i4 i5 i6 i7 i8 i42 i49 i51 i53 i54 i59 i61 i64 i66 (nI t67) i76 i78, (ma 0, .inl (y 0, 1600, .inl (tby tx)))]) rfl ?_
  refine j_lv (lv' := [(0, .ref mo)]) rfl ?_
  refine j_aload_n (pc := 0) C d_Model_look_0 rfl 0 rfl ?_
  refine j_get (pc := 1) C gf_Model_207 0 rfl rfl d_Model_look_1 ?_
  refine j_aload_n (pc := 4) C d_Model_look_4 rfl 0 rfl ?_
  refine j_get (pc := 5) C gf_Model_210 0 rfl rfl d_Model_look_5 ?_
  by_cases c10 : t3 ≤ az
  · refine j_icmp_geT (pc := 8) C (tgt := 52) d_Model_look_8 (by decide) (show nI t3 ≤ nI az from nI_le (by omega) (by omega)) ?_
    refine j_aload_n (pc := 52) C d_Model_look_52 rfl 0 rfl ?_
    refine j_get (pc := 53) C gf_Model_207 0 rfl rfl d_Model_look_53 ?_
    refine j_aload_n (pc := 56) C d_Model_look_56 rfl 0 rfl ?_
    refine j_get (pc := 57) C gf_Model_210 0 rfl rfl d_Model_look_57 ?_
    by_cases c11 : t3 ≤ az
    · refine j_icmp_geT (pc := 60) C (tgt := 75) d_Model_look_60 (by decide) (show nI t3 ≤ nI az from nI_le (by omega) (by omega)) ?_
      refine j_iconst (pc := 75) C (v := (-1)) d_Model_look_75 (by decide) ?_
      exact j_iret (pc := 76) C hr rfl az ⟨(show t2 ≤ az by omega), (show az ≤ t3 by omega), (show az = stS tx t3 gs from ((sq_eq (by omega) (fun i h1 h2 => ⟨by omega, decide_eq_true (hc_ i h1 h2)⟩) (fun h => by have h1 := h.1; have h2 : tx az = 32 ∨ tx az = 10 := of_decide_eq_true h.2; omega)).symm.trans (rr_look hx ((rr_z hx).mp hz)))), (rr_at0 hx ((rr_z hx).mp hz) ((sq_eq (by omega) (fun i h1 h2 => ⟨by omega, decide_eq_true (hc_ i h1 h2)⟩) (fun h => by have h1 := h.1; have h2 : tx az = 32 ∨ tx az = 10 := of_decide_eq_true h.2; omega)).symm.trans (rr_look hx ((rr_z hx).mp hz)))), (Or.inl ⟨rfl, by omega⟩)⟩ [0, 1] rfl (by decide) (by decide) (by decide) d_Model_look_76
    · refine j_icmp_geF (pc := 60) C (tgt := 75) d_Model_look_60 (by decide) (show ¬ nI t3 ≤ nI az from nI_ge (by omega) (by omega)) ?_
      refine j_aload_n (pc := 63) C d_Model_look_63 rfl 0 rfl ?_
      refine j_get (pc := 64) C gf_Model_7 0 rfl rfl d_Model_look_64 ?_
      refine j_aload_n (pc := 67) C d_Model_look_67 rfl 0 rfl ?_
      refine j_get (pc := 68) C gf_Model_207 0 rfl rfl d_Model_look_68 ?_
      have hb12 : tx az < 256 := hB az
      refine j_iald (pc := 71) C 1 rfl (v := nI (tx az)) (vp_in_nI (by omega) (by decide)) (by rw [nI_clamp (by omega)]; rfl) d_Model_look_71 ?_
      refine j_goto (pc := 72) C (tgt := 76) d_Model_look_72 (by decide) ?_
      exact j_iret (pc := 76) C hr rfl az ⟨(show t2 ≤ az by omega), (show az ≤ t3 by omega), (show az = stS tx t3 gs from ((sq_eq (by omega) (fun i h1 h2 => ⟨by omega, decide_eq_true (hc_ i h1 h2)⟩) (fun h => by have h1 := h.1; have h2 : tx az = 32 ∨ tx az = 10 := of_decide_eq_true h.2; omega)).symm.trans (rr_look hx ((rr_z hx).mp hz)))), (rr_at0 hx ((rr_z hx).mp hz) ((sq_eq (by omega) (fun i h1 h2 => ⟨by omega, decide_eq_true (hc_ i h1 h2)⟩) (fun h => by have h1 := h.1; have h2 : tx az = 32 ∨ tx az = 10 := of_decide_eq_true h.2; omega)).symm.trans (rr_look hx ((rr_z hx).mp hz)))), (Or.inr ⟨rfl, by omega⟩)⟩ [0, 1] rfl (by decide) (by decide) (by decide) d_Model_look_76
  · refine j_icmp_geF (pc := 8) C (tgt := 52) d_Model_look_8 (by decide) (show ¬ nI t3 ≤ nI az from nI_ge (by omega) (by omega)) ?_
    refine j_aload_n (pc := 11) C d_Model_look_11 rfl 0 rfl ?_
    refine j_get (pc := 12) C gf_Model_7 0 rfl rfl d_Model_look_12 ?_
    refine j_aload_n (pc := 15) C d_Model_look_15 rfl 0 rfl ?_
    refine j_get (pc := 16) C gf_Model_207 0 rfl rfl d_Model_look_16 ?_
    have hb13 : tx az < 256 := hB az
    refine j_iald (pc := 19) C 1 rfl (v := nI (tx az)) (vp_in_nI (by omega) (by decide)) (by rw [nI_clamp (by omega)]; rfl) d_Model_look_19 ?_
    refine j_bipush (pc := 20) C (v := 10) d_Model_look_20 (by decide) ?_
    by_cases c14 : (tx az) = 10
    · refine j_icmp_eqT (pc := 22) C (tgt := 39) d_Model_look_22 (by decide) (show nI (tx az) = nI 10 from (nI_eq (by omega) (by omega)).mpr (by omega)) ?_
      refine j_aload_n (pc := 39) C d_Model_look_39 rfl 0 rfl ?_
      refine j_dup (pc := 40) C d_Model_look_40 rfl ?_
      refine j_get (pc := 41) C gf_Model_207 0 rfl rfl d_Model_look_41 ?_
      refine j_iconst (pc := 44) C (v := 1) d_Model_look_44 (by decide) ?_
      refine j_iadd (pc := 45) C (v := nI (az + 1)) d_Model_look_45 (nI_add _ _) ?_
      refine j_put (pc := 46) C pf_Model_207 0 (ws' := [MB mo ma (nI t1) (nI (az + 1)) (nI t3) i4 i5 i6 i7 i8 i42 i49 i51 i53 i54 i59 i61 i64 i66 (nI t67) i76 i78, (ma 0, .inl (y 0, 1600, .inl (tby tx)))]) rfl rfl rfl (nl rfl) rfl d_Model_look_46 ?_
      refine j_goto (pc := 49) C (tgt := 0) d_Model_look_49 (by decide) ?_
      exact ih9 ((az + 1)) ⟨(show (az + 1) ≤ t3 by omega), (show t2 ≤ (az + 1) by omega), (fun i h1 h2 => by
              by_cases e : i = az
              · rw [e]; omega
              · exact hc_ i h1 (by omega))⟩ (show t3 - (az + 1) < t3 - az by omega)
    · refine j_icmp_eqF (pc := 22) C (tgt := 39) d_Model_look_22 (by decide) (show ¬ nI (tx az) = nI 10 from fun e => absurd ((nI_eq (by omega) (by omega)).mp e) (by omega)) ?_
      refine j_aload_n (pc := 25) C d_Model_look_25 rfl 0 rfl ?_
      refine j_get (pc := 26) C gf_Model_7 0 rfl rfl d_Model_look_26 ?_
      refine j_aload_n (pc := 29) C d_Model_look_29 rfl 0 rfl ?_
      refine j_get (pc := 30) C gf_Model_207 0 rfl rfl d_Model_look_30 ?_
      refine j_iald (pc := 33) C 1 rfl (v := nI (tx az)) (vp_in_nI (by omega) (by decide)) (by rw [nI_clamp (by omega)]; rfl) d_Model_look_33 ?_
      refine j_bipush (pc := 34) C (v := 32) d_Model_look_34 (by decide) ?_
      by_cases c15 : ¬ (tx az) = 32
      · refine j_icmp_neT (pc := 36) C (tgt := 52) d_Model_look_36 (by decide) (show ¬ nI (tx az) = nI 32 from fun e => absurd ((nI_eq (by omega) (by omega)).mp e) (by omega)) ?_
        refine j_aload_n (pc := 52) C d_Model_look_52 rfl 0 rfl ?_
        refine j_get (pc := 53) C gf_Model_207 0 rfl rfl d_Model_look_53 ?_
        refine j_aload_n (pc := 56) C d_Model_look_56 rfl 0 rfl ?_
        refine j_get (pc := 57) C gf_Model_210 0 rfl rfl d_Model_look_57 ?_
        by_cases c16 : t3 ≤ az
        · refine j_icmp_geT (pc := 60) C (tgt := 75) d_Model_look_60 (by decide) (show nI t3 ≤ nI az from nI_le (by omega) (by omega)) ?_
          refine j_iconst (pc := 75) C (v := (-1)) d_Model_look_75 (by decide) ?_
          exact j_iret (pc := 76) C hr rfl az ⟨(show t2 ≤ az by omega), (show az ≤ t3 by omega), (show az = stS tx t3 gs from ((sq_eq (by omega) (fun i h1 h2 => ⟨by omega, decide_eq_true (hc_ i h1 h2)⟩) (fun h => by have h1 := h.1; have h2 : tx az = 32 ∨ tx az = 10 := of_decide_eq_true h.2; omega)).symm.trans (rr_look hx ((rr_z hx).mp hz)))), (rr_at0 hx ((rr_z hx).mp hz) ((sq_eq (by omega) (fun i h1 h2 => ⟨by omega, decide_eq_true (hc_ i h1 h2)⟩) (fun h => by have h1 := h.1; have h2 : tx az = 32 ∨ tx az = 10 := of_decide_eq_true h.2; omega)).symm.trans (rr_look hx ((rr_z hx).mp hz)))), (Or.inl ⟨rfl, by omega⟩)⟩ [0, 1] rfl (by decide) (by decide) (by decide) d_Model_look_76
        · refine j_icmp_geF (pc := 60) C (tgt := 75) d_Model_look_60 (by decide) (show ¬ nI t3 ≤ nI az from nI_ge (by omega) (by omega)) ?_
          refine j_aload_n (pc := 63) C d_Model_look_63 rfl 0 rfl ?_
          refine j_get (pc := 64) C gf_Model_7 0 rfl rfl d_Model_look_64 ?_
          refine j_aload_n (pc := 67) C d_Model_look_67 rfl 0 rfl ?_
          refine j_get (pc := 68) C gf_Model_207 0 rfl rfl d_Model_look_68 ?_
          refine j_iald (pc := 71) C 1 rfl (v := nI (tx az)) (vp_in_nI (by omega) (by decide)) (by rw [nI_clamp (by omega)]; rfl) d_Model_look_71 ?_
          refine j_goto (pc := 72) C (tgt := 76) d_Model_look_72 (by decide) ?_
          exact j_iret (pc := 76) C hr rfl az ⟨(show t2 ≤ az by omega), (show az ≤ t3 by omega), (show az = stS tx t3 gs from ((sq_eq (by omega) (fun i h1 h2 => ⟨by omega, decide_eq_true (hc_ i h1 h2)⟩) (fun h => by have h1 := h.1; have h2 : tx az = 32 ∨ tx az = 10 := of_decide_eq_true h.2; omega)).symm.trans (rr_look hx ((rr_z hx).mp hz)))), (rr_at0 hx ((rr_z hx).mp hz) ((sq_eq (by omega) (fun i h1 h2 => ⟨by omega, decide_eq_true (hc_ i h1 h2)⟩) (fun h => by have h1 := h.1; have h2 : tx az = 32 ∨ tx az = 10 := of_decide_eq_true h.2; omega)).symm.trans (rr_look hx ((rr_z hx).mp hz)))), (Or.inr ⟨rfl, by omega⟩)⟩ [0, 1] rfl (by decide) (by decide) (by decide) d_Model_look_76
      · refine j_icmp_neF (pc := 36) C (tgt := 52) d_Model_look_36 (by decide) (show nI (tx az) = nI 32 from (nI_eq (by omega) (by omega)).mpr (by omega)) ?_
        refine j_aload_n (pc := 39) C d_Model_look_39 rfl 0 rfl ?_
        refine j_dup (pc := 40) C d_Model_look_40 rfl ?_
        refine j_get (pc := 41) C gf_Model_207 0 rfl rfl d_Model_look_41 ?_
        refine j_iconst (pc := 44) C (v := 1) d_Model_look_44 (by decide) ?_
        refine j_iadd (pc := 45) C (v := nI (az + 1)) d_Model_look_45 (nI_add _ _) ?_
        refine j_put (pc := 46) C pf_Model_207 0 (ws' := [MB mo ma (nI t1) (nI (az + 1)) (nI t3) i4 i5 i6 i7 i8 i42 i49 i51 i53 i54 i59 i61 i64 i66 (nI t67) i76 i78, (ma 0, .inl (y 0, 1600, .inl (tby tx)))]) rfl rfl rfl (nl rfl) rfl d_Model_look_46 ?_
        refine j_goto (pc := 49) C (tgt := 0) d_Model_look_49 (by decide) ?_
        exact ih9 ((az + 1)) ⟨(show (az + 1) ≤ t3 by omega), (show t2 ≤ (az + 1) by omega), (fun i h1 h2 => by
                by_cases e : i = az
                · rw [e]; omega
                · exact hc_ i h1 (by omega))⟩ (show t3 - (az + 1) < t3 - az by omega)
theorem d_Model_isHere_0 : decode prog_13_method_9_code 0 = .ok (.aload_n 0, 1) := by decide +kernel
theorem d_Model_isHere_1 : decode prog_13_method_9_code 1 = .ok (.getfield 201, 3) := by decide +kernel
theorem d_Model_isHere_4 : decode prog_13_method_9_code 4 = .ok (.ifCond .ne 24, 3) := by decide +kernel
theorem d_Model_isHere_28 : decode prog_13_method_9_code 28 = .ok (.iconst 0, 1) := by decide +kernel
theorem d_Model_isHere_29 : decode prog_13_method_9_code 29 = .ok (.ireturn, 1) := by decide +kernel
theorem d_Model_isHere_7 : decode prog_13_method_9_code 7 = .ok (.aload_n 0, 1) := by decide +kernel
theorem d_Model_isHere_8 : decode prog_13_method_9_code 8 = .ok (.invokevirtual 213, 3) := by decide +kernel
theorem kw_Model_213 : KW "NineBoardsModel" 213 ⟨"NineBoardsModel", "look", "()I"⟩ prog_13_method_8_code 1 (some .int) 0 := ⟨(mt_6 (List.mem_of_getElem? (i := 116) rfl) rfl), (mt_1 (List.mem_of_getElem? (i := 16) rfl) rfl), (mt_6 (List.mem_of_getElem? (i := 119) rfl) rfl), by decide +kernel⟩
theorem kv_Model_look : Cond.instanceMethod ⟨"NineBoardsModel", "look", "()I"⟩ ∈ TB ∧ Cond.selects "NineBoardsModel" ⟨"NineBoardsModel", "look", "()I"⟩ ⟨"NineBoardsModel", "look", "()I"⟩ ∈ TB := ⟨(mt_6 (List.mem_of_getElem? (i := 118) rfl) rfl), (ms_0 (List.mem_map.mpr ⟨(⟨"NineBoardsModel", "look", "()I"⟩, 79), List.mem_of_getElem? (i := 53) (by decide +kernel), rfl⟩) rfl)⟩
theorem d_Model_isHere_11 : decode prog_13_method_9_code 11 = .ok (.invokestatic 217, 3) := by decide +kernel
theorem kw_Model_217 : KW "NineBoardsModel" 217 ⟨"NineBoardsModel", "isLetter", "(I)Z"⟩ prog_13_method_6_code 1 (some .boolean) 1 := ⟨(mt_6 (List.mem_of_getElem? (i := 120) rfl) rfl), (mt_1 (List.mem_of_getElem? (i := 16) rfl) rfl), (mt_6 (List.mem_of_getElem? (i := 122) rfl) rfl), by decide +kernel⟩
theorem ks_Model_isLetter : Cond.static ⟨"NineBoardsModel", "isLetter", "(I)Z"⟩ ∈ TB := (mt_6 (List.mem_of_getElem? (i := 121) rfl) rfl)
theorem d_Model_isHere_14 : decode prog_13_method_9_code 14 = .ok (.ifCond .eq 14, 3) := by decide +kernel
theorem d_Model_isHere_17 : decode prog_13_method_9_code 17 = .ok (.aload_n 0, 1) := by decide +kernel
theorem d_Model_isHere_18 : decode prog_13_method_9_code 18 = .ok (.getfield 207, 3) := by decide +kernel
theorem d_Model_isHere_21 : decode prog_13_method_9_code 21 = .ok (.aload_n 0, 1) := by decide +kernel
theorem d_Model_isHere_22 : decode prog_13_method_9_code 22 = .ok (.getfield 221, 3) := by decide +kernel
theorem gf_Model_221 : GF "NineBoardsModel" 221 10 4 := ⟨_, _, _, rfl, ci_Model, by decide, (mt_5 (List.mem_of_getElem? (i := 92) rfl) rfl)⟩
theorem d_Model_isHere_25 : decode prog_13_method_9_code 25 = .ok (.if_icmp .ne 5, 3) := by decide +kernel
theorem d_Model_isHere_30 : decode prog_13_method_9_code 30 = .ok (.aload_n 0, 1) := by decide +kernel
theorem d_Model_isHere_31 : decode prog_13_method_9_code 31 = .ok (.getfield 207, 3) := by decide +kernel
theorem d_Model_isHere_34 : decode prog_13_method_9_code 34 = .ok (.istore_n 2, 1) := by decide +kernel
theorem d_Model_isHere_35 : decode prog_13_method_9_code 35 = .ok (.iload_n 2, 1) := by decide +kernel
theorem d_Model_isHere_36 : decode prog_13_method_9_code 36 = .ok (.aload_n 0, 1) := by decide +kernel
theorem d_Model_isHere_37 : decode prog_13_method_9_code 37 = .ok (.getfield 210, 3) := by decide +kernel
theorem d_Model_isHere_40 : decode prog_13_method_9_code 40 = .ok (.if_icmp .ge 21, 3) := by decide +kernel
theorem d_Model_isHere_61 : decode prog_13_method_9_code 61 = .ok (.iload_n 2, 1) := by decide +kernel
theorem d_Model_isHere_62 : decode prog_13_method_9_code 62 = .ok (.aload_n 0, 1) := by decide +kernel
theorem d_Model_isHere_63 : decode prog_13_method_9_code 63 = .ok (.getfield 207, 3) := by decide +kernel
theorem d_Model_isHere_66 : decode prog_13_method_9_code 66 = .ok (.isub, 1) := by decide +kernel
theorem d_Model_isHere_67 : decode prog_13_method_9_code 67 = .ok (.aload_n 1, 1) := by decide +kernel
theorem d_Model_isHere_68 : decode prog_13_method_9_code 68 = .ok (.arraylength, 1) := by decide +kernel
theorem d_Model_isHere_69 : decode prog_13_method_9_code 69 = .ok (.if_icmp .eq 5, 3) := by decide +kernel
theorem d_Model_isHere_74 : decode prog_13_method_9_code 74 = .ok (.iconst 0, 1) := by decide +kernel
theorem d_Model_isHere_75 : decode prog_13_method_9_code 75 = .ok (.istore_n 3, 1) := by decide +kernel
theorem d_Model_isHere_76 : decode prog_13_method_9_code 76 = .ok (.iload_n 3, 1) := by decide +kernel
theorem d_Model_isHere_77 : decode prog_13_method_9_code 77 = .ok (.aload_n 1, 1) := by decide +kernel
theorem d_Model_isHere_78 : decode prog_13_method_9_code 78 = .ok (.arraylength, 1) := by decide +kernel
theorem d_Model_isHere_79 : decode prog_13_method_9_code 79 = .ok (.if_icmp .ge 28, 3) := by decide +kernel
theorem d_Model_isHere_107 : decode prog_13_method_9_code 107 = .ok (.iconst 1, 1) := by decide +kernel
theorem d_Model_isHere_108 : decode prog_13_method_9_code 108 = .ok (.ireturn, 1) := by decide +kernel
theorem d_Model_isHere_82 : decode prog_13_method_9_code 82 = .ok (.aload_n 0, 1) := by decide +kernel
theorem d_Model_isHere_83 : decode prog_13_method_9_code 83 = .ok (.getfield 7, 3) := by decide +kernel
theorem d_Model_isHere_86 : decode prog_13_method_9_code 86 = .ok (.aload_n 0, 1) := by decide +kernel
theorem d_Model_isHere_87 : decode prog_13_method_9_code 87 = .ok (.getfield 207, 3) := by decide +kernel
theorem d_Model_isHere_90 : decode prog_13_method_9_code 90 = .ok (.iload_n 3, 1) := by decide +kernel
theorem d_Model_isHere_91 : decode prog_13_method_9_code 91 = .ok (.iadd, 1) := by decide +kernel
theorem d_Model_isHere_92 : decode prog_13_method_9_code 92 = .ok (.iaload, 1) := by decide +kernel
theorem d_Model_isHere_93 : decode prog_13_method_9_code 93 = .ok (.aload_n 1, 1) := by decide +kernel
theorem d_Model_isHere_94 : decode prog_13_method_9_code 94 = .ok (.iload_n 3, 1) := by decide +kernel
theorem d_Model_isHere_95 : decode prog_13_method_9_code 95 = .ok (.caload, 1) := by decide +kernel
theorem d_Model_isHere_96 : decode prog_13_method_9_code 96 = .ok (.if_icmp .eq 5, 3) := by decide +kernel
theorem d_Model_isHere_101 : decode prog_13_method_9_code 101 = .ok (.iinc 3 1, 3) := by decide +kernel
theorem d_Model_isHere_104 : decode prog_13_method_9_code 104 = .ok (.goto (-28), 3) := by decide +kernel
theorem d_Model_isHere_99 : decode prog_13_method_9_code 99 = .ok (.iconst 0, 1) := by decide +kernel
theorem d_Model_isHere_100 : decode prog_13_method_9_code 100 = .ok (.ireturn, 1) := by decide +kernel
theorem d_Model_isHere_72 : decode prog_13_method_9_code 72 = .ok (.iconst 0, 1) := by decide +kernel
theorem d_Model_isHere_73 : decode prog_13_method_9_code 73 = .ok (.ireturn, 1) := by decide +kernel
theorem d_Model_isHere_43 : decode prog_13_method_9_code 43 = .ok (.aload_n 0, 1) := by decide +kernel
theorem d_Model_isHere_44 : decode prog_13_method_9_code 44 = .ok (.getfield 7, 3) := by decide +kernel
theorem d_Model_isHere_47 : decode prog_13_method_9_code 47 = .ok (.iload_n 2, 1) := by decide +kernel
theorem d_Model_isHere_48 : decode prog_13_method_9_code 48 = .ok (.iaload, 1) := by decide +kernel
theorem d_Model_isHere_49 : decode prog_13_method_9_code 49 = .ok (.invokestatic 217, 3) := by decide +kernel
theorem d_Model_isHere_52 : decode prog_13_method_9_code 52 = .ok (.ifCond .eq 9, 3) := by decide +kernel
theorem d_Model_isHere_55 : decode prog_13_method_9_code 55 = .ok (.iinc 2 1, 3) := by decide +kernel
theorem d_Model_isHere_58 : decode prog_13_method_9_code 58 = .ok (.goto (-23), 3) := by decide +kernel
set_option maxHeartbeats 4000000 in
set_option maxRecDepth 100000 in
theorem c_M_isHere_2 (l : Launch) (D : va_G) (y : Nat → ClassId) (mo : Nat) (wa : Nat) (ma : Nat → Nat) (t1 : Nat) (t2 : Nat) (t3 : Nat) (i4 : Int32) (i5 : Int32) (i6 : Int32) (i7 : Int32) (i8 : Int32) (i42 : Int32) (i49 : Int32) (i51 : Int32) (i53 : Int32) (i54 : Int32) (i59 : Int32) (i61 : Int32) (i64 : Int32) (i66 : Int32) (t67 : Nat) (i76 : Int64) (i78 : Int32) (tx : Nat → Nat) (vw : Nat) (gs : PS) (ha : t2 ≤ t3) (he : t3 ≤ 1600) (hB : ∀ j, tx j < 256) (hx : RR tx t3 gs t2 i4 i5 i6) (hv33 : vw < 33) (hvl : (owf vw).length = 2) : CT l D y ⟨"NineBoardsModel", "isHere", "([C)Z"⟩ prog_13_method_9_code 4 (some .boolean) ({ frames := 1, cells := 0, slots := 0, locals := 20 } : Room) [.ref mo, .ref wa] [MB mo ma (nI t1) (nI t2) (nI t3) i4 i5 i6 i7 i8 i42 i49 i51 i53 i54 i59 i61 i64 i66 (nI t67) i76 i78, (ma 0, .inl (y 0, 1600, .inl (tby tx))), (wa, .inl (y 3, 2, .inl (WD vw)))] (QI D [MB mo ma (nI t1) (nI t2) (nI t3) i4 i5 i6 i7 i8 i42 i49 i51 i53 i54 i59 i61 i64 i66 (nI t67) i76 i78, (ma 0, .inl (y 0, 1600, .inl (tby tx))), (wa, .inl (y 3, 2, .inl (WD vw)))] (fun (r : Int32) (u : Nat) => t2 ≤ u ∧ u ≤ t3 ∧ (i5 = 0 → u = stS tx t3 gs) ∧ RR tx t3 gs u i4 i5 i6 ∧ ((r = 0 ∧ ¬ iswS tx t3 vw gs = true) ∨ (r = 1 ∧ iswS tx t3 vw gs = true ∧ u + 2 = enS tx t3 gs))) (fun u => [MB mo ma (nI t1) (nI u) (nI t3) i4 i5 i6 i7 i8 i42 i49 i51 i53 i54 i59 i61 i64 i66 (nI t67) i76 i78, (ma 0, .inl (y 0, 1600, .inl (tby tx))), (wa, .inl (y 3, 2, .inl (WD vw)))])) := by
  refine CT.of (by decide) (nb rfl) ?_
  intro p e s m args below meth c C hr
  refine j_lv (lv' := [(0, .ref mo), (1, .ref wa)]) rfl ?_
  refine j_aload_n (pc := 0) C d_Model_isHere_0 rfl 0 rfl ?_
  refine j_get (pc := 1) C gf_Model_201 0 rfl rfl d_Model_isHere_1 ?_
  refine j_if_ne (pc := 4) C (tgt := 28) d_Model_isHere_4 (by decide) (fun c1 => ?_) (fun c1 => ?_)
  · refine j_iconst (pc := 28) C (v := 0) d_Model_isHere_28 (by decide) ?_
    exact j_iret (pc := 29) C hr (by decide) t2 ⟨(show t2 ≤ t2 by omega), (show t2 ≤ t3 by omega), (fun e => absurd e c1), hx, (Or.inl ⟨rfl, hw_dead hx c1⟩)⟩ [0, 1, 2] rfl (by decide) (by decide) (by decide) d_Model_isHere_29
  · refine j_aload_n (pc := 7) C d_Model_isHere_7 rfl 0 rfl ?_
    refine j_callVi (pc := 8) C (c_M_look l D y mo ma t1 t2 t3 i4 i5 i6 i7 i8 i42 i49 i51 i53 i54 i59 i61 i64 i66 t67 i76 i78 tx gs ha he hB hx c1) kw_Model_213 kv_Model_look 0 10 rfl rfl ⟨by decide, by decide⟩ ⟨by decide, by decide⟩ (wr := [(wa, .inl (y 3, 2, .inl (WD vw)))]) [0, 1] [2] rfl rfl (by decide) (by decide) (by decide) (As := []) (rest := []) rfl (nb rfl) rfl d_Model_isHere_8 (fun r2 u3 hr2 => ?_)
    refine j_ws (ws' := [(wa, .inl (y 3, 2, .inl (WD vw))), MB mo ma (nI t1) (nI u3) (nI t3) i4 i5 i6 i7 i8 i42 i49 i51 i53 i54 i59 i61 i64 i66 (nI t67) i76 i78, (ma 0, .inl (y 0, 1600, .inl (tby tx)))]) rfl ?_
    obtain ⟨xh4, xh5, xh6, xh7, xh8⟩ := hr2
    rcases xh8 with ⟨rfl, xh9⟩ | ⟨rfl, xh10⟩
    · refine j_callSi (pc := 11) C (c_M_isLetter_m l D y ) kw_Model_217 ks_Model_isLetter ⟨by decide, by decide⟩ ⟨by decide, by decide⟩ (wr := [(wa, .inl (y 3, 2, .inl (WD vw))), MB mo ma (nI t1) (nI u3) (nI t3) i4 i5 i6 i7 i8 i42 i49 i51 i53 i54 i59 i61 i64 i66 (nI t67) i76 i78, (ma 0, .inl (y 0, 1600, .inl (tby tx)))]) [] [0, 1, 2] rfl rfl (by decide) (by decide) (by decide) (As := [.int (-1)]) (rest := []) rfl (nb rfl) rfl d_Model_isHere_11 (fun r11 _ hr11 => ?_)
      subst hr11
      refine j_ws (ws' := [(wa, .inl (y 3, 2, .inl (WD vw))), MB mo ma (nI t1) (nI u3) (nI t3) i4 i5 i6 i7 i8 i42 i49 i51 i53 i54 i59 i61 i64 i66 (nI t67) i76 i78, (ma 0, .inl (y 0, 1600, .inl (tby tx)))]) rfl ?_
      refine j_st (st' := [.int 0]) rfl ?_
      refine j_if_eqT (pc := 14) C (tgt := 28) d_Model_isHere_14 (by decide) (by decide) ?_
      refine j_iconst (pc := 28) C (v := 0) d_Model_isHere_28 (by decide) ?_
      exact j_iret (pc := 29) C hr (by decide) u3 ⟨(show t2 ≤ u3 by omega), (show u3 ≤ t3 by omega), (fun _ => xh6), xh7, (Or.inl ⟨rfl, is_no0 (s := 1) (by rw [rl_end ((rr_z xh7).mp c1) xh6 xh9]; decide)⟩)⟩ [1, 2, 0] rfl (by decide) (by decide) (by decide) d_Model_isHere_29
    · have hb12 : tx u3 < 256 := hB u3
      refine j_callSi (pc := 11) C (c_M_isLetter_n l D y (tx u3) (by omega)) kw_Model_217 ks_Model_isLetter ⟨by decide, by decide⟩ ⟨by decide, by decide⟩ (wr := [(wa, .inl (y 3, 2, .inl (WD vw))), MB mo ma (nI t1) (nI u3) (nI t3) i4 i5 i6 i7 i8 i42 i49 i51 i53 i54 i59 i61 i64 i66 (nI t67) i76 i78, (ma 0, .inl (y 0, 1600, .inl (tby tx)))]) [] [0, 1, 2] rfl rfl (by decide) (by decide) (by decide) (As := [.int (nI (tx u3))]) (rest := []) rfl (nb rfl) rfl d_Model_isHere_11 (fun r13 _ hr13 => ?_)
      refine j_ws (ws' := [(wa, .inl (y 3, 2, .inl (WD vw))), MB mo ma (nI t1) (nI u3) (nI t3) i4 i5 i6 i7 i8 i42 i49 i51 i53 i54 i59 i61 i64 i66 (nI t67) i76 i78, (ma 0, .inl (y 0, 1600, .inl (tby tx)))]) rfl ?_
      rcases hr13 with ⟨rfl, xh15⟩ | ⟨rfl, xh16⟩
      · refine j_if_eqT (pc := 14) C (tgt := 28) d_Model_isHere_14 (by decide) (by decide) ?_
        refine j_iconst (pc := 28) C (v := 0) d_Model_isHere_28 (by decide) ?_
        exact j_iret (pc := 29) C hr (by decide) u3 ⟨(show t2 ≤ u3 by omega), (show u3 ≤ t3 by omega), (fun _ => xh6), xh7, (Or.inl ⟨rfl, is_no0 (s := 1) (rl_ns xh6 xh15 (by decide) (by decide))⟩)⟩ [1, 2, 0] rfl (by decide) (by decide) (by decide) d_Model_isHere_29
      · refine j_if_eqF (pc := 14) C (tgt := 28) d_Model_isHere_14 (by decide) (by decide) ?_
        refine j_aload_n (pc := 17) C d_Model_isHere_17 rfl 0 rfl ?_
        refine j_get (pc := 18) C gf_Model_207 1 rfl rfl d_Model_isHere_18 ?_
        refine j_aload_n (pc := 21) C d_Model_isHere_21 rfl 0 rfl ?_
        refine j_get (pc := 22) C gf_Model_221 1 rfl rfl d_Model_isHere_22 ?_
        refine j_icmp_ne (pc := 25) C (tgt := 30) d_Model_isHere_25 (by decide) (fun c17 => ?_) (fun c17 => ?_)
        · have xh18 : srS tx t3 gs = 1 := (rl_yes xh7 ((rr_z xh7).mp c1) he xh6 xh10 xh16 c17)
          refine j_aload_n (pc := 30) C d_Model_isHere_30 rfl 0 rfl ?_
          refine j_get (pc := 31) C gf_Model_207 1 rfl rfl d_Model_isHere_31 ?_
          refine j_istore_n (pc := 34) C (lv' := [(2, .int (nI u3)), (0, .ref mo), (1, .ref wa)]) d_Model_isHere_34 rfl (by decide) rfl ?_
          refine j_loop (α := Nat) (fun a => t3 - a) (fun a => (a ≤ t3) ∧ (u3 ≤ a) ∧ ((∀ i, u3 ≤ i → i < a → srt (tx i) = 1))) (fun a => [(wa, .inl (y 3, 2, .inl (WD vw))), MB mo ma (nI t1) (nI u3) (nI t3) i4 i5 i6 i7 i8 i42 i49 i51 i53 i54 i59 i61 i64 i66 (nI t67) i76 i78, (ma 0, .inl (y 0, 1600, .inl (tby tx)))]) (fun a => [(2, .int (nI a)), (0, .ref mo), (1, .ref wa)]) (u3) rfl rfl ⟨xh5, (show u3 ≤ u3 by omega), (fun i h1 h2 => absurd h1 (by omega))⟩ ?_
          rintro kz hP49 ih50
          obtain ⟨hk__, hk2__, hl__⟩ := hP49
          have hk_ : kz ≤ t3 := hk__
          have hk2_ : u3 ≤ kz := hk2__
          have hl_ : (∀ i, u3 ≤ i → i < kz → srt (tx i) = 1) := hl__
          refine j_ws (ws' := [(wa, .inl (y 3, 2, .inl (WD vw))), MB mo ma (nI t1) (nI u3) (nI t3) i4 i5 i6 i7 i8 i42 i49 i51 i53 i54 i59 i61 i64 i66 (nI t67) i76 i78, (ma 0, .inl (y 0, 1600, .inl (tby tx)))]) rfl ?_
          refine j_lv (lv' := [(2, .int (nI kz)), (0, .ref mo), (1, .ref wa)]) rfl ?_
          refine j_iload_n (pc := 35) C d_Model_isHere_35 rfl 0 rfl ?_
          refine j_aload_n (pc := 36) C d_Model_isHere_36 rfl 1 rfl ?_
          refine j_get (pc := 37) C gf_Model_210 1 rfl rfl d_Model_isHere_37 ?_
          by_cases c51 : t3 ≤ kz
          · refine j_icmp_geT (pc := 40) C (tgt := 61) d_Model_isHere_40 (by decide) (show nI t3 ≤ nI kz from nI_le (by omega) (by omega)) ?_
            have xh52 : kz = enS tx t3 gs := en_of xh18 (by decide) (by decide) xh6 hl_ (by omega) (fun h => absurd h.1 (by omega)) (by omega)
            refine j_iload_n (pc := 61) C d_Model_isHere_61 rfl 0 rfl ?_
            refine j_aload_n (pc := 62) C d_Model_isHere_62 rfl 1 rfl ?_
            refine j_get (pc := 63) C gf_Model_207 1 rfl rfl d_Model_isHere_63 ?_
            refine j_isub (pc := 66) C (v := nI (kz - u3)) d_Model_isHere_66 (pk_sub (by omega)) ?_
            refine j_aload_n (pc := 67) C d_Model_isHere_67 rfl 2 rfl ?_
            refine j_alen (pc := 68) C 0 3 rfl rfl (v := 2) rfl d_Model_isHere_68 ?_
            by_cases c53 : (kz - u3) = 2
            · refine j_icmp_eqT (pc := 69) C (tgt := 74) d_Model_isHere_69 (by decide) (show nI (kz - u3) = nI 2 from (nI_eq (by omega) (by omega)).mpr (by omega)) ?_
              refine j_iconst (pc := 74) C (v := 0) d_Model_isHere_74 (by decide) ?_
              refine j_istore_n (pc := 75) C (lv' := [(3, .int 0), (2, .int (nI kz)), (0, .ref mo), (1, .ref wa)]) d_Model_isHere_75 rfl (by decide) rfl ?_
              refine j_loop (α := Nat) (fun a => 2 - a) (fun a => (a ≤ 2) ∧ ((∀ j, j < a → tx (u3 + j) = wdv vw j))) (fun a => [(wa, .inl (y 3, 2, .inl (WD vw))), MB mo ma (nI t1) (nI u3) (nI t3) i4 i5 i6 i7 i8 i42 i49 i51 i53 i54 i59 i61 i64 i66 (nI t67) i76 i78, (ma 0, .inl (y 0, 1600, .inl (tby tx)))]) (fun a => [(3, .int (nI a)), (2, .int (nI kz)), (0, .ref mo), (1, .ref wa)]) (0) rfl rfl ⟨(show 0 ≤ 2 by omega), (fun j h1 => absurd h1 (by omega))⟩ ?_
              rintro iz hP58 ih59
              obtain ⟨hi__, hw__⟩ := hP58
              have hi_ : iz ≤ 2 := hi__
              have hw_ : (∀ j, j < iz → tx (u3 + j) = wdv vw j) := hw__
              refine j_ws (ws' := [(wa, .inl (y 3, 2, .inl (WD vw))), MB mo ma (nI t1) (nI u3) (nI t3) i4 i5 i6 i7 i8 i42 i49 i51 i53 i54 i59 i61 i64 i66 (nI t67) i76 i78, (ma 0, .inl (y 0, 1600, .inl (tby tx)))]) rfl ?_
              refine j_lv (lv' := [(3, .int (nI iz)), (2, .int (nI kz)), (0, .ref mo), (1, .ref wa)]) rfl ?_
              refine j_iload_n (pc := 76) C d_Model_isHere_76 rfl 0 rfl ?_
              refine j_aload_n (pc := 77) C d_Model_isHere_77 rfl 3 rfl ?_
              refine j_alen (pc := 78) C 0 3 rfl rfl (v := 2) rfl d_Model_isHere_78 ?_
              by_cases c60 : 2 ≤ iz
              · refine j_icmp_geT (pc := 79) C (tgt := 107) d_Model_isHere_79 (by decide) (show nI 2 ≤ nI iz from nI_le (by omega) (by omega)) ?_
                refine j_iconst (pc := 107) C (v := 1) d_Model_isHere_107 (by decide) ?_
                exact j_iret (pc := 108) C hr (by decide) u3 ⟨(show t2 ≤ u3 by omega), (show u3 ≤ t3 by omega), (fun _ => xh6), xh7, (Or.inr ⟨rfl, is_yes xh18 xh6 xh52 hvl (by omega) (fun j h => hw_ j (by omega)), by omega⟩)⟩ [1, 2, 0] rfl (by decide) (by decide) (by decide) d_Model_isHere_108
              · refine j_icmp_geF (pc := 79) C (tgt := 107) d_Model_isHere_79 (by decide) (show ¬ nI 2 ≤ nI iz from nI_ge (by omega) (by omega)) ?_
                refine j_aload_n (pc := 82) C d_Model_isHere_82 rfl 2 rfl ?_
                refine j_get (pc := 83) C gf_Model_7 1 rfl rfl d_Model_isHere_83 ?_
                refine j_aload_n (pc := 86) C d_Model_isHere_86 rfl 2 rfl ?_
                refine j_get (pc := 87) C gf_Model_207 1 rfl rfl d_Model_isHere_87 ?_
                refine j_iload_n (pc := 90) C d_Model_isHere_90 rfl 0 rfl ?_
                refine j_iadd (pc := 91) C (v := nI (u3 + iz)) d_Model_isHere_91 (nI_add _ _) ?_
                have hb61 : tx (u3 + iz) < 256 := hB (u3 + iz)
                refine j_iald (pc := 92) C 2 rfl (v := nI (tx (u3 + iz))) (vp_in_nI (by omega) (by decide)) (by rw [nI_clamp (by omega)]; rfl) d_Model_isHere_92 ?_
                refine j_aload_n (pc := 93) C d_Model_isHere_93 rfl 3 rfl ?_
                refine j_iload_n (pc := 94) C d_Model_isHere_94 rfl 0 rfl ?_
                have hb62 : wdv vw iz < 256 := wd_lt hv33 iz
                refine j_cald (pc := 95) C 0 rfl (v := nI (wdv vw iz)) (vp_in_nI (by omega) (by decide)) (by rw [nI_clamp (by omega)]; exact wd_ld hvl (by omega)) d_Model_isHere_95 ?_
                by_cases c63 : (tx (u3 + iz)) = (wdv vw iz)
                · refine j_icmp_eqT (pc := 96) C (tgt := 101) d_Model_isHere_96 (by decide) (show nI (tx (u3 + iz)) = nI (wdv vw iz) from (nI_eq (by omega) (by omega)).mpr (by omega)) ?_
                  refine j_iinc (pc := 101) C (v := nI (iz + 1)) (lv' := [(3, .int (nI (iz + 1))), (2, .int (nI kz)), (0, .ref mo), (1, .ref wa)]) d_Model_isHere_101 0 rfl (nI_add _ _) (by decide) rfl ?_
                  refine j_goto (pc := 104) C (tgt := 76) d_Model_isHere_104 (by decide) ?_
                  exact ih59 ((iz + 1)) ⟨(show (iz + 1) ≤ 2 by omega), (fun j h1 => by
                          by_cases e : j = iz
                          · rw [e]; omega
                          · exact hw_ j (by omega))⟩ (show 2 - (iz + 1) < 2 - iz by omega)
                · refine j_icmp_eqF (pc := 96) C (tgt := 101) d_Model_isHere_96 (by decide) (show ¬ nI (tx (u3 + iz)) = nI (wdv vw iz) from fun e => absurd ((nI_eq (by omega) (by omega)).mp e) (by omega)) ?_
                  refine j_iconst (pc := 99) C (v := 0) d_Model_isHere_99 (by decide) ?_
                  exact j_iret (pc := 100) C hr (by decide) u3 ⟨(show t2 ≤ u3 by omega), (show u3 ≤ t3 by omega), (fun _ => xh6), xh7, (Or.inl ⟨rfl, is_no2 (j := iz) xh6 xh52 (by omega) (hl_ _ (by omega) (by omega)) (by omega)⟩)⟩ [1, 2, 0] rfl (by decide) (by decide) (by decide) d_Model_isHere_100
            · refine j_icmp_eqF (pc := 69) C (tgt := 74) d_Model_isHere_69 (by decide) (show ¬ nI (kz - u3) = nI 2 from fun e => absurd ((nI_eq (by omega) (by omega)).mp e) (by omega)) ?_
              refine j_iconst (pc := 72) C (v := 0) d_Model_isHere_72 (by decide) ?_
              exact j_iret (pc := 73) C hr (by decide) u3 ⟨(show t2 ≤ u3 by omega), (show u3 ≤ t3 by omega), (fun _ => xh6), xh7, (Or.inl ⟨rfl, is_no1 xh6 xh52 hvl (by omega)⟩)⟩ [1, 2, 0] rfl (by decide) (by decide) (by decide) d_Model_isHere_73
          · refine j_icmp_geF (pc := 40) C (tgt := 61) d_Model_isHere_40 (by decide) (show ¬ nI t3 ≤ nI kz from nI_ge (by omega) (by omega)) ?_
            refine j_aload_n (pc := 43) C d_Model_isHere_43 rfl 1 rfl ?_
            refine j_get (pc := 44) C gf_Model_7 1 rfl rfl d_Model_isHere_44 ?_
            refine j_iload_n (pc := 47) C d_Model_isHere_47 rfl 0 rfl ?_
            have hb64 : tx kz < 256 := hB kz
            refine j_iald (pc := 48) C 2 rfl (v := nI (tx kz)) (vp_in_nI (by omega) (by decide)) (by rw [nI_clamp (by omega)]; rfl) d_Model_isHere_48 ?_
            refine j_callSi (pc := 49) C (c_M_isLetter_n l D y (tx kz) (by omega)) kw_Model_217 ks_Model_isLetter ⟨by decide, by decide⟩ ⟨by decide, by decide⟩ (wr := [(wa, .inl (y 3, 2, .inl (WD vw))), MB mo ma (nI t1) (nI u3) (nI t3) i4 i5 i6 i7 i8 i42 i49 i51 i53 i54 i59 i61 i64 i66 (nI t67) i76 i78, (ma 0, .inl (y 0, 1600, .inl (tby tx)))]) [] [0, 1, 2] rfl rfl (by decide) (by decide) (by decide) (As := [.int (nI (tx kz))]) (rest := []) rfl (nb rfl) rfl d_Model_isHere_49 (fun r65 _ hr65 => ?_)
            refine j_ws (ws' := [(wa, .inl (y 3, 2, .inl (WD vw))), MB mo ma (nI t1) (nI u3) (nI t3) i4 i5 i6 i7 i8 i42 i49 i51 i53 i54 i59 i61 i64 i66 (nI t67) i76 i78, (ma 0, .inl (y 0, 1600, .inl (tby tx)))]) rfl ?_
            rcases hr65 with ⟨rfl, xh67⟩ | ⟨rfl, xh68⟩
            · refine j_if_eqT (pc := 52) C (tgt := 61) d_Model_isHere_52 (by decide) (by decide) ?_
              have xh69 : kz = enS tx t3 gs := en_of xh18 (by decide) (by decide) xh6 hl_ (by omega) (fun h => absurd h.2 xh67) (by omega)
              refine j_iload_n (pc := 61) C d_Model_isHere_61 rfl 0 rfl ?_
              refine j_aload_n (pc := 62) C d_Model_isHere_62 rfl 1 rfl ?_
              refine j_get (pc := 63) C gf_Model_207 1 rfl rfl d_Model_isHere_63 ?_
              refine j_isub (pc := 66) C (v := nI (kz - u3)) d_Model_isHere_66 (pk_sub (by omega)) ?_
              refine j_aload_n (pc := 67) C d_Model_isHere_67 rfl 2 rfl ?_
              refine j_alen (pc := 68) C 0 3 rfl rfl (v := 2) rfl d_Model_isHere_68 ?_
              by_cases c70 : (kz - u3) = 2
              · refine j_icmp_eqT (pc := 69) C (tgt := 74) d_Model_isHere_69 (by decide) (show nI (kz - u3) = nI 2 from (nI_eq (by omega) (by omega)).mpr (by omega)) ?_
                refine j_iconst (pc := 74) C (v := 0) d_Model_isHere_74 (by decide) ?_
                refine j_istore_n (pc := 75) C (lv' := [(3, .int 0), (2, .int (nI kz)), (0, .ref mo), (1, .ref wa)]) d_Model_isHere_75 rfl (by decide) rfl ?_
                refine j_loop (α := Nat) (fun a => 2 - a) (fun a => (a ≤ 2) ∧ ((∀ j, j < a → tx (u3 + j) = wdv vw j))) (fun a => [(wa, .inl (y 3, 2, .inl (WD vw))), MB mo ma (nI t1) (nI u3) (nI t3) i4 i5 i6 i7 i8 i42 i49 i51 i53 i54 i59 i61 i64 i66 (nI t67) i76 i78, (ma 0, .inl (y 0, 1600, .inl (tby tx)))]) (fun a => [(3, .int (nI a)), (2, .int (nI kz)), (0, .ref mo), (1, .ref wa)]) (0) rfl rfl ⟨(show 0 ≤ 2 by omega), (fun j h1 => absurd h1 (by omega))⟩ ?_
                rintro iz hP75 ih76
                obtain ⟨hi__, hw__⟩ := hP75
                have hi_ : iz ≤ 2 := hi__
                have hw_ : (∀ j, j < iz → tx (u3 + j) = wdv vw j) := hw__
                refine j_ws (ws' := [(wa, .inl (y 3, 2, .inl (WD vw))), MB mo ma (nI t1) (nI u3) (nI t3) i4 i5 i6 i7 i8 i42 i49 i51 i53 i54 i59 i61 i64 i66 (nI t67) i76 i78, (ma 0, .inl (y 0, 1600, .inl (tby tx)))]) rfl ?_
                refine j_lv (lv' := [(3, .int (nI iz)), (2, .int (nI kz)), (0, .ref mo), (1, .ref wa)]) rfl ?_
                refine j_iload_n (pc := 76) C d_Model_isHere_76 rfl 0 rfl ?_
                refine j_aload_n (pc := 77) C d_Model_isHere_77 rfl 3 rfl ?_
                refine j_alen (pc := 78) C 0 3 rfl rfl (v := 2) rfl d_Model_isHere_78 ?_
                by_cases c77 : 2 ≤ iz
                · refine j_icmp_geT (pc := 79) C (tgt := 107) d_Model_isHere_79 (by decide) (show nI 2 ≤ nI iz from nI_le (by omega) (by omega)) ?_
                  refine j_iconst (pc := 107) C (v := 1) d_Model_isHere_107 (by decide) ?_
                  exact j_iret (pc := 108) C hr (by decide) u3 ⟨(show t2 ≤ u3 by omega), (show u3 ≤ t3 by omega), (fun _ => xh6), xh7, (Or.inr ⟨rfl, is_yes xh18 xh6 xh69 hvl (by omega) (fun j h => hw_ j (by omega)), by omega⟩)⟩ [1, 2, 0] rfl (by decide) (by decide) (by decide) d_Model_isHere_108
                · refine j_icmp_geF (pc := 79) C (tgt := 107) d_Model_isHere_79 (by decide) (show ¬ nI 2 ≤ nI iz from nI_ge (by omega) (by omega)) ?_
                  refine j_aload_n (pc := 82) C d_Model_isHere_82 rfl 2 rfl ?_
                  refine j_get (pc := 83) C gf_Model_7 1 rfl rfl d_Model_isHere_83 ?_
                  refine j_aload_n (pc := 86) C d_Model_isHere_86 rfl 2 rfl ?_
                  refine j_get (pc := 87) C gf_Model_207 1 rfl rfl d_Model_isHere_87 ?_
                  refine j_iload_n (pc := 90) C d_Model_isHere_90 rfl 0 rfl ?_
                  refine j_iadd (pc := 91) C (v := nI (u3 + iz)) d_Model_isHere_91 (nI_add _ _) ?_
                  have hb78 : tx (u3 + iz) < 256 := hB (u3 + iz)
                  refine j_iald (pc := 92) C 2 rfl (v := nI (tx (u3 + iz))) (vp_in_nI (by omega) (by decide)) (by rw [nI_clamp (by omega)]; rfl) d_Model_isHere_92 ?_
                  refine j_aload_n (pc := 93) C d_Model_isHere_93 rfl 3 rfl ?_
                  refine j_iload_n (pc := 94) C d_Model_isHere_94 rfl 0 rfl ?_
                  have hb79 : wdv vw iz < 256 := wd_lt hv33 iz
                  refine j_cald (pc := 95) C 0 rfl (v := nI (wdv vw iz)) (vp_in_nI (by omega) (by decide)) (by rw [nI_clamp (by omega)]; exact wd_ld hvl (by omega)) d_Model_isHere_95 ?_
                  by_cases c80 : (tx (u3 + iz)) = (wdv vw iz)
                  · refine j_icmp_eqT (pc := 96) C (tgt := 101) d_Model_isHere_96 (by decide) (show nI (tx (u3 + iz)) = nI (wdv vw iz) from (nI_eq (by omega) (by omega)).mpr (by omega)) ?_
                    refine j_iinc (pc := 101) C (v := nI (iz + 1)) (lv' := [(3, .int (nI (iz + 1))), (2, .int (nI kz)), (0, .ref mo), (1, .ref wa)]) d_Model_isHere_101 0 rfl (nI_add _ _) (by decide) rfl ?_
                    refine j_goto (pc := 104) C (tgt := 76) d_Model_isHere_104 (by decide) ?_
                    exact ih76 ((iz + 1)) ⟨(show (iz + 1) ≤ 2 by omega), (fun j h1 => by
                            by_cases e : j = iz
                            · rw [e]; omega
                            · exact hw_ j (by omega))⟩ (show 2 - (iz + 1) < 2 - iz by omega)
                  · refine j_icmp_eqF (pc := 96) C (tgt := 101) d_Model_isHere_96 (by decide) (show ¬ nI (tx (u3 + iz)) = nI (wdv vw iz) from fun e => absurd ((nI_eq (by omega) (by omega)).mp e) (by omega)) ?_
                    refine j_iconst (pc := 99) C (v := 0) d_Model_isHere_99 (by decide) ?_
                    exact j_iret (pc := 100) C hr (by decide) u3 ⟨(show t2 ≤ u3 by omega), (show u3 ≤ t3 by omega), (fun _ => xh6), xh7, (Or.inl ⟨rfl, is_no2 (j := iz) xh6 xh69 (by omega) (hl_ _ (by omega) (by omega)) (by omega)⟩)⟩ [1, 2, 0] rfl (by decide) (by decide) (by decide) d_Model_isHere_100
              · refine j_icmp_eqF (pc := 69) C (tgt := 74) d_Model_isHere_69 (by decide) (show ¬ nI (kz - u3) = nI 2 from fun e => absurd ((nI_eq (by omega) (by omega)).mp e) (by omega)) ?_
                refine j_iconst (pc := 72) C (v := 0) d_Model_isHere_72 (by decide) ?_
                exact j_iret (pc := 73) C hr (by decide) u3 ⟨(show t2 ≤ u3 by omega), (show u3 ≤ t3 by omega), (fun _ => xh6), xh7, (Or.inl ⟨rfl, is_no1 xh6 xh69 hvl (by omega)⟩)⟩ [1, 2, 0] rfl (by decide) (by decide) (by decide) d_Model_isHere_73
            · refine j_if_eqF (pc := 52) C (tgt := 61) d_Model_isHere_52 (by decide) (by decide) ?_
              refine j_iinc (pc := 55) C (v := nI (kz + 1)) (lv' := [(2, .int (nI (kz + 1))), (0, .ref mo), (1, .ref wa)]) d_Model_isHere_55 0 rfl (nI_add _ _) (by decide) rfl ?_
              refine j_goto (pc := 58) C (tgt := 35) d_Model_isHere_58 (by decide) ?_
              exact ih50 ((kz + 1)) ⟨(show (kz + 1) ≤ t3 by omega), (show u3 ≤ (kz + 1) by omega), (fun i h1 h2 => by
                      by_cases e : i = kz
                      · rw [e]; exact xh68
                      · exact hl_ i h1 (by omega))⟩ (show t3 - (kz + 1) < t3 - kz by omega)
        · refine j_iconst (pc := 28) C (v := 0) d_Model_isHere_28 (by decide) ?_
          exact j_iret (pc := 29) C hr (by decide) u3 ⟨(show t2 ≤ u3 by omega), (show u3 ≤ t3 by omega), (fun _ => xh6), xh7, (Or.inl ⟨rfl, is_no0 (s := 1) (rl_ad xh7 ((rr_z xh7).mp c1) he xh6 c17 (by decide) (by decide))⟩)⟩ [1, 2, 0] rfl (by decide) (by decide) (by decide) d_Model_isHere_29
theorem d_Model_takes_0 : decode prog_13_method_10_code 0 = .ok (.aload_n 0, 1) := by decide +kernel
theorem d_Model_takes_1 : decode prog_13_method_10_code 1 = .ok (.aload_n 1, 1) := by decide +kernel
theorem d_Model_takes_2 : decode prog_13_method_10_code 2 = .ok (.invokevirtual 224, 3) := by decide +kernel
theorem kw_Model_224 : KW "NineBoardsModel" 224 ⟨"NineBoardsModel", "isHere", "([C)Z"⟩ prog_13_method_9_code 4 (some .boolean) 1 := ⟨(mt_6 (List.mem_of_getElem? (i := 112) rfl) rfl), (mt_1 (List.mem_of_getElem? (i := 16) rfl) rfl), (mt_6 (List.mem_of_getElem? (i := 115) rfl) rfl), by decide +kernel⟩
theorem kv_Model_isHere : Cond.instanceMethod ⟨"NineBoardsModel", "isHere", "([C)Z"⟩ ∈ TB ∧ Cond.selects "NineBoardsModel" ⟨"NineBoardsModel", "isHere", "([C)Z"⟩ ⟨"NineBoardsModel", "isHere", "([C)Z"⟩ ∈ TB := ⟨(mt_6 (List.mem_of_getElem? (i := 114) rfl) rfl), (ms_0 (List.mem_map.mpr ⟨(⟨"NineBoardsModel", "isHere", "([C)Z"⟩, 79), List.mem_of_getElem? (i := 52) (by decide +kernel), rfl⟩) rfl)⟩
theorem d_Model_takes_5 : decode prog_13_method_10_code 5 = .ok (.ifCond .ne 5, 3) := by decide +kernel
theorem d_Model_takes_8 : decode prog_13_method_10_code 8 = .ok (.iconst 0, 1) := by decide +kernel
theorem d_Model_takes_9 : decode prog_13_method_10_code 9 = .ok (.ireturn, 1) := by decide +kernel
theorem d_Model_takes_10 : decode prog_13_method_10_code 10 = .ok (.aload_n 0, 1) := by decide +kernel
theorem d_Model_takes_11 : decode prog_13_method_10_code 11 = .ok (.dup, 1) := by decide +kernel
theorem d_Model_takes_12 : decode prog_13_method_10_code 12 = .ok (.getfield 207, 3) := by decide +kernel
theorem d_Model_takes_15 : decode prog_13_method_10_code 15 = .ok (.aload_n 1, 1) := by decide +kernel
theorem d_Model_takes_16 : decode prog_13_method_10_code 16 = .ok (.arraylength, 1) := by decide +kernel
theorem d_Model_takes_17 : decode prog_13_method_10_code 17 = .ok (.iadd, 1) := by decide +kernel
theorem d_Model_takes_18 : decode prog_13_method_10_code 18 = .ok (.putfield 207, 3) := by decide +kernel
theorem d_Model_takes_21 : decode prog_13_method_10_code 21 = .ok (.aload_n 0, 1) := by decide +kernel
theorem d_Model_takes_22 : decode prog_13_method_10_code 22 = .ok (.aload_n 0, 1) := by decide +kernel
theorem d_Model_takes_23 : decode prog_13_method_10_code 23 = .ok (.getfield 207, 3) := by decide +kernel
theorem d_Model_takes_26 : decode prog_13_method_10_code 26 = .ok (.putfield 221, 3) := by decide +kernel
theorem pf_Model_221 : PF "NineBoardsModel" 221 10 4 (.int) false := ⟨_, _, _, ct_Model, rfl, ci_Model, by decide, (mt_5 (List.mem_of_getElem? (i := 92) rfl) rfl), cp_Model, cn_Model, rfl, by decide +kernel, (fun h => by cases h)⟩
theorem d_Model_takes_29 : decode prog_13_method_10_code 29 = .ok (.iconst 1, 1) := by decide +kernel
theorem d_Model_takes_30 : decode prog_13_method_10_code 30 = .ok (.ireturn, 1) := by decide +kernel
set_option maxHeartbeats 4000000 in
set_option maxRecDepth 100000 in
theorem c_M_takes_2 (l : Launch) (D : va_G) (y : Nat → ClassId) (mo : Nat) (wa : Nat) (ma : Nat → Nat) (t1 : Nat) (t2 : Nat) (t3 : Nat) (i4 : Int32) (i5 : Int32) (i6 : Int32) (i7 : Int32) (i8 : Int32) (i42 : Int32) (i49 : Int32) (i51 : Int32) (i53 : Int32) (i54 : Int32) (i59 : Int32) (i61 : Int32) (i64 : Int32) (i66 : Int32) (t67 : Nat) (i76 : Int64) (i78 : Int32) (tx : Nat → Nat) (vw : Nat) (gs : PS) (ha : t2 ≤ t3) (he : t3 ≤ 1600) (hB : ∀ j, tx j < 256) (hx : RR tx t3 gs t2 i4 i5 i6) (hv33 : vw < 33) (hvl : (owf vw).length = 2) : CT l D y ⟨"NineBoardsModel", "takes", "([C)Z"⟩ prog_13_method_10_code 2 (some .boolean) ({ frames := 2, cells := 0, slots := 0, locals := 43 } : Room) [.ref mo, .ref wa] [MB mo ma (nI t1) (nI t2) (nI t3) i4 i5 i6 i7 i8 i42 i49 i51 i53 i54 i59 i61 i64 i66 (nI t67) i76 i78, (ma 0, .inl (y 0, 1600, .inl (tby tx))), (wa, .inl (y 3, 2, .inl (WD vw)))] (QI D [MB mo ma (nI t1) (nI t2) (nI t3) i4 i5 i6 i7 i8 i42 i49 i51 i53 i54 i59 i61 i64 i66 (nI t67) i76 i78, (ma 0, .inl (y 0, 1600, .inl (tby tx))), (wa, .inl (y 3, 2, .inl (WD vw)))] (fun (r : Int32) (u : Nat × Int32) => t2 ≤ u.1 ∧ u.1 ≤ t3 ∧ ((r = 0 ∧ RR tx t3 gs u.1 u.2 i5 i6 ∧ ¬ iswS tx t3 vw gs = true ∧ (i5 = 0 → u.1 = stS tx t3 gs)) ∨ (r = 1 ∧ RR tx t3 (advS tx t3 gs) u.1 u.2 i5 i6 ∧ iswS tx t3 vw gs = true ∧ t2 + 2 ≤ u.1))) (fun u => [MB mo ma (nI t1) (nI u.1) (nI t3) u.2 i5 i6 i7 i8 i42 i49 i51 i53 i54 i59 i61 i64 i66 (nI t67) i76 i78, (ma 0, .inl (y 0, 1600, .inl (tby tx))), (wa, .inl (y 3, 2, .inl (WD vw)))])) := by
  refine CT.of (by decide) (nb rfl) ?_
  intro p e s m args below meth c C hr
  refine j_lv (lv' := [(0, .ref mo), (1, .ref wa)]) rfl ?_
  refine j_aload_n (pc := 0) C d_Model_takes_0 rfl 0 rfl ?_
  refine j_aload_n (pc := 1) C d_Model_takes_1 rfl 1 rfl ?_
  refine j_callVi (pc := 2) C (c_M_isHere_2 l D y mo wa ma t1 t2 t3 i4 i5 i6 i7 i8 i42 i49 i51 i53 i54 i59 i61 i64 i66 t67 i76 i78 tx vw gs ha he hB hx hv33 hvl) kw_Model_224 kv_Model_isHere 0 10 rfl rfl ⟨by decide, by decide⟩ ⟨by decide, by decide⟩ (wr := []) [0, 1, 2] [] rfl rfl (by decide) (by decide) (by decide) (As := [.ref wa]) (rest := []) rfl (nb rfl) rfl d_Model_takes_2 (fun r1 u2 hr1 => ?_)
  refine j_ws (ws' := [MB mo ma (nI t1) (nI u2) (nI t3) i4 i5 i6 i7 i8 i42 i49 i51 i53 i54 i59 i61 i64 i66 (nI t67) i76 i78, (ma 0, .inl (y 0, 1600, .inl (tby tx))), (wa, .inl (y 3, 2, .inl (WD vw)))]) rfl ?_
  obtain ⟨xh3, xh4, xh5, xh6, xh7⟩ := hr1
  rcases xh7 with ⟨rfl, xh8⟩ | ⟨rfl, xh9, xh10⟩
  · refine j_if_neF (pc := 5) C (tgt := 10) d_Model_takes_5 (by decide) (by decide) ?_
    refine j_iconst (pc := 8) C (v := 0) d_Model_takes_8 (by decide) ?_
    exact j_iret (pc := 9) C hr (by decide) (u2, i4) ⟨(show t2 ≤ u2 by omega), (show u2 ≤ t3 by omega), (Or.inl ⟨rfl, xh6, xh8, xh5⟩)⟩ [0, 1, 2] rfl (by decide) (by decide) (by decide) d_Model_takes_9
  · refine j_if_neT (pc := 5) C (tgt := 10) d_Model_takes_5 (by decide) (by decide) ?_
    refine j_aload_n (pc := 10) C d_Model_takes_10 rfl 0 rfl ?_
    refine j_dup (pc := 11) C d_Model_takes_11 rfl ?_
    refine j_get (pc := 12) C gf_Model_207 0 rfl rfl d_Model_takes_12 ?_
    refine j_aload_n (pc := 15) C d_Model_takes_15 rfl 1 rfl ?_
    refine j_alen (pc := 16) C 2 3 rfl rfl (v := 2) rfl d_Model_takes_16 ?_
    refine j_iadd (pc := 17) C (v := nI (u2 + 2)) d_Model_takes_17 (nI_add _ _) ?_
    refine j_put (pc := 18) C pf_Model_207 0 (ws' := [MB mo ma (nI t1) (nI (u2 + 2)) (nI t3) i4 i5 i6 i7 i8 i42 i49 i51 i53 i54 i59 i61 i64 i66 (nI t67) i76 i78, (ma 0, .inl (y 0, 1600, .inl (tby tx))), (wa, .inl (y 3, 2, .inl (WD vw)))]) rfl rfl rfl (nl rfl) rfl d_Model_takes_18 ?_
    refine j_aload_n (pc := 21) C d_Model_takes_21 rfl 0 rfl ?_
    refine j_aload_n (pc := 22) C d_Model_takes_22 rfl 0 rfl ?_
    refine j_get (pc := 23) C gf_Model_207 0 rfl rfl d_Model_takes_23 ?_
    refine j_put (pc := 26) C pf_Model_221 0 (ws' := [MB mo ma (nI t1) (nI (u2 + 2)) (nI t3) (nI (u2 + 2)) i5 i6 i7 i8 i42 i49 i51 i53 i54 i59 i61 i64 i66 (nI t67) i76 i78, (ma 0, .inl (y 0, 1600, .inl (tby tx))), (wa, .inl (y 3, 2, .inl (WD vw)))]) rfl rfl rfl (nl rfl) rfl d_Model_takes_26 ?_
    have xh11 : RR tx t3 (advS tx t3 gs) (u2 + 2) (nI (u2 + 2)) i5 i6 := (rr_adv xh6 he (of_decide_eq_true xh9).1 (by decide) (show (u2 + 2) = enS tx t3 gs by omega) (Or.inr ⟨by decide, rfl⟩))
    refine j_iconst (pc := 29) C (v := 1) d_Model_takes_29 (by decide) ?_
    exact j_iret (pc := 30) C hr (by decide) ((u2 + 2), nI (u2 + 2)) ⟨(show t2 ≤ (u2 + 2) by omega), (show (u2 + 2) ≤ t3 by have := (en_end (of_decide_eq_true xh9).1 (by decide) (by decide)).1; omega), (Or.inr ⟨rfl, xh11, xh9, show t2 + 2 ≤ (u2 + 2) by omega⟩)⟩ [0, 1, 2] rfl (by decide) (by decide) (by decide) d_Model_takes_30
theorem d_Model_asks_0 : decode prog_13_method_11_code 0 = .ok (.aload_n 0, 1) := by decide +kernel
theorem d_Model_asks_1 : decode prog_13_method_11_code 1 = .ok (.getfield 201, 3) := by decide +kernel
theorem d_Model_asks_4 : decode prog_13_method_11_code 4 = .ok (.ifCond .ne 20, 3) := by decide +kernel
theorem d_Model_asks_24 : decode prog_13_method_11_code 24 = .ok (.return_, 1) := by decide +kernel
theorem d_Model_asks_7 : decode prog_13_method_11_code 7 = .ok (.aload_n 0, 1) := by decide +kernel
theorem d_Model_asks_8 : decode prog_13_method_11_code 8 = .ok (.aload_n 1, 1) := by decide +kernel
theorem d_Model_asks_9 : decode prog_13_method_11_code 9 = .ok (.invokevirtual 228, 3) := by decide +kernel
theorem kw_Model_228 : KW "NineBoardsModel" 228 ⟨"NineBoardsModel", "takes", "([C)Z"⟩ prog_13_method_10_code 2 (some .boolean) 1 := ⟨(mt_6 (List.mem_of_getElem? (i := 108) rfl) rfl), (mt_1 (List.mem_of_getElem? (i := 16) rfl) rfl), (mt_6 (List.mem_of_getElem? (i := 111) rfl) rfl), by decide +kernel⟩
theorem kv_Model_takes : Cond.instanceMethod ⟨"NineBoardsModel", "takes", "([C)Z"⟩ ∈ TB ∧ Cond.selects "NineBoardsModel" ⟨"NineBoardsModel", "takes", "([C)Z"⟩ ⟨"NineBoardsModel", "takes", "([C)Z"⟩ ∈ TB := ⟨(mt_6 (List.mem_of_getElem? (i := 110) rfl) rfl), (ms_0 (List.mem_map.mpr ⟨(⟨"NineBoardsModel", "takes", "([C)Z"⟩, 79), List.mem_of_getElem? (i := 51) (by decide +kernel), rfl⟩) rfl)⟩
theorem d_Model_asks_12 : decode prog_13_method_11_code 12 = .ok (.ifCond .ne 12, 3) := by decide +kernel
theorem d_Model_asks_15 : decode prog_13_method_11_code 15 = .ok (.aload_n 0, 1) := by decide +kernel
theorem d_Model_asks_16 : decode prog_13_method_11_code 16 = .ok (.iconst 1, 1) := by decide +kernel
theorem d_Model_asks_17 : decode prog_13_method_11_code 17 = .ok (.aload_n 0, 1) := by decide +kernel
theorem d_Model_asks_18 : decode prog_13_method_11_code 18 = .ok (.getfield 207, 3) := by decide +kernel
theorem d_Model_asks_21 : decode prog_13_method_11_code 21 = .ok (.invokevirtual 230, 3) := by decide +kernel
theorem kw_Model_230 : KW "NineBoardsModel" 230 ⟨"NineBoardsModel", "fail", "(II)V"⟩ prog_13_method_5_code 3 none 2 := ⟨(mt_6 (List.mem_of_getElem? (i := 123) rfl) rfl), (mt_1 (List.mem_of_getElem? (i := 16) rfl) rfl), (mt_6 (List.mem_of_getElem? (i := 126) rfl) rfl), by decide +kernel⟩
theorem kv_Model_fail : Cond.instanceMethod ⟨"NineBoardsModel", "fail", "(II)V"⟩ ∈ TB ∧ Cond.selects "NineBoardsModel" ⟨"NineBoardsModel", "fail", "(II)V"⟩ ⟨"NineBoardsModel", "fail", "(II)V"⟩ ∈ TB := ⟨(mt_6 (List.mem_of_getElem? (i := 125) rfl) rfl), (ms_0 (List.mem_map.mpr ⟨(⟨"NineBoardsModel", "fail", "(II)V"⟩, 79), List.mem_of_getElem? (i := 54) (by decide +kernel), rfl⟩) rfl)⟩
set_option maxHeartbeats 4000000 in
set_option maxRecDepth 100000 in
theorem c_M_asks_2 (l : Launch) (D : va_G) (y : Nat → ClassId) (mo : Nat) (wa : Nat) (ma : Nat → Nat) (t1 : Nat) (t2 : Nat) (t3 : Nat) (i4 : Int32) (i5 : Int32) (i6 : Int32) (i7 : Int32) (i8 : Int32) (i42 : Int32) (i49 : Int32) (i51 : Int32) (i53 : Int32) (i54 : Int32) (i59 : Int32) (i61 : Int32) (i64 : Int32) (i66 : Int32) (t67 : Nat) (i76 : Int64) (i78 : Int32) (tx : Nat → Nat) (vw : Nat) (gs : PS) (ha : t2 ≤ t3) (he : t3 ≤ 1600) (hB : ∀ j, tx j < 256) (hx : RR tx t3 gs t2 i4 i5 i6) (hv33 : vw < 33) (hvl : (owf vw).length = 2) : CT l D y ⟨"NineBoardsModel", "asks", "([C)V"⟩ prog_13_method_11_code 2 none ({ frames := 3, cells := 0, slots := 0, locals := 64 } : Room) [.ref mo, .ref wa] [MB mo ma (nI t1) (nI t2) (nI t3) i4 i5 i6 i7 i8 i42 i49 i51 i53 i54 i59 i61 i64 i66 (nI t67) i76 i78, (ma 0, .inl (y 0, 1600, .inl (tby tx))), (wa, .inl (y 3, 2, .inl (WD vw)))] (QV D [MB mo ma (nI t1) (nI t2) (nI t3) i4 i5 i6 i7 i8 i42 i49 i51 i53 i54 i59 i61 i64 i66 (nI t67) i76 i78, (ma 0, .inl (y 0, 1600, .inl (tby tx))), (wa, .inl (y 3, 2, .inl (WD vw)))] (fun (u : Nat × Int32 × Int32 × Int32) => t2 ≤ u.1 ∧ u.1 ≤ t3 ∧ (u.2.2.1 = 0 → i5 = 0 ∧ t2 + 2 ≤ u.1) ∧ RR tx t3 (rwS tx t3 vw gs) u.1 u.2.1 u.2.2.1 u.2.2.2) (fun u => [MB mo ma (nI t1) (nI u.1) (nI t3) u.2.1 u.2.2.1 u.2.2.2 i7 i8 i42 i49 i51 i53 i54 i59 i61 i64 i66 (nI t67) i76 i78, (ma 0, .inl (y 0, 1600, .inl (tby tx))), (wa, .inl (y 3, 2, .inl (WD vw)))])) := by
  refine CT.of (by decide) (nb rfl) ?_
  intro p e s m args below meth c C hr
  refine j_lv (lv' := [(0, .ref mo), (1, .ref wa)]) rfl ?_
  refine j_aload_n (pc := 0) C d_Model_asks_0 rfl 0 rfl ?_
  refine j_get (pc := 1) C gf_Model_201 0 rfl rfl d_Model_asks_1 ?_
  refine j_if_ne (pc := 4) C (tgt := 24) d_Model_asks_4 (by decide) (fun c1 => ?_) (fun c1 => ?_)
  · exact j_vret (pc := 24) C hr (t2, i4, i5, i6) ⟨(show t2 ≤ t2 by omega), (show t2 ≤ t3 by omega), (fun e => absurd e c1), (rr_of hx (rw_d (fun e => c1 ((rr_z hx).mpr e))))⟩ [0, 1, 2] rfl (by decide) (by decide) (by decide) d_Model_asks_24
  · refine j_aload_n (pc := 7) C d_Model_asks_7 rfl 0 rfl ?_
    refine j_aload_n (pc := 8) C d_Model_asks_8 rfl 1 rfl ?_
    refine j_callVi (pc := 9) C (c_M_takes_2 l D y mo wa ma t1 t2 t3 i4 i5 i6 i7 i8 i42 i49 i51 i53 i54 i59 i61 i64 i66 t67 i76 i78 tx vw gs ha he hB hx hv33 hvl) kw_Model_228 kv_Model_takes 0 10 rfl rfl ⟨by decide, by decide⟩ ⟨by decide, by decide⟩ (wr := []) [0, 1, 2] [] rfl rfl (by decide) (by decide) (by decide) (As := [.ref wa]) (rest := []) rfl (nb rfl) rfl d_Model_asks_9 (fun r2 u3 hr2 => ?_)
    refine j_ws (ws' := [MB mo ma (nI t1) (nI u3.1) (nI t3) u3.2 i5 i6 i7 i8 i42 i49 i51 i53 i54 i59 i61 i64 i66 (nI t67) i76 i78, (ma 0, .inl (y 0, 1600, .inl (tby tx))), (wa, .inl (y 3, 2, .inl (WD vw)))]) rfl ?_
    obtain ⟨xh4, xh5, xh6⟩ := hr2
    rcases xh6 with ⟨rfl, xh7, xh8, xh9⟩ | ⟨rfl, xh10, xh11, xh12⟩
    · refine j_if_neF (pc := 12) C (tgt := 24) d_Model_asks_12 (by decide) (by decide) ?_
      refine j_aload_n (pc := 15) C d_Model_asks_15 rfl 0 rfl ?_
      refine j_iconst (pc := 16) C (v := 1) d_Model_asks_16 (by decide) ?_
      refine j_aload_n (pc := 17) C d_Model_asks_17 rfl 0 rfl ?_
      refine j_get (pc := 18) C gf_Model_207 0 rfl rfl d_Model_asks_18 ?_
      refine j_callVv (pc := 21) C (c_M_fail_1 l D y mo ma t1 u3.1 t3 u3.2 i5 i6 i7 i8 i42 i49 i51 i53 i54 i59 i61 i64 i66 t67 i76 i78 u3.1 gs tx ((rr_z xh7).mp c1) (by omega) c1) kw_Model_230 kv_Model_fail 0 10 rfl rfl ⟨by decide, by decide⟩ ⟨by decide, by decide⟩ (wr := [(ma 0, .inl (y 0, 1600, .inl (tby tx))), (wa, .inl (y 3, 2, .inl (WD vw)))]) [0] [1, 2] rfl rfl (by decide) (by decide) (by decide) (As := [.int 1, .int (nI u3.1)]) (rest := []) rfl (nb rfl) rfl d_Model_asks_21 (fun u13 hu14 => ?_)
      obtain ⟨xh15, xh16⟩ := hu14
      refine j_ws (ws' := [(ma 0, .inl (y 0, 1600, .inl (tby tx))), (wa, .inl (y 3, 2, .inl (WD vw))), MB mo ma (nI t1) (nI u3.1) (nI t3) u3.2 u13.1 u13.2 i7 i8 i42 i49 i51 i53 i54 i59 i61 i64 i66 (nI t67) i76 i78]) rfl ?_
      exact j_vret (pc := 24) C hr (u3.1, u3.2, u13.1, u13.2) ⟨(show t2 ≤ u3.1 by omega), (show u3.1 ≤ t3 by omega), (fun e => absurd e xh15), (rr_of xh16 (by rw [xh9 c1]; exact if_neg xh8))⟩ [2, 0, 1] rfl (by decide) (by decide) (by decide) d_Model_asks_24
    · refine j_if_neT (pc := 12) C (tgt := 24) d_Model_asks_12 (by decide) (by decide) ?_
      exact j_vret (pc := 24) C hr (u3.1, u3.2, i5, i6) ⟨(show t2 ≤ u3.1 by omega), (show u3.1 ≤ t3 by omega), (fun e => by exact ⟨e, by omega⟩), (rr_of xh10 (if_pos xh11))⟩ [0, 1, 2] rfl (by decide) (by decide) (by decide) d_Model_asks_24
set_option maxHeartbeats 4000000 in
set_option maxRecDepth 100000 in
theorem c_M_isHere_3 (l : Launch) (D : va_G) (y : Nat → ClassId) (mo : Nat) (wa : Nat) (ma : Nat → Nat) (t1 : Nat) (t2 : Nat) (t3 : Nat) (i4 : Int32) (i5 : Int32) (i6 : Int32) (i7 : Int32) (i8 : Int32) (i42 : Int32) (i49 : Int32) (i51 : Int32) (i53 : Int32) (i54 : Int32) (i59 : Int32) (i61 : Int32) (i64 : Int32) (i66 : Int32) (t67 : Nat) (i76 : Int64) (i78 : Int32) (tx : Nat → Nat) (vw : Nat) (gs : PS) (ha : t2 ≤ t3) (he : t3 ≤ 1600) (hB : ∀ j, tx j < 256) (hx : RR tx t3 gs t2 i4 i5 i6) (hv33 : vw < 33) (hvl : (owf vw).length = 3) : CT l D y ⟨"NineBoardsModel", "isHere", "([C)Z"⟩ prog_13_method_9_code 4 (some .boolean) ({ frames := 1, cells := 0, slots := 0, locals := 20 } : Room) [.ref mo, .ref wa] [MB mo ma (nI t1) (nI t2) (nI t3) i4 i5 i6 i7 i8 i42 i49 i51 i53 i54 i59 i61 i64 i66 (nI t67) i76 i78, (ma 0, .inl (y 0, 1600, .inl (tby tx))), (wa, .inl (y 3, 3, .inl (WD vw)))] (QI D [MB mo ma (nI t1) (nI t2) (nI t3) i4 i5 i6 i7 i8 i42 i49 i51 i53 i54 i59 i61 i64 i66 (nI t67) i76 i78, (ma 0, .inl (y 0, 1600, .inl (tby tx))), (wa, .inl (y 3, 3, .inl (WD vw)))] (fun (r : Int32) (u : Nat) => t2 ≤ u ∧ u ≤ t3 ∧ (i5 = 0 → u = stS tx t3 gs) ∧ RR tx t3 gs u i4 i5 i6 ∧ ((r = 0 ∧ ¬ iswS tx t3 vw gs = true) ∨ (r = 1 ∧ iswS tx t3 vw gs = true ∧ u + 3 = enS tx t3 gs))) (fun u => [MB mo ma (nI t1) (nI u) (nI t3) i4 i5 i6 i7 i8 i42 i49 i51 i53 i54 i59 i61 i64 i66 (nI t67) i76 i78, (ma 0, .inl (y 0, 1600, .inl (tby tx))), (wa, .inl (y 3, 3, .inl (WD vw)))])) := by
  refine CT.of (by decide) (nb rfl) ?_
  intro p e s m args below meth c C hr
  refine j_lv (lv' := [(0, .ref mo), (1, .ref wa)]) rfl ?_
  refine j_aload_n (pc := 0) C d_Model_isHere_0 rfl 0 rfl ?_
  refine j_get (pc := 1) C gf_Model_201 0 rfl rfl d_Model_isHere_1 ?_
  refine j_if_ne (pc := 4) C (tgt := 28) d_Model_isHere_4 (by decide) (fun c1 => ?_) (fun c1 => ?_)
  · refine j_iconst (pc := 28) C (v := 0) d_Model_isHere_28 (by decide) ?_
    exact j_iret (pc := 29) C hr (by decide) t2 ⟨(show t2 ≤ t2 by omega), (show t2 ≤ t3 by omega), (fun e => absurd e c1), hx, (Or.inl ⟨rfl, hw_dead hx c1⟩)⟩ [0, 1, 2] rfl (by decide) (by decide) (by decide) d_Model_isHere_29
  · refine j_aload_n (pc := 7) C d_Model_isHere_7 rfl 0 rfl ?_
    refine j_callVi (pc := 8) C (c_M_look l D y mo ma t1 t2 t3 i4 i5 i6 i7 i8 i42 i49 i51 i53 i54 i59 i61 i64 i66 t67 i76 i78 tx gs ha he hB hx c1) kw_Model_213 kv_Model_look 0 10 rfl rfl ⟨by decide, by decide⟩ ⟨by decide, by decide⟩ (wr := [(wa, .inl (y 3, 3, .inl (WD vw)))]) [0, 1] [2] rfl rfl (by decide) (by decide) (by decide) (As := []) (rest := []) rfl (nb rfl) rfl d_Model_isHere_8 (fun r2 u3 hr2 => ?_)
    refine j_ws (ws' := [(wa, .inl (y 3, 3, .inl (WD vw))), MB mo ma (nI t1) (nI u3) (nI t3) i4 i5 i6 i7 i8 i42 i49 i51 i53 i54 i59 i61 i64 i66 (nI t67) i76 i78, (ma 0, .inl (y 0, 1600, .inl (tby tx)))]) rfl ?_
    obtain ⟨xh4, xh5, xh6, xh7, xh8⟩ := hr2
    rcases xh8 with ⟨rfl, xh9⟩ | ⟨rfl, xh10⟩
    · refine j_callSi (pc := 11) C (c_M_isLetter_m l D y ) kw_Model_217 ks_Model_isLetter ⟨by decide, by decide⟩ ⟨by decide, by decide⟩ (wr := [(wa, .inl (y 3, 3, .inl (WD vw))), MB mo ma (nI t1) (nI u3) (nI t3) i4 i5 i6 i7 i8 i42 i49 i51 i53 i54 i59 i61 i64 i66 (nI t67) i76 i78, (ma 0, .inl (y 0, 1600, .inl (tby tx)))]) [] [0, 1, 2] rfl rfl (by decide) (by decide) (by decide) (As := [.int (-1)]) (rest := []) rfl (nb rfl) rfl d_Model_isHere_11 (fun r11 _ hr11 => ?_)
      subst hr11
      refine j_ws (ws' := [(wa, .inl (y 3, 3, .inl (WD vw))), MB mo ma (nI t1) (nI u3) (nI t3) i4 i5 i6 i7 i8 i42 i49 i51 i53 i54 i59 i61 i64 i66 (nI t67) i76 i78, (ma 0, .inl (y 0, 1600, .inl (tby tx)))]) rfl ?_
      refine j_st (st' := [.int 0]) rfl ?_
      refine j_if_eqT (pc := 14) C (tgt := 28) d_Model_isHere_14 (by decide) (by decide) ?_
      refine j_iconst (pc := 28) C (v := 0) d_Model_isHere_28 (by decide) ?_
      exact j_iret (pc := 29) C hr (by decide) u3 ⟨(show t2 ≤ u3 by omega), (show u3 ≤ t3 by omega), (fun _ => xh6), xh7, (Or.inl ⟨rfl, is_no0 (s := 1) (by rw [rl_end ((rr_z xh7).mp c1) xh6 xh9]; decide)⟩)⟩ [1, 2, 0] rfl (by decide) (by decide) (by decide) d_Model_isHere_29
    · have hb12 : tx u3 < 256 := hB u3
      refine j_callSi (pc := 11) C (c_M_isLetter_n l D y (tx u3) (by omega)) kw_Model_217 ks_Model_isLetter ⟨by decide, by decide⟩ ⟨by decide, by decide⟩ (wr := [(wa, .inl (y 3, 3, .inl (WD vw))), MB mo ma (nI t1) (nI u3) (nI t3) i4 i5 i6 i7 i8 i42 i49 i51 i53 i54 i59 i61 i64 i66 (nI t67) i76 i78, (ma 0, .inl (y 0, 1600, .inl (tby tx)))]) [] [0, 1, 2] rfl rfl (by decide) (by decide) (by decide) (As := [.int (nI (tx u3))]) (rest := []) rfl (nb rfl) rfl d_Model_isHere_11 (fun r13 _ hr13 => ?_)
      refine j_ws (ws' := [(wa, .inl (y 3, 3, .inl (WD vw))), MB mo ma (nI t1) (nI u3) (nI t3) i4 i5 i6 i7 i8 i42 i49 i51 i53 i54 i59 i61 i64 i66 (nI t67) i76 i78, (ma 0, .inl (y 0, 1600, .inl (tby tx)))]) rfl ?_
      rcases hr13 with ⟨rfl, xh15⟩ | ⟨rfl, xh16⟩
      · refine j_if_eqT (pc := 14) C (tgt := 28) d_Model_isHere_14 (by decide) (by decide) ?_
        refine j_iconst (pc := 28) C (v := 0) d_Model_isHere_28 (by decide) ?_
        exact j_iret (pc := 29) C hr (by decide) u3 ⟨(show t2 ≤ u3 by omega), (show u3 ≤ t3 by omega), (fun _ => xh6), xh7, (Or.inl ⟨rfl, is_no0 (s := 1) (rl_ns xh6 xh15 (by decide) (by decide))⟩)⟩ [1, 2, 0] rfl (by decide) (by decide) (by decide) d_Model_isHere_29
      · refine j_if_eqF (pc := 14) C (tgt := 28) d_Model_isHere_14 (by decide) (by decide) ?_
        refine j_aload_n (pc := 17) C d_Model_isHere_17 rfl 0 rfl ?_
        refine j_get (pc := 18) C gf_Model_207 1 rfl rfl d_Model_isHere_18 ?_
        refine j_aload_n (pc := 21) C d_Model_isHere_21 rfl 0 rfl ?_
        refine j_get (pc := 22) C gf_Model_221 1 rfl rfl d_Model_isHere_22 ?_
        refine j_icmp_ne (pc := 25) C (tgt := 30) d_Model_isHere_25 (by decide) (fun c17 => ?_) (fun c17 => ?_)
        · have xh18 : srS tx t3 gs = 1 := (rl_yes xh7 ((rr_z xh7).mp c1) he xh6 xh10 xh16 c17)
          refine j_aload_n (pc := 30) C d_Model_isHere_30 rfl 0 rfl ?_
          refine j_get (pc := 31) C gf_Model_207 1 rfl rfl d_Model_isHere_31 ?_
          refine j_istore_n (pc := 34) C (lv' := [(2, .int (nI u3)), (0, .ref mo), (1, .ref wa)]) d_Model_isHere_34 rfl (by decide) rfl ?_
          refine j_loop (α := Nat) (fun a => t3 - a) (fun a => (a ≤ t3) ∧ (u3 ≤ a) ∧ ((∀ i, u3 ≤ i → i < a → srt (tx i) = 1))) (fun a => [(wa, .inl (y 3, 3, .inl (WD vw))), MB mo ma (nI t1) (nI u3) (nI t3) i4 i5 i6 i7 i8 i42 i49 i51 i53 i54 i59 i61 i64 i66 (nI t67) i76 i78, (ma 0, .inl (y 0, 1600, .inl (tby tx)))]) (fun a => [(2, .int (nI a)), (0, .ref mo), (1, .ref wa)]) (u3) rfl rfl ⟨xh5, (show u3 ≤ u3 by omega), (fun i h1 h2 => absurd h1 (by omega))⟩ ?_
          rintro kz hP49 ih50
          obtain ⟨hk__, hk2__, hl__⟩ := hP49
          have hk_ : kz ≤ t3 := hk__
          have hk2_ : u3 ≤ kz := hk2__
          have hl_ : (∀ i, u3 ≤ i → i < kz → srt (tx i) = 1) := hl__
          refine j_ws (ws' := [(wa, .inl (y 3, 3, .inl (WD vw))), MB mo ma (nI t1) (nI u3) (nI t3) i4 i5 i6 i7 i8 i42 i49 i51 i53 i54 i59 i61 i64 i66 (nI t67) i76 i78, (ma 0, .inl (y 0, 1600, .inl (tby tx)))]) rfl ?_
          refine j_lv (lv' := [(2, .int (nI kz)), (0, .ref mo), (1, .ref wa)]) rfl ?_
          refine j_iload_n (pc := 35) C d_Model_isHere_35 rfl 0 rfl ?_
          refine j_aload_n (pc := 36) C d_Model_isHere_36 rfl 1 rfl ?_
          refine j_get (pc := 37) C gf_Model_210 1 rfl rfl d_Model_isHere_37 ?_
          by_cases c51 : t3 ≤ kz
          · refine j_icmp_geT (pc := 40) C (tgt := 61) d_Model_isHere_40 (by decide) (show nI t3 ≤ nI kz from nI_le (by omega) (by omega)) ?_
            have xh52 : kz = enS tx t3 gs := en_of xh18 (by decide) (by decide) xh6 hl_ (by omega) (fun h => absurd h.1 (by omega)) (by omega)
            refine j_iload_n (pc := 61) C d_Model_isHere_61 rfl 0 rfl ?_
            refine j_aload_n (pc := 62) C d_Model_isHere_62 rfl 1 rfl ?_
            refine j_get (pc := 63) C gf_Model_207 1 rfl rfl d_Model_isHere_63 ?_
            refine j_isub (pc := 66) C (v := nI (kz - u3)) d_Model_isHere_66 (pk_sub (by omega)) ?_
            refine j_aload_n (pc := 67) C d_Model_isHere_67 rfl 2 rfl ?_
            refine j_alen (pc := 68) C 0 3 rfl rfl (v := 3) rfl d_Model_isHere_68 ?_
            by_cases c53 : (kz - u3) = 3
            · refine j_icmp_eqT (pc := 69) C (tgt := 74) d_Model_isHere_69 (by decide) (show nI (kz - u3) = nI 3 from (nI_eq (by omega) (by omega)).mpr (by omega)) ?_
              refine j_iconst (pc := 74) C (v := 0) d_Model_isHere_74 (by decide) ?_
              refine j_istore_n (pc := 75) C (lv' := [(3, .int 0), (2, .int (nI kz)), (0, .ref mo), (1, .ref wa)]) d_Model_isHere_75 rfl (by decide) rfl ?_
              refine j_loop (α := Nat) (fun a => 3 - a) (fun a => (a ≤ 3) ∧ ((∀ j, j < a → tx (u3 + j) = wdv vw j))) (fun a => [(wa, .inl (y 3, 3, .inl (WD vw))), MB mo ma (nI t1) (nI u3) (nI t3) i4 i5 i6 i7 i8 i42 i49 i51 i53 i54 i59 i61 i64 i66 (nI t67) i76 i78, (ma 0, .inl (y 0, 1600, .inl (tby tx)))]) (fun a => [(3, .int (nI a)), (2, .int (nI kz)), (0, .ref mo), (1, .ref wa)]) (0) rfl rfl ⟨(show 0 ≤ 3 by omega), (fun j h1 => absurd h1 (by omega))⟩ ?_
              rintro iz hP58 ih59
              obtain ⟨hi__, hw__⟩ := hP58
              have hi_ : iz ≤ 3 := hi__
              have hw_ : (∀ j, j < iz → tx (u3 + j) = wdv vw j) := hw__
              refine j_ws (ws' := [(wa, .inl (y 3, 3, .inl (WD vw))), MB mo ma (nI t1) (nI u3) (nI t3) i4 i5 i6 i7 i8 i42 i49 i51 i53 i54 i59 i61 i64 i66 (nI t67) i76 i78, (ma 0, .inl (y 0, 1600, .inl (tby tx)))]) rfl ?_
              refine j_lv (lv' := [(3, .int (nI iz)), (2, .int (nI kz)), (0, .ref mo), (1, .ref wa)]) rfl ?_
              refine j_iload_n (pc := 76) C d_Model_isHere_76 rfl 0 rfl ?_
              refine j_aload_n (pc := 77) C d_Model_isHere_77 rfl 3 rfl ?_
              refine j_alen (pc := 78) C 0 3 rfl rfl (v := 3) rfl d_Model_isHere_78 ?_
              by_cases c60 : 3 ≤ iz
              · refine j_icmp_geT (pc := 79) C (tgt := 107) d_Model_isHere_79 (by decide) (show nI 3 ≤ nI iz from nI_le (by omega) (by omega)) ?_
                refine j_iconst (pc := 107) C (v := 1) d_Model_isHere_107 (by decide) ?_
                exact j_iret (pc := 108) C hr (by decide) u3 ⟨(show t2 ≤ u3 by omega), (show u3 ≤ t3 by omega), (fun _ => xh6), xh7, (Or.inr ⟨rfl, is_yes xh18 xh6 xh52 hvl (by omega) (fun j h => hw_ j (by omega)), by omega⟩)⟩ [1, 2, 0] rfl (by decide) (by decide) (by decide) d_Model_isHere_108
              · refine j_icmp_geF (pc := 79) C (tgt := 107) d_Model_isHere_79 (by decide) (show ¬ nI 3 ≤ nI iz from nI_ge (by omega) (by omega)) ?_
                refine j_aload_n (pc := 82) C d_Model_isHere_82 rfl 2 rfl ?_
                refine j_get (pc := 83) C gf_Model_7 1 rfl rfl d_Model_isHere_83 ?_
                refine j_aload_n (pc := 86) C d_Model_isHere_86 rfl 2 rfl ?_
                refine j_get (pc := 87) C gf_Model_207 1 rfl rfl d_Model_isHere_87 ?_
                refine j_iload_n (pc := 90) C d_Model_isHere_90 rfl 0 rfl ?_
                refine j_iadd (pc := 91) C (v := nI (u3 + iz)) d_Model_isHere_91 (nI_add _ _) ?_
                have hb61 : tx (u3 + iz) < 256 := hB (u3 + iz)
                refine j_iald (pc := 92) C 2 rfl (v := nI (tx (u3 + iz))) (vp_in_nI (by omega) (by decide)) (by rw [nI_clamp (by omega)]; rfl) d_Model_isHere_92 ?_
                refine j_aload_n (pc := 93) C d_Model_isHere_93 rfl 3 rfl ?_
                refine j_iload_n (pc := 94) C d_Model_isHere_94 rfl 0 rfl ?_
                have hb62 : wdv vw iz < 256 := wd_lt hv33 iz
                refine j_cald (pc := 95) C 0 rfl (v := nI (wdv vw iz)) (vp_in_nI (by omega) (by decide)) (by rw [nI_clamp (by omega)]; exact wd_ld hvl (by omega)) d_Model_isHere_95 ?_
                by_cases c63 : (tx (u3 + iz)) = (wdv vw iz)
                · refine j_icmp_eqT (pc := 96) C (tgt := 101) d_Model_isHere_96 (by decide) (show nI (tx (u3 + iz)) = nI (wdv vw iz) from (nI_eq (by omega) (by omega)).mpr (by omega)) ?_
                  refine j_iinc (pc := 101) C (v := nI (iz + 1)) (lv' := [(3, .int (nI (iz + 1))), (2, .int (nI kz)), (0, .ref mo), (1, .ref wa)]) d_Model_isHere_101 0 rfl (nI_add _ _) (by decide) rfl ?_
                  refine j_goto (pc := 104) C (tgt := 76) d_Model_isHere_104 (by decide) ?_
                  exact ih59 ((iz + 1)) ⟨(show (iz + 1) ≤ 3 by omega), (fun j h1 => by
                          by_cases e : j = iz
                          · rw [e]; omega
                          · exact hw_ j (by omega))⟩ (show 3 - (iz + 1) < 3 - iz by omega)
                · refine j_icmp_eqF (pc := 96) C (tgt := 101) d_Model_isHere_96 (by decide) (show ¬ nI (tx (u3 + iz)) = nI (wdv vw iz) from fun e => absurd ((nI_eq (by omega) (by omega)).mp e) (by omega)) ?_
                  refine j_iconst (pc := 99) C (v := 0) d_Model_isHere_99 (by decide) ?_
                  exact j_iret (pc := 100) C hr (by decide) u3 ⟨(show t2 ≤ u3 by omega), (show u3 ≤ t3 by omega), (fun _ => xh6), xh7, (Or.inl ⟨rfl, is_no2 (j := iz) xh6 xh52 (by omega) (hl_ _ (by omega) (by omega)) (by omega)⟩)⟩ [1, 2, 0] rfl (by decide) (by decide) (by decide) d_Model_isHere_100
            · refine j_icmp_eqF (pc := 69) C (tgt := 74) d_Model_isHere_69 (by decide) (show ¬ nI (kz - u3) = nI 3 from fun e => absurd ((nI_eq (by omega) (by omega)).mp e) (by omega)) ?_
              refine j_iconst (pc := 72) C (v := 0) d_Model_isHere_72 (by decide) ?_
              exact j_iret (pc := 73) C hr (by decide) u3 ⟨(show t2 ≤ u3 by omega), (show u3 ≤ t3 by omega), (fun _ => xh6), xh7, (Or.inl ⟨rfl, is_no1 xh6 xh52 hvl (by omega)⟩)⟩ [1, 2, 0] rfl (by decide) (by decide) (by decide) d_Model_isHere_73
          · refine j_icmp_geF (pc := 40) C (tgt := 61) d_Model_isHere_40 (by decide) (show ¬ nI t3 ≤ nI kz from nI_ge (by omega) (by omega)) ?_
            refine j_aload_n (pc := 43) C d_Model_isHere_43 rfl 1 rfl ?_
            refine j_get (pc := 44) C gf_Model_7 1 rfl rfl d_Model_isHere_44 ?_
            refine j_iload_n (pc := 47) C d_Model_isHere_47 rfl 0 rfl ?_
            have hb64 : tx kz < 256 := hB kz
            refine j_iald (pc := 48) C 2 rfl (v := nI (tx kz)) (vp_in_nI (by omega) (by decide)) (by rw [nI_clamp (by omega)]; rfl) d_Model_isHere_48 ?_
            refine j_callSi (pc := 49) C (c_M_isLetter_n l D y (tx kz) (by omega)) kw_Model_217 ks_Model_isLetter ⟨by decide, by decide⟩ ⟨by decide, by decide⟩ (wr := [(wa, .inl (y 3, 3, .inl (WD vw))), MB mo ma (nI t1) (nI u3) (nI t3) i4 i5 i6 i7 i8 i42 i49 i51 i53 i54 i59 i61 i64 i66 (nI t67) i76 i78, (ma 0, .inl (y 0, 1600, .inl (tby tx)))]) [] [0, 1, 2] rfl rfl (by decide) (by decide) (by decide) (As := [.int (nI (tx kz))]) (rest := []) rfl (nb rfl) rfl d_Model_isHere_49 (fun r65 _ hr65 => ?_)
            refine j_ws (ws' := [(wa, .inl (y 3, 3, .inl (WD vw))), MB mo ma (nI t1) (nI u3) (nI t3) i4 i5 i6 i7 i8 i42 i49 i51 i53 i54 i59 i61 i64 i66 (nI t67) i76 i78, (ma 0, .inl (y 0, 1600, .inl (tby tx)))]) rfl ?_
            rcases hr65 with ⟨rfl, xh67⟩ | ⟨rfl, xh68⟩
            · refine j_if_eqT (pc := 52) C (tgt := 61) d_Model_isHere_52 (by decide) (by decide) ?_
              have xh69 : kz = enS tx t3 gs := en_of xh18 (by decide) (by decide) xh6 hl_ (by omega) (fun h => absurd h.2 xh67) (by omega)
              refine j_iload_n (pc := 61) C d_Model_isHere_61 rfl 0 rfl ?_
              refine j_aload_n (pc := 62) C d_Model_isHere_62 rfl 1 rfl ?_
              refine j_get (pc := 63) C gf_Model_207 1 rfl rfl d_Model_isHere_63 ?_
              refine j_isub (pc := 66) C (v := nI (kz - u3)) d_Model_isHere_66 (pk_sub (by omega)) ?_
              refine j_aload_n (pc := 67) C d_Model_isHere_67 rfl 2 rfl ?_
              refine j_alen (pc := 68) C 0 3 rfl rfl (v := 3) rfl d_Model_isHere_68 ?_
              by_cases c70 : (kz - u3) = 3
              · refine j_icmp_eqT (pc := 69) C (tgt := 74) d_Model_isHere_69 (by decide) (show nI (kz - u3) = nI 3 from (nI_eq (by omega) (by omega)).mpr (by omega)) ?_
                refine j_iconst (pc := 74) C (v := 0) d_Model_isHere_74 (by decide) ?_
                refine j_istore_n (pc := 75) C (lv' := [(3, .int 0), (2, .int (nI kz)), (0, .ref mo), (1, .ref wa)]) d_Model_isHere_75 rfl (by decide) rfl ?_
                refine j_loop (α := Nat) (fun a => 3 - a) (fun a => (a ≤ 3) ∧ ((∀ j, j < a → tx (u3 + j) = wdv vw j))) (fun a => [(wa, .inl (y 3, 3, .inl (WD vw))), MB mo ma (nI t1) (nI u3) (nI t3) i4 i5 i6 i7 i8 i42 i49 i51 i53 i54 i59 i61 i64 i66 (nI t67) i76 i78, (ma 0, .inl (y 0, 1600, .inl (tby tx)))]) (fun a => [(3, .int (nI a)), (2, .int (nI kz)), (0, .ref mo), (1, .ref wa)]) (0) rfl rfl ⟨(show 0 ≤ 3 by omega), (fun j h1 => absurd h1 (by omega))⟩ ?_
                rintro iz hP75 ih76
                obtain ⟨hi__, hw__⟩ := hP75
                have hi_ : iz ≤ 3 := hi__
                have hw_ : (∀ j, j < iz → tx (u3 + j) = wdv vw j) := hw__
                refine j_ws (ws' := [(wa, .inl (y 3, 3, .inl (WD vw))), MB mo ma (nI t1) (nI u3) (nI t3) i4 i5 i6 i7 i8 i42 i49 i51 i53 i54 i59 i61 i64 i66 (nI t67) i76 i78, (ma 0, .inl (y 0, 1600, .inl (tby tx)))]) rfl ?_
                refine j_lv (lv' := [(3, .int (nI iz)), (2, .int (nI kz)), (0, .ref mo), (1, .ref wa)]) rfl ?_
                refine j_iload_n (pc := 76) C d_Model_isHere_76 rfl 0 rfl ?_
                refine j_aload_n (pc := 77) C d_Model_isHere_77 rfl 3 rfl ?_
                refine j_alen (pc := 78) C 0 3 rfl rfl (v := 3) rfl d_Model_isHere_78 ?_
                by_cases c77 : 3 ≤ iz
                · refine j_icmp_geT (pc := 79) C (tgt := 107) d_Model_isHere_79 (by decide) (show nI 3 ≤ nI iz from nI_le (by omega) (by omega)) ?_
                  refine j_iconst (pc := 107) C (v := 1) d_Model_isHere_107 (by decide) ?_
                  exact j_iret (pc := 108) C hr (by decide) u3 ⟨(show t2 ≤ u3 by omega), (show u3 ≤ t3 by omega), (fun _ => xh6), xh7, (Or.inr ⟨rfl, is_yes xh18 xh6 xh69 hvl (by omega) (fun j h => hw_ j (by omega)), by omega⟩)⟩ [1, 2, 0] rfl (by decide) (by decide) (by decide) d_Model_isHere_108
                · refine j_icmp_geF (pc := 79) C (tgt := 107) d_Model_isHere_79 (by decide) (show ¬ nI 3 ≤ nI iz from nI_ge (by omega) (by omega)) ?_
                  refine j_aload_n (pc := 82) C d_Model_isHere_82 rfl 2 rfl ?_
                  refine j_get (pc := 83) C gf_Model_7 1 rfl rfl d_Model_isHere_83 ?_
                  refine j_aload_n (pc := 86) C d_Model_isHere_86 rfl 2 rfl ?_
                  refine j_get (pc := 87) C gf_Model_207 1 rfl rfl d_Model_isHere_87 ?_
                  refine j_iload_n (pc := 90) C d_Model_isHere_90 rfl 0 rfl ?_
                  refine j_iadd (pc := 91) C (v := nI (u3 + iz)) d_Model_isHere_91 (nI_add _ _) ?_
                  have hb78 : tx (u3 + iz) < 256 := hB (u3 + iz)
                  refine j_iald (pc := 92) C 2 rfl (v := nI (tx (u3 + iz))) (vp_in_nI (by omega) (by decide)) (by rw [nI_clamp (by omega)]; rfl) d_Model_isHere_92 ?_
                  refine j_aload_n (pc := 93) C d_Model_isHere_93 rfl 3 rfl ?_
                  refine j_iload_n (pc := 94) C d_Model_isHere_94 rfl 0 rfl ?_
                  have hb79 : wdv vw iz < 256 := wd_lt hv33 iz
                  refine j_cald (pc := 95) C 0 rfl (v := nI (wdv vw iz)) (vp_in_nI (by omega) (by decide)) (by rw [nI_clamp (by omega)]; exact wd_ld hvl (by omega)) d_Model_isHere_95 ?_
                  by_cases c80 : (tx (u3 + iz)) = (wdv vw iz)
                  · refine j_icmp_eqT (pc := 96) C (tgt := 101) d_Model_isHere_96 (by decide) (show nI (tx (u3 + iz)) = nI (wdv vw iz) from (nI_eq (by omega) (by omega)).mpr (by omega)) ?_
                    refine j_iinc (pc := 101) C (v := nI (iz + 1)) (lv' := [(3, .int (nI (iz + 1))), (2, .int (nI kz)), (0, .ref mo), (1, .ref wa)]) d_Model_isHere_101 0 rfl (nI_add _ _) (by decide) rfl ?_
                    refine j_goto (pc := 104) C (tgt := 76) d_Model_isHere_104 (by decide) ?_
                    exact ih76 ((iz + 1)) ⟨(show (iz + 1) ≤ 3 by omega), (fun j h1 => by
                            by_cases e : j = iz
                            · rw [e]; omega
                            · exact hw_ j (by omega))⟩ (show 3 - (iz + 1) < 3 - iz by omega)
                  · refine j_icmp_eqF (pc := 96) C (tgt := 101) d_Model_isHere_96 (by decide) (show ¬ nI (tx (u3 + iz)) = nI (wdv vw iz) from fun e => absurd ((nI_eq (by omega) (by omega)).mp e) (by omega)) ?_
                    refine j_iconst (pc := 99) C (v := 0) d_Model_isHere_99 (by decide) ?_
                    exact j_iret (pc := 100) C hr (by decide) u3 ⟨(show t2 ≤ u3 by omega), (show u3 ≤ t3 by omega), (fun _ => xh6), xh7, (Or.inl ⟨rfl, is_no2 (j := iz) xh6 xh69 (by omega) (hl_ _ (by omega) (by omega)) (by omega)⟩)⟩ [1, 2, 0] rfl (by decide) (by decide) (by decide) d_Model_isHere_100
              · refine j_icmp_eqF (pc := 69) C (tgt := 74) d_Model_isHere_69 (by decide) (show ¬ nI (kz - u3) = nI 3 from fun e => absurd ((nI_eq (by omega) (by omega)).mp e) (by omega)) ?_
                refine j_iconst (pc := 72) C (v := 0) d_Model_isHere_72 (by decide) ?_
                exact j_iret (pc := 73) C hr (by decide) u3 ⟨(show t2 ≤ u3 by omega), (show u3 ≤ t3 by omega), (fun _ => xh6), xh7, (Or.inl ⟨rfl, is_no1 xh6 xh69 hvl (by omega)⟩)⟩ [1, 2, 0] rfl (by decide) (by decide) (by decide) d_Model_isHere_73
            · refine j_if_eqF (pc := 52) C (tgt := 61) d_Model_isHere_52 (by decide) (by decide) ?_
              refine j_iinc (pc := 55) C (v := nI (kz + 1)) (lv' := [(2, .int (nI (kz + 1))), (0, .ref mo), (1, .ref wa)]) d_Model_isHere_55 0 rfl (nI_add _ _) (by decide) rfl ?_
              refine j_goto (pc := 58) C (tgt := 35) d_Model_isHere_58 (by decide) ?_
              exact ih50 ((kz + 1)) ⟨(show (kz + 1) ≤ t3 by omega), (show u3 ≤ (kz + 1) by omega), (fun i h1 h2 => by
                      by_cases e : i = kz
                      · rw [e]; exact xh68
                      · exact hl_ i h1 (by omega))⟩ (show t3 - (kz + 1) < t3 - kz by omega)
        · refine j_iconst (pc := 28) C (v := 0) d_Model_isHere_28 (by decide) ?_
          exact j_iret (pc := 29) C hr (by decide) u3 ⟨(show t2 ≤ u3 by omega), (show u3 ≤ t3 by omega), (fun _ => xh6), xh7, (Or.inl ⟨rfl, is_no0 (s := 1) (rl_ad xh7 ((rr_z xh7).mp c1) he xh6 c17 (by decide) (by decide))⟩)⟩ [1, 2, 0] rfl (by decide) (by decide) (by decide) d_Model_isHere_29
set_option maxHeartbeats 4000000 in
set_option maxRecDepth 100000 in
theorem c_M_takes_3 (l : Launch) (D : va_G) (y : Nat → ClassId) (mo : Nat) (wa : Nat) (ma : Nat → Nat) (t1 : Nat) (t2 : Nat) (t3 : Nat) (i4 : Int32) (i5 : Int32) (i6 : Int32) (i7 : Int32) (i8 : Int32) (i42 : Int32) (i49 : Int32) (i51 : Int32) (i53 : Int32) (i54 : Int32) (i59 : Int32) (i61 : Int32) (i64 : Int32) (i66 : Int32) (t67 : Nat) (i76 : Int64) (i78 : Int32) (tx : Nat → Nat) (vw : Nat) (gs : PS) (ha : t2 ≤ t3) (he : t3 ≤ 1600) (hB : ∀ j, tx j < 256) (hx : RR tx t3 gs t2 i4 i5 i6) (hv33 : vw < 33) (hvl : (owf vw).length = 3) : CT l D y ⟨"NineBoardsModel", "takes", "([C)Z"⟩ prog_13_method_10_code 2 (some .boolean) ({ frames := 2, cells := 0, slots := 0, locals := 43 } : Room) [.ref mo, .ref wa] [MB mo ma (nI t1) (nI t2) (nI t3) i4 i5 i6 i7 i8 i42 i49 i51 i53 i54 i59 i61 i64 i66 (nI t67) i76 i78, (ma 0, .inl (y 0, 1600, .inl (tby tx))), (wa, .inl (y 3, 3, .inl (WD vw)))] (QI D [MB mo ma (nI t1) (nI t2) (nI t3) i4 i5 i6 i7 i8 i42 i49 i51 i53 i54 i59 i61 i64 i66 (nI t67) i76 i78, (ma 0, .inl (y 0, 1600, .inl (tby tx))), (wa, .inl (y 3, 3, .inl (WD vw)))] (fun (r : Int32) (u : Nat × Int32) => t2 ≤ u.1 ∧ u.1 ≤ t3 ∧ ((r = 0 ∧ RR tx t3 gs u.1 u.2 i5 i6 ∧ ¬ iswS tx t3 vw gs = true ∧ (i5 = 0 → u.1 = stS tx t3 gs)) ∨ (r = 1 ∧ RR tx t3 (advS tx t3 gs) u.1 u.2 i5 i6 ∧ iswS tx t3 vw gs = true ∧ t2 + 3 ≤ u.1))) (fun u => [MB mo ma (nI t1) (nI u.1) (nI t3) u.2 i5 i6 i7 i8 i42 i49 i51 i53 i54 i59 i61 i64 i66 (nI t67) i76 i78, (ma 0, .inl (y 0, 1600, .inl (tby tx))), (wa, .inl (y 3, 3, .inl (WD vw)))])) := by
  refine CT.of (by decide) (nb rfl) ?_
  intro p e s m args below meth c C hr
  refine j_lv (lv' := [(0, .ref mo), (1, .ref wa)]) rfl ?_
  refine j_aload_n (pc := 0) C d_Model_takes_0 rfl 0 rfl ?_
  refine j_aload_n (pc := 1) C d_Model_takes_1 rfl 1 rfl ?_
  refine j_callVi (pc := 2) C (c_M_isHere_3 l D y mo wa ma t1 t2 t3 i4 i5 i6 i7 i8 i42 i49 i51 i53 i54 i59 i61 i64 i66 t67 i76 i78 tx vw gs ha he hB hx hv33 hvl) kw_Model_224 kv_Model_isHere 0 10 rfl rfl ⟨by decide, by decide⟩ ⟨by decide, by decide⟩ (wr := []) [0, 1, 2] [] rfl rfl (by decide) (by decide) (by decide) (As := [.ref wa]) (rest := []) rfl (nb rfl) rfl d_Model_takes_2 (fun r1 u2 hr1 => ?_)
  refine j_ws (ws' := [MB mo ma (nI t1) (nI u2) (nI t3) i4 i5 i6 i7 i8 i42 i49 i51 i53 i54 i59 i61 i64 i66 (nI t67) i76 i78, (ma 0, .inl (y 0, 1600, .inl (tby tx))), (wa, .inl (y 3, 3, .inl (WD vw)))]) rfl ?_
  obtain ⟨xh3, xh4, xh5, xh6, xh7⟩ := hr1
  rcases xh7 with ⟨rfl, xh8⟩ | ⟨rfl, xh9, xh10⟩
  · refine j_if_neF (pc := 5) C (tgt := 10) d_Model_takes_5 (by decide) (by decide) ?_
    refine j_iconst (pc := 8) C (v := 0) d_Model_takes_8 (by decide) ?_
    exact j_iret (pc := 9) C hr (by decide) (u2, i4) ⟨(show t2 ≤ u2 by omega), (show u2 ≤ t3 by omega), (Or.inl ⟨rfl, xh6, xh8, xh5⟩)⟩ [0, 1, 2] rfl (by decide) (by decide) (by decide) d_Model_takes_9
  · refine j_if_neT (pc := 5) C (tgt := 10) d_Model_takes_5 (by decide) (by decide) ?_
    refine j_aload_n (pc := 10) C d_Model_takes_10 rfl 0 rfl ?_
    refine j_dup (pc := 11) C d_Model_takes_11 rfl ?_
    refine j_get (pc := 12) C gf_Model_207 0 rfl rfl d_Model_takes_12 ?_
    refine j_aload_n (pc := 15) C d_Model_takes_15 rfl 1 rfl ?_
    refine j_alen (pc := 16) C 2 3 rfl rfl (v := 3) rfl d_Model_takes_16 ?_
    refine j_iadd (pc := 17) C (v := nI (u2 + 3)) d_Model_takes_17 (nI_add _ _) ?_
    refine j_put (pc := 18) C pf_Model_207 0 (ws' := [MB mo ma (nI t1) (nI (u2 + 3)) (nI t3) i4 i5 i6 i7 i8 i42 i49 i51 i53 i54 i59 i61 i64 i66 (nI t67) i76 i78, (ma 0, .inl (y 0, 1600, .inl (tby tx))), (wa, .inl (y 3, 3, .inl (WD vw)))]) rfl rfl rfl (nl rfl) rfl d_Model_takes_18 ?_
    refine j_aload_n (pc := 21) C d_Model_takes_21 rfl 0 rfl ?_
    refine j_aload_n (pc := 22) C d_Model_takes_22 rfl 0 rfl ?_
    refine j_get (pc := 23) C gf_Model_207 0 rfl rfl d_Model_takes_23 ?_
    refine j_put (pc := 26) C pf_Model_221 0 (ws' := [MB mo ma (nI t1) (nI (u2 + 3)) (nI t3) (nI (u2 + 3)) i5 i6 i7 i8 i42 i49 i51 i53 i54 i59 i61 i64 i66 (nI t67) i76 i78, (ma 0, .inl (y 0, 1600, .inl (tby tx))), (wa, .inl (y 3, 3, .inl (WD vw)))]) rfl rfl rfl (nl rfl) rfl d_Model_takes_26 ?_
    have xh11 : RR tx t3 (advS tx t3 gs) (u2 + 3) (nI (u2 + 3)) i5 i6 := (rr_adv xh6 he (of_decide_eq_true xh9).1 (by decide) (show (u2 + 3) = enS tx t3 gs by omega) (Or.inr ⟨by decide, rfl⟩))
    refine j_iconst (pc := 29) C (v := 1) d_Model_takes_29 (by decide) ?_
    exact j_iret (pc := 30) C hr (by decide) ((u2 + 3), nI (u2 + 3)) ⟨(show t2 ≤ (u2 + 3) by omega), (show (u2 + 3) ≤ t3 by have := (en_end (of_decide_eq_true xh9).1 (by decide) (by decide)).1; omega), (Or.inr ⟨rfl, xh11, xh9, show t2 + 3 ≤ (u2 + 3) by omega⟩)⟩ [0, 1, 2] rfl (by decide) (by decide) (by decide) d_Model_takes_30
set_option maxHeartbeats 4000000 in
set_option maxRecDepth 100000 in
theorem c_M_asks_3 (l : Launch) (D : va_G) (y : Nat → ClassId) (mo : Nat) (wa : Nat) (ma : Nat → Nat) (t1 : Nat) (t2 : Nat) (t3 : Nat) (i4 : Int32) (i5 : Int32) (i6 : Int32) (i7 : Int32) (i8 : Int32) (i42 : Int32) (i49 : Int32) (i51 : Int32) (i53 : Int32) (i54 : Int32) (i59 : Int32) (i61 : Int32) (i64 : Int32) (i66 : Int32) (t67 : Nat) (i76 : Int64) (i78 : Int32) (tx : Nat → Nat) (vw : Nat) (gs : PS) (ha : t2 ≤ t3) (he : t3 ≤ 1600) (hB : ∀ j, tx j < 256) (hx : RR tx t3 gs t2 i4 i5 i6) (hv33 : vw < 33) (hvl : (owf vw).length = 3) : CT l D y ⟨"NineBoardsModel", "asks", "([C)V"⟩ prog_13_method_11_code 2 none ({ frames := 3, cells := 0, slots := 0, locals := 64 } : Room) [.ref mo, .ref wa] [MB mo ma (nI t1) (nI t2) (nI t3) i4 i5 i6 i7 i8 i42 i49 i51 i53 i54 i59 i61 i64 i66 (nI t67) i76 i78, (ma 0, .inl (y 0, 1600, .inl (tby tx))), (wa, .inl (y 3, 3, .inl (WD vw)))] (QV D [MB mo ma (nI t1) (nI t2) (nI t3) i4 i5 i6 i7 i8 i42 i49 i51 i53 i54 i59 i61 i64 i66 (nI t67) i76 i78, (ma 0, .inl (y 0, 1600, .inl (tby tx))), (wa, .inl (y 3, 3, .inl (WD vw)))] (fun (u : Nat × Int32 × Int32 × Int32) => t2 ≤ u.1 ∧ u.1 ≤ t3 ∧ (u.2.2.1 = 0 → i5 = 0 ∧ t2 + 3 ≤ u.1) ∧ RR tx t3 (rwS tx t3 vw gs) u.1 u.2.1 u.2.2.1 u.2.2.2) (fun u => [MB mo ma (nI t1) (nI u.1) (nI t3) u.2.1 u.2.2.1 u.2.2.2 i7 i8 i42 i49 i51 i53 i54 i59 i61 i64 i66 (nI t67) i76 i78, (ma 0, .inl (y 0, 1600, .inl (tby tx))), (wa, .inl (y 3, 3, .inl (WD vw)))])) := by
  refine CT.of (by decide) (nb rfl) ?_
  intro p e s m args below meth c C hr
  refine j_lv (lv' := [(0, .ref mo), (1, .ref wa)]) rfl ?_
  refine j_aload_n (pc := 0) C d_Model_asks_0 rfl 0 rfl ?_
  refine j_get (pc := 1) C gf_Model_201 0 rfl rfl d_Model_asks_1 ?_
  refine j_if_ne (pc := 4) C (tgt := 24) d_Model_asks_4 (by decide) (fun c1 => ?_) (fun c1 => ?_)
  · exact j_vret (pc := 24) C hr (t2, i4, i5, i6) ⟨(show t2 ≤ t2 by omega), (show t2 ≤ t3 by omega), (fun e => absurd e c1), (rr_of hx (rw_d (fun e => c1 ((rr_z hx).mpr e))))⟩ [0, 1, 2] rfl (by decide) (by decide) (by decide) d_Model_asks_24
  · refine j_aload_n (pc := 7) C d_Model_asks_7 rfl 0 rfl ?_
    refine j_aload_n (pc := 8) C d_Model_asks_8 rfl 1 rfl ?_
    refine j_callVi (pc := 9) C (c_M_takes_3 l D y mo wa ma t1 t2 t3 i4 i5 i6 i7 i8 i42 i49 i51 i53 i54 i59 i61 i64 i66 t67 i76 i78 tx vw gs ha he hB hx hv33 hvl) kw_Model_228 kv_Model_takes 0 10 rfl rfl ⟨by decide, by decide⟩ ⟨by decide, by decide⟩ (wr := []) [0, 1, 2] [] rfl rfl (by decide) (by decide) (by decide) (As := [.ref wa]) (rest := []) rfl (nb rfl) rfl d_Model_asks_9 (fun r2 u3 hr2 => ?_)
    refine j_ws (ws' := [MB mo ma (nI t1) (nI u3.1) (nI t3) u3.2 i5 i6 i7 i8 i42 i49 i51 i53 i54 i59 i61 i64 i66 (nI t67) i76 i78, (ma 0, .inl (y 0, 1600, .inl (tby tx))), (wa, .inl (y 3, 3, .inl (WD vw)))]) rfl ?_
    obtain ⟨xh4, xh5, xh6⟩ := hr2
    rcases xh6 with ⟨rfl, xh7, xh8, xh9⟩ | ⟨rfl, xh10, xh11, xh12⟩
    · refine j_if_neF (pc := 12) C (tgt := 24) d_Model_asks_12 (by decide) (by decide) ?_
      refine j_aload_n (pc := 15) C d_Model_asks_15 rfl 0 rfl ?_
      refine j_iconst (pc := 16) C (v := 1) d_Model_asks_16 (by decide) ?_
      refine j_aload_n (pc := 17) C d_Model_asks_17 rfl 0 rfl ?_
      refine j_get (pc := 18) C gf_Model_207 0 rfl rfl d_Model_asks_18 ?_
      refine j_callVv (pc := 21) C (c_M_fail_1 l D y mo ma t1 u3.1 t3 u3.2 i5 i6 i7 i8 i42 i49 i51 i53 i54 i59 i61 i64 i66 t67 i76 i78 u3.1 gs tx ((rr_z xh7).mp c1) (by omega) c1) kw_Model_230 kv_Model_fail 0 10 rfl rfl ⟨by decide, by decide⟩ ⟨by decide, by decide⟩ (wr := [(ma 0, .inl (y 0, 1600, .inl (tby tx))), (wa, .inl (y 3, 3, .inl (WD vw)))]) [0] [1, 2] rfl rfl (by decide) (by decide) (by decide) (As := [.int 1, .int (nI u3.1)]) (rest := []) rfl (nb rfl) rfl d_Model_asks_21 (fun u13 hu14 => ?_)
      obtain ⟨xh15, xh16⟩ := hu14
      refine j_ws (ws' := [(ma 0, .inl (y 0, 1600, .inl (tby tx))), (wa, .inl (y 3, 3, .inl (WD vw))), MB mo ma (nI t1) (nI u3.1) (nI t3) u3.2 u13.1 u13.2 i7 i8 i42 i49 i51 i53 i54 i59 i61 i64 i66 (nI t67) i76 i78]) rfl ?_
      exact j_vret (pc := 24) C hr (u3.1, u3.2, u13.1, u13.2) ⟨(show t2 ≤ u3.1 by omega), (show u3.1 ≤ t3 by omega), (fun e => absurd e xh15), (rr_of xh16 (by rw [xh9 c1]; exact if_neg xh8))⟩ [2, 0, 1] rfl (by decide) (by decide) (by decide) d_Model_asks_24
    · refine j_if_neT (pc := 12) C (tgt := 24) d_Model_asks_12 (by decide) (by decide) ?_
      exact j_vret (pc := 24) C hr (u3.1, u3.2, i5, i6) ⟨(show t2 ≤ u3.1 by omega), (show u3.1 ≤ t3 by omega), (fun e => by exact ⟨e, by omega⟩), (rr_of xh10 (if_pos xh11))⟩ [0, 1, 2] rfl (by decide) (by decide) (by decide) d_Model_asks_24
set_option maxHeartbeats 4000000 in
set_option maxRecDepth 100000 in
theorem c_M_isHere_4 (l : Launch) (D : va_G) (y : Nat → ClassId) (mo : Nat) (wa : Nat) (ma : Nat → Nat) (t1 : Nat) (t2 : Nat) (t3 : Nat) (i4 : Int32) (i5 : Int32) (i6 : Int32) (i7 : Int32) (i8 : Int32) (i42 : Int32) (i49 : Int32) (i51 : Int32) (i53 : Int32) (i54 : Int32) (i59 : Int32) (i61 : Int32) (i64 : Int32) (i66 : Int32) (t67 : Nat) (i76 : Int64) (i78 : Int32) (tx : Nat → Nat) (vw : Nat) (gs : PS) (ha : t2 ≤ t3) (he : t3 ≤ 1600) (hB : ∀ j, tx j < 256) (hx : RR tx t3 gs t2 i4 i5 i6) (hv33 : vw < 33) (hvl : (owf vw).length = 4) : CT l D y ⟨"NineBoardsModel", "isHere", "([C)Z"⟩ prog_13_method_9_code 4 (some .boolean) ({ frames := 1, cells := 0, slots := 0, locals := 20 } : Room) [.ref mo, .ref wa] [MB mo ma (nI t1) (nI t2) (nI t3) i4 i5 i6 i7 i8 i42 i49 i51 i53 i54 i59 i61 i64 i66 (nI t67) i76 i78, (ma 0, .inl (y 0, 1600, .inl (tby tx))), (wa, .inl (y 3, 4, .inl (WD vw)))] (QI D [MB mo ma (nI t1) (nI t2) (nI t3) i4 i5 i6 i7 i8 i42 i49 i51 i53 i54 i59 i61 i64 i66 (nI t67) i76 i78, (ma 0, .inl (y 0, 1600, .inl (tby tx))), (wa, .inl (y 3, 4, .inl (WD vw)))] (fun (r : Int32) (u : Nat) => t2 ≤ u ∧ u ≤ t3 ∧ (i5 = 0 → u = stS tx t3 gs) ∧ RR tx t3 gs u i4 i5 i6 ∧ ((r = 0 ∧ ¬ iswS tx t3 vw gs = true) ∨ (r = 1 ∧ iswS tx t3 vw gs = true ∧ u + 4 = enS tx t3 gs))) (fun u => [MB mo ma (nI t1) (nI u) (nI t3) i4 i5 i6 i7 i8 i42 i49 i51 i53 i54 i59 i61 i64 i66 (nI t67) i76 i78, (ma 0, .inl (y 0, 1600, .inl (tby tx))), (wa, .inl (y 3, 4, .inl (WD vw)))])) := by
  refine CT.of (by decide) (nb rfl) ?_
  intro p e s m args below meth c C hr
  refine j_lv (lv' := [(0, .ref mo), (1, .ref wa)]) rfl ?_
  refine j_aload_n (pc := 0) C d_Model_isHere_0 rfl 0 rfl ?_
  refine j_get (pc := 1) C gf_Model_201 0 rfl rfl d_Model_isHere_1 ?_
  refine j_if_ne (pc := 4) C (tgt := 28) d_Model_isHere_4 (by decide) (fun c1 => ?_) (fun c1 => ?_)
  · refine j_iconst (pc := 28) C (v := 0) d_Model_isHere_28 (by decide) ?_
    exact j_iret (pc := 29) C hr (by decide) t2 ⟨(show t2 ≤ t2 by omega), (show t2 ≤ t3 by omega), (fun e => absurd e c1), hx, (Or.inl ⟨rfl, hw_dead hx c1⟩)⟩ [0, 1, 2] rfl (by decide) (by decide) (by decide) d_Model_isHere_29
  · refine j_aload_n (pc := 7) C d_Model_isHere_7 rfl 0 rfl ?_
    refine j_callVi (pc := 8) C (c_M_look l D y mo ma t1 t2 t3 i4 i5 i6 i7 i8 i42 i49 i51 i53 i54 i59 i61 i64 i66 t67 i76 i78 tx gs ha he hB hx c1) kw_Model_213 kv_Model_look 0 10 rfl rfl ⟨by decide, by decide⟩ ⟨by decide, by decide⟩ (wr := [(wa, .inl (y 3, 4, .inl (WD vw)))]) [0, 1] [2] rfl rfl (by decide) (by decide) (by decide) (As := []) (rest := []) rfl (nb rfl) rfl d_Model_isHere_8 (fun r2 u3 hr2 => ?_)
    refine j_ws (ws' := [(wa, .inl (y 3, 4, .inl (WD vw))), MB mo ma (nI t1) (nI u3) (nI t3) i4 i5 i6 i7 i8 i42 i49 i51 i53 i54 i59 i61 i64 i66 (nI t67) i76 i78, (ma 0, .inl (y 0, 1600, .inl (tby tx)))]) rfl ?_
    obtain ⟨xh4, xh5, xh6, xh7, xh8⟩ := hr2
    rcases xh8 with ⟨rfl, xh9⟩ | ⟨rfl, xh10⟩
    · refine j_callSi (pc := 11) C (c_M_isLetter_m l D y ) kw_Model_217 ks_Model_isLetter ⟨by decide, by decide⟩ ⟨by decide, by decide⟩ (wr := [(wa, .inl (y 3, 4, .inl (WD vw))), MB mo ma (nI t1) (nI u3) (nI t3) i4 i5 i6 i7 i8 i42 i49 i51 i53 i54 i59 i61 i64 i66 (nI t67) i76 i78, (ma 0, .inl (y 0, 1600, .inl (tby tx)))]) [] [0, 1, 2] rfl rfl (by decide) (by decide) (by decide) (As := [.int (-1)]) (rest := []) rfl (nb rfl) rfl d_Model_isHere_11 (fun r11 _ hr11 => ?_)
      subst hr11
      refine j_ws (ws' := [(wa, .inl (y 3, 4, .inl (WD vw))), MB mo ma (nI t1) (nI u3) (nI t3) i4 i5 i6 i7 i8 i42 i49 i51 i53 i54 i59 i61 i64 i66 (nI t67) i76 i78, (ma 0, .inl (y 0, 1600, .inl (tby tx)))]) rfl ?_
      refine j_st (st' := [.int 0]) rfl ?_
      refine j_if_eqT (pc := 14) C (tgt := 28) d_Model_isHere_14 (by decide) (by decide) ?_
      refine j_iconst (pc := 28) C (v := 0) d_Model_isHere_28 (by decide) ?_
      exact j_iret (pc := 29) C hr (by decide) u3 ⟨(show t2 ≤ u3 by omega), (show u3 ≤ t3 by omega), (fun _ => xh6), xh7, (Or.inl ⟨rfl, is_no0 (s := 1) (by rw [rl_end ((rr_z xh7).mp c1) xh6 xh9]; decide)⟩)⟩ [1, 2, 0] rfl (by decide) (by decide) (by decide) d_Model_isHere_29
    · have hb12 : tx u3 < 256 := hB u3
      refine j_callSi (pc := 11) C (c_M_isLetter_n l D y (tx u3) (by omega)) kw_Model_217 ks_Model_isLetter ⟨by decide, by decide⟩ ⟨by decide, by decide⟩ (wr := [(wa, .inl (y 3, 4, .inl (WD vw))), MB mo ma (nI t1) (nI u3) (nI t3) i4 i5 i6 i7 i8 i42 i49 i51 i53 i54 i59 i61 i64 i66 (nI t67) i76 i78, (ma 0, .inl (y 0, 1600, .inl (tby tx)))]) [] [0, 1, 2] rfl rfl (by decide) (by decide) (by decide) (As := [.int (nI (tx u3))]) (rest := []) rfl (nb rfl) rfl d_Model_isHere_11 (fun r13 _ hr13 => ?_)
      refine j_ws (ws' := [(wa, .inl (y 3, 4, .inl (WD vw))), MB mo ma (nI t1) (nI u3) (nI t3) i4 i5 i6 i7 i8 i42 i49 i51 i53 i54 i59 i61 i64 i66 (nI t67) i76 i78, (ma 0, .inl (y 0, 1600, .inl (tby tx)))]) rfl ?_
      rcases hr13 with ⟨rfl, xh15⟩ | ⟨rfl, xh16⟩
      · refine j_if_eqT (pc := 14) C (tgt := 28) d_Model_isHere_14 (by decide) (by decide) ?_
        refine j_iconst (pc := 28) C (v := 0) d_Model_isHere_28 (by decide) ?_
        exact j_iret (pc := 29) C hr (by decide) u3 ⟨(show t2 ≤ u3 by omega), (show u3 ≤ t3 by omega), (fun _ => xh6), xh7, (Or.inl ⟨rfl, is_no0 (s := 1) (rl_ns xh6 xh15 (by decide) (by decide))⟩)⟩ [1, 2, 0] rfl (by decide) (by decide) (by decide) d_Model_isHere_29
      · refine j_if_eqF (pc := 14) C (tgt := 28) d_Model_isHere_14 (by decide) (by decide) ?_
        refine j_aload_n (pc := 17) C d_Model_isHere_17 rfl 0 rfl ?_
        refine j_get (pc := 18) C gf_Model_207 1 rfl rfl d_Model_isHere_18 ?_
        refine j_aload_n (pc := 21) C d_Model_isHere_21 rfl 0 rfl ?_
        refine j_get (pc := 22) C gf_Model_221 1 rfl rfl d_Model_isHere_22 ?_
        refine j_icmp_ne (pc := 25) C (tgt := 30) d_Model_isHere_25 (by decide) (fun c17 => ?_) (fun c17 => ?_)
        · have xh18 : srS tx t3 gs = 1 := (rl_yes xh7 ((rr_z xh7).mp c1) he xh6 xh10 xh16 c17)
          refine j_aload_n (pc := 30) C d_Model_isHere_30 rfl 0 rfl ?_
          refine j_get (pc := 31) C gf_Model_207 1 rfl rfl d_Model_isHere_31 ?_
          refine j_istore_n (pc := 34) C (lv' := [(2, .int (nI u3)), (0, .ref mo), (1, .ref wa)]) d_Model_isHere_34 rfl (by decide) rfl ?_
          refine j_loop (α := Nat) (fun a => t3 - a) (fun a => (a ≤ t3) ∧ (u3 ≤ a) ∧ ((∀ i, u3 ≤ i → i < a → srt (tx i) = 1))) (fun a => [(wa, .inl (y 3, 4, .inl (WD vw))), MB mo ma (nI t1) (nI u3) (nI t3) i4 i5 i6 i7 i8 i42 i49 i51 i53 i54 i59 i61 i64 i66 (nI t67) i76 i78, (ma 0, .inl (y 0, 1600, .inl (tby tx)))]) (fun a => [(2, .int (nI a)), (0, .ref mo), (1, .ref wa)]) (u3) rfl rfl ⟨xh5, (show u3 ≤ u3 by omega), (fun i h1 h2 => absurd h1 (by omega))⟩ ?_
          rintro kz hP49 ih50
          obtain ⟨hk__, hk2__, hl__⟩ := hP49
          have hk_ : kz ≤ t3 := hk__
          have hk2_ : u3 ≤ kz := hk2__
          have hl_ : (∀ i, u3 ≤ i → i < kz → srt (tx i) = 1) := hl__
          refine j_ws (ws' := [(wa, .inl (y 3, 4, .inl (WD vw))), MB mo ma (nI t1) (nI u3) (nI t3) i4 i5 i6 i7 i8 i42 i49 i51 i53 i54 i59 i61 i64 i66 (nI t67) i76 i78, (ma 0, .inl (y 0, 1600, .inl (tby tx)))]) rfl ?_
          refine j_lv (lv' := [(2, .int (nI kz)), (0, .ref mo), (1, .ref wa)]) rfl ?_
          refine j_iload_n (pc := 35) C d_Model_isHere_35 rfl 0 rfl ?_
          refine j_aload_n (pc := 36) C d_Model_isHere_36 rfl 1 rfl ?_
          refine j_get (pc := 37) C gf_Model_210 1 rfl rfl d_Model_isHere_37 ?_
          by_cases c51 : t3 ≤ kz
          · refine j_icmp_geT (pc := 40) C (tgt := 61) d_Model_isHere_40 (by decide) (show nI t3 ≤ nI kz from nI_le (by omega) (by omega)) ?_
            have xh52 : kz = enS tx t3 gs := en_of xh18 (by decide) (by decide) xh6 hl_ (by omega) (fun h => absurd h.1 (by omega)) (by omega)
            refine j_iload_n (pc := 61) C d_Model_isHere_61 rfl 0 rfl ?_
            refine j_aload_n (pc := 62) C d_Model_isHere_62 rfl 1 rfl ?_
            refine j_get (pc := 63) C gf_Model_207 1 rfl rfl d_Model_isHere_63 ?_
            refine j_isub (pc := 66) C (v := nI (kz - u3)) d_Model_isHere_66 (pk_sub (by omega)) ?_
            refine j_aload_n (pc := 67) C d_Model_isHere_67 rfl 2 rfl ?_
            refine j_alen (pc := 68) C 0 3 rfl rfl (v := 4) rfl d_Model_isHere_68 ?_
            by_cases c53 : (kz - u3) = 4
            · refine j_icmp_eqT (pc := 69) C (tgt := 74) d_Model_isHere_69 (by decide) (show nI (kz - u3) = nI 4 from (nI_eq (by omega) (by omega)).mpr (by omega)) ?_
              refine j_iconst (pc := 74) C (v := 0) d_Model_isHere_74 (by decide) ?_
              refine j_istore_n (pc := 75) C (lv' := [(3, .int 0), (2, .int (nI kz)), (0, .ref mo), (1, .ref wa)]) d_Model_isHere_75 rfl (by decide) rfl ?_
              refine j_loop (α := Nat) (fun a => 4 - a) (fun a => (a ≤ 4) ∧ ((∀ j, j < a → tx (u3 + j) = wdv vw j))) (fun a => [(wa, .inl (y 3, 4, .inl (WD vw))), MB mo ma (nI t1) (nI u3) (nI t3) i4 i5 i6 i7 i8 i42 i49 i51 i53 i54 i59 i61 i64 i66 (nI t67) i76 i78, (ma 0, .inl (y 0, 1600, .inl (tby tx)))]) (fun a => [(3, .int (nI a)), (2, .int (nI kz)), (0, .ref mo), (1, .ref wa)]) (0) rfl rfl ⟨(show 0 ≤ 4 by omega), (fun j h1 => absurd h1 (by omega))⟩ ?_
              rintro iz hP58 ih59
              obtain ⟨hi__, hw__⟩ := hP58
              have hi_ : iz ≤ 4 := hi__
              have hw_ : (∀ j, j < iz → tx (u3 + j) = wdv vw j) := hw__
              refine j_ws (ws' := [(wa, .inl (y 3, 4, .inl (WD vw))), MB mo ma (nI t1) (nI u3) (nI t3) i4 i5 i6 i7 i8 i42 i49 i51 i53 i54 i59 i61 i64 i66 (nI t67) i76 i78, (ma 0, .inl (y 0, 1600, .inl (tby tx)))]) rfl ?_
              refine j_lv (lv' := [(3, .int (nI iz)), (2, .int (nI kz)), (0, .ref mo), (1, .ref wa)]) rfl ?_
              refine j_iload_n (pc := 76) C d_Model_isHere_76 rfl 0 rfl ?_
              refine j_aload_n (pc := 77) C d_Model_isHere_77 rfl 3 rfl ?_
              refine j_alen (pc := 78) C 0 3 rfl rfl (v := 4) rfl d_Model_isHere_78 ?_
              by_cases c60 : 4 ≤ iz
              · refine j_icmp_geT (pc := 79) C (tgt := 107) d_Model_isHere_79 (by decide) (show nI 4 ≤ nI iz from nI_le (by omega) (by omega)) ?_
                refine j_iconst (pc := 107) C (v := 1) d_Model_isHere_107 (by decide) ?_
                exact j_iret (pc := 108) C hr (by decide) u3 ⟨(show t2 ≤ u3 by omega), (show u3 ≤ t3 by omega), (fun _ => xh6), xh7, (Or.inr ⟨rfl, is_yes xh18 xh6 xh52 hvl (by omega) (fun j h => hw_ j (by omega)), by omega⟩)⟩ [1, 2, 0] rfl (by decide) (by decide) (by decide) d_Model_isHere_108
              · refine j_icmp_geF (pc := 79) C (tgt := 107) d_Model_isHere_79 (by decide) (show ¬ nI 4 ≤ nI iz from nI_ge (by omega) (by omega)) ?_
                refine j_aload_n (pc := 82) C d_Model_isHere_82 rfl 2 rfl ?_
                refine j_get (pc := 83) C gf_Model_7 1 rfl rfl d_Model_isHere_83 ?_
                refine j_aload_n (pc := 86) C d_Model_isHere_86 rfl 2 rfl ?_
                refine j_get (pc := 87) C gf_Model_207 1 rfl rfl d_Model_isHere_87 ?_
                refine j_iload_n (pc := 90) C d_Model_isHere_90 rfl 0 rfl ?_
                refine j_iadd (pc := 91) C (v := nI (u3 + iz)) d_Model_isHere_91 (nI_add _ _) ?_
                have hb61 : tx (u3 + iz) < 256 := hB (u3 + iz)
                refine j_iald (pc := 92) C 2 rfl (v := nI (tx (u3 + iz))) (vp_in_nI (by omega) (by decide)) (by rw [nI_clamp (by omega)]; rfl) d_Model_isHere_92 ?_
                refine j_aload_n (pc := 93) C d_Model_isHere_93 rfl 3 rfl ?_
                refine j_iload_n (pc := 94) C d_Model_isHere_94 rfl 0 rfl ?_
                have hb62 : wdv vw iz < 256 := wd_lt hv33 iz
                refine j_cald (pc := 95) C 0 rfl (v := nI (wdv vw iz)) (vp_in_nI (by omega) (by decide)) (by rw [nI_clamp (by omega)]; exact wd_ld hvl (by omega)) d_Model_isHere_95 ?_
                by_cases c63 : (tx (u3 + iz)) = (wdv vw iz)
                · refine j_icmp_eqT (pc := 96) C (tgt := 101) d_Model_isHere_96 (by decide) (show nI (tx (u3 + iz)) = nI (wdv vw iz) from (nI_eq (by omega) (by omega)).mpr (by omega)) ?_
                  refine j_iinc (pc := 101) C (v := nI (iz + 1)) (lv' := [(3, .int (nI (iz + 1))), (2, .int (nI kz)), (0, .ref mo), (1, .ref wa)]) d_Model_isHere_101 0 rfl (nI_add _ _) (by decide) rfl ?_
                  refine j_goto (pc := 104) C (tgt := 76) d_Model_isHere_104 (by decide) ?_
                  exact ih59 ((iz + 1)) ⟨(show (iz + 1) ≤ 4 by omega), (fun j h1 => by
                          by_cases e : j = iz
                          · rw [e]; omega
                          · exact hw_ j (by omega))⟩ (show 4 - (iz + 1) < 4 - iz by omega)
                · refine j_icmp_eqF (pc := 96) C (tgt := 101) d_Model_isHere_96 (by decide) (show ¬ nI (tx (u3 + iz)) = nI (wdv vw iz) from fun e => absurd ((nI_eq (by omega) (by omega)).mp e) (by omega)) ?_
                  refine j_iconst (pc := 99) C (v := 0) d_Model_isHere_99 (by decide) ?_
                  exact j_iret (pc := 100) C hr (by decide) u3 ⟨(show t2 ≤ u3 by omega), (show u3 ≤ t3 by omega), (fun _ => xh6), xh7, (Or.inl ⟨rfl, is_no2 (j := iz) xh6 xh52 (by omega) (hl_ _ (by omega) (by omega)) (by omega)⟩)⟩ [1, 2, 0] rfl (by decide) (by decide) (by decide) d_Model_isHere_100
            · refine j_icmp_eqF (pc := 69) C (tgt := 74) d_Model_isHere_69 (by decide) (show ¬ nI (kz - u3) = nI 4 from fun e => absurd ((nI_eq (by omega) (by omega)).mp e) (by omega)) ?_
              refine j_iconst (pc := 72) C (v := 0) d_Model_isHere_72 (by decide) ?_
              exact j_iret (pc := 73) C hr (by decide) u3 ⟨(show t2 ≤ u3 by omega), (show u3 ≤ t3 by omega), (fun _ => xh6), xh7, (Or.inl ⟨rfl, is_no1 xh6 xh52 hvl (by omega)⟩)⟩ [1, 2, 0] rfl (by decide) (by decide) (by decide) d_Model_isHere_73
          · refine j_icmp_geF (pc := 40) C (tgt := 61) d_Model_isHere_40 (by decide) (show ¬ nI t3 ≤ nI kz from nI_ge (by omega) (by omega)) ?_
            refine j_aload_n (pc := 43) C d_Model_isHere_43 rfl 1 rfl ?_
            refine j_get (pc := 44) C gf_Model_7 1 rfl rfl d_Model_isHere_44 ?_
            refine j_iload_n (pc := 47) C d_Model_isHere_47 rfl 0 rfl ?_
            have hb64 : tx kz < 256 := hB kz
            refine j_iald (pc := 48) C 2 rfl (v := nI (tx kz)) (vp_in_nI (by omega) (by decide)) (by rw [nI_clamp (by omega)]; rfl) d_Model_isHere_48 ?_
            refine j_callSi (pc := 49) C (c_M_isLetter_n l D y (tx kz) (by omega)) kw_Model_217 ks_Model_isLetter ⟨by decide, by decide⟩ ⟨by decide, by decide⟩ (wr := [(wa, .inl (y 3, 4, .inl (WD vw))), MB mo ma (nI t1) (nI u3) (nI t3) i4 i5 i6 i7 i8 i42 i49 i51 i53 i54 i59 i61 i64 i66 (nI t67) i76 i78, (ma 0, .inl (y 0, 1600, .inl (tby tx)))]) [] [0, 1, 2] rfl rfl (by decide) (by decide) (by decide) (As := [.int (nI (tx kz))]) (rest := []) rfl (nb rfl) rfl d_Model_isHere_49 (fun r65 _ hr65 => ?_)
            refine j_ws (ws' := [(wa, .inl (y 3, 4, .inl (WD vw))), MB mo ma (nI t1) (nI u3) (nI t3) i4 i5 i6 i7 i8 i42 i49 i51 i53 i54 i59 i61 i64 i66 (nI t67) i76 i78, (ma 0, .inl (y 0, 1600, .inl (tby tx)))]) rfl ?_
            rcases hr65 with ⟨rfl, xh67⟩ | ⟨rfl, xh68⟩
            · refine j_if_eqT (pc := 52) C (tgt := 61) d_Model_isHere_52 (by decide) (by decide) ?_
              have xh69 : kz = enS tx t3 gs := en_of xh18 (by decide) (by decide) xh6 hl_ (by omega) (fun h => absurd h.2 xh67) (by omega)
              refine j_iload_n (pc := 61) C d_Model_isHere_61 rfl 0 rfl ?_
              refine j_aload_n (pc := 62) C d_Model_isHere_62 rfl 1 rfl ?_
              refine j_get (pc := 63) C gf_Model_207 1 rfl rfl d_Model_isHere_63 ?_
              refine j_isub (pc := 66) C (v := nI (kz - u3)) d_Model_isHere_66 (pk_sub (by omega)) ?_
              refine j_aload_n (pc := 67) C d_Model_isHere_67 rfl 2 rfl ?_
              refine j_alen (pc := 68) C 0 3 rfl rfl (v := 4) rfl d_Model_isHere_68 ?_
              by_cases c70 : (kz - u3) = 4
              · refine j_icmp_eqT (pc := 69) C (tgt := 74) d_Model_isHere_69 (by decide) (show nI (kz - u3) = nI 4 from (nI_eq (by omega) (by omega)).mpr (by omega)) ?_
                refine j_iconst (pc := 74) C (v := 0) d_Model_isHere_74 (by decide) ?_
                refine j_istore_n (pc := 75) C (lv' := [(3, .int 0), (2, .int (nI kz)), (0, .ref mo), (1, .ref wa)]) d_Model_isHere_75 rfl (by decide) rfl ?_
                refine j_loop (α := Nat) (fun a => 4 - a) (fun a => (a ≤ 4) ∧ ((∀ j, j < a → tx (u3 + j) = wdv vw j))) (fun a => [(wa, .inl (y 3, 4, .inl (WD vw))), MB mo ma (nI t1) (nI u3) (nI t3) i4 i5 i6 i7 i8 i42 i49 i51 i53 i54 i59 i61 i64 i66 (nI t67) i76 i78, (ma 0, .inl (y 0, 1600, .inl (tby tx)))]) (fun a => [(3, .int (nI a)), (2, .int (nI kz)), (0, .ref mo), (1, .ref wa)]) (0) rfl rfl ⟨(show 0 ≤ 4 by omega), (fun j h1 => absurd h1 (by omega))⟩ ?_
                rintro iz hP75 ih76
                obtain ⟨hi__, hw__⟩ := hP75
                have hi_ : iz ≤ 4 := hi__
                have hw_ : (∀ j, j < iz → tx (u3 + j) = wdv vw j) := hw__
                refine j_ws (ws' := [(wa, .inl (y 3, 4, .inl (WD vw))), MB mo ma (nI t1) (nI u3) (nI t3) i4 i5 i6 i7 i8 i42 i49 i51 i53 i54 i59 i61 i64 i66 (nI t67) i76 i78, (ma 0, .inl (y 0, 1600, .inl (tby tx)))]) rfl ?_
                refine j_lv (lv' := [(3, .int (nI iz)), (2, .int (nI kz)), (0, .ref mo), (1, .ref wa)]) rfl ?_
                refine j_iload_n (pc := 76) C d_Model_isHere_76 rfl 0 rfl ?_
                refine j_aload_n (pc := 77) C d_Model_isHere_77 rfl 3 rfl ?_
                refine j_alen (pc := 78) C 0 3 rfl rfl (v := 4) rfl d_Model_isHere_78 ?_
                by_cases c77 : 4 ≤ iz
                · refine j_icmp_geT (pc := 79) C (tgt := 107) d_Model_isHere_79 (by decide) (show nI 4 ≤ nI iz from nI_le (by omega) (by omega)) ?_
                  refine j_iconst (pc := 107) C (v := 1) d_Model_isHere_107 (by decide) ?_
                  exact j_iret (pc := 108) C hr (by decide) u3 ⟨(show t2 ≤ u3 by omega), (show u3 ≤ t3 by omega), (fun _ => xh6), xh7, (Or.inr ⟨rfl, is_yes xh18 xh6 xh69 hvl (by omega) (fun j h => hw_ j (by omega)), by omega⟩)⟩ [1, 2, 0] rfl (by decide) (by decide) (by decide) d_Model_isHere_108
                · refine j_icmp_geF (pc := 79) C (tgt := 107) d_Model_isHere_79 (by decide) (show ¬ nI 4 ≤ nI iz from nI_ge (by omega) (by omega)) ?_
                  refine j_aload_n (pc := 82) C d_Model_isHere_82 rfl 2 rfl ?_
                  refine j_get (pc := 83) C gf_Model_7 1 rfl rfl d_Model_isHere_83 ?_
                  refine j_aload_n (pc := 86) C d_Model_isHere_86 rfl 2 rfl ?_
                  refine j_get (pc := 87) C gf_Model_207 1 rfl rfl d_Model_isHere_87 ?_
                  refine j_iload_n (pc := 90) C d_Model_isHere_90 rfl 0 rfl ?_
                  refine j_iadd (pc := 91) C (v := nI (u3 + iz)) d_Model_isHere_91 (nI_add _ _) ?_
                  have hb78 : tx (u3 + iz) < 256 := hB (u3 + iz)
                  refine j_iald (pc := 92) C 2 rfl (v := nI (tx (u3 + iz))) (vp_in_nI (by omega) (by decide)) (by rw [nI_clamp (by omega)]; rfl) d_Model_isHere_92 ?_
                  refine j_aload_n (pc := 93) C d_Model_isHere_93 rfl 3 rfl ?_
                  refine j_iload_n (pc := 94) C d_Model_isHere_94 rfl 0 rfl ?_
                  have hb79 : wdv vw iz < 256 := wd_lt hv33 iz
                  refine j_cald (pc := 95) C 0 rfl (v := nI (wdv vw iz)) (vp_in_nI (by omega) (by decide)) (by rw [nI_clamp (by omega)]; exact wd_ld hvl (by omega)) d_Model_isHere_95 ?_
                  by_cases c80 : (tx (u3 + iz)) = (wdv vw iz)
                  · refine j_icmp_eqT (pc := 96) C (tgt := 101) d_Model_isHere_96 (by decide) (show nI (tx (u3 + iz)) = nI (wdv vw iz) from (nI_eq (by omega) (by omega)).mpr (by omega)) ?_
                    refine j_iinc (pc := 101) C (v := nI (iz + 1)) (lv' := [(3, .int (nI (iz + 1))), (2, .int (nI kz)), (0, .ref mo), (1, .ref wa)]) d_Model_isHere_101 0 rfl (nI_add _ _) (by decide) rfl ?_
                    refine j_goto (pc := 104) C (tgt := 76) d_Model_isHere_104 (by decide) ?_
                    exact ih76 ((iz + 1)) ⟨(show (iz + 1) ≤ 4 by omega), (fun j h1 => by
                            by_cases e : j = iz
                            · rw [e]; omega
                            · exact hw_ j (by omega))⟩ (show 4 - (iz + 1) < 4 - iz by omega)
                  · refine j_icmp_eqF (pc := 96) C (tgt := 101) d_Model_isHere_96 (by decide) (show ¬ nI (tx (u3 + iz)) = nI (wdv vw iz) from fun e => absurd ((nI_eq (by omega) (by omega)).mp e) (by omega)) ?_
                    refine j_iconst (pc := 99) C (v := 0) d_Model_isHere_99 (by decide) ?_
                    exact j_iret (pc := 100) C hr (by decide) u3 ⟨(show t2 ≤ u3 by omega), (show u3 ≤ t3 by omega), (fun _ => xh6), xh7, (Or.inl ⟨rfl, is_no2 (j := iz) xh6 xh69 (by omega) (hl_ _ (by omega) (by omega)) (by omega)⟩)⟩ [1, 2, 0] rfl (by decide) (by decide) (by decide) d_Model_isHere_100
              · refine j_icmp_eqF (pc := 69) C (tgt := 74) d_Model_isHere_69 (by decide) (show ¬ nI (kz - u3) = nI 4 from fun e => absurd ((nI_eq (by omega) (by omega)).mp e) (by omega)) ?_
                refine j_iconst (pc := 72) C (v := 0) d_Model_isHere_72 (by decide) ?_
                exact j_iret (pc := 73) C hr (by decide) u3 ⟨(show t2 ≤ u3 by omega), (show u3 ≤ t3 by omega), (fun _ => xh6), xh7, (Or.inl ⟨rfl, is_no1 xh6 xh69 hvl (by omega)⟩)⟩ [1, 2, 0] rfl (by decide) (by decide) (by decide) d_Model_isHere_73
            · refine j_if_eqF (pc := 52) C (tgt := 61) d_Model_isHere_52 (by decide) (by decide) ?_
              refine j_iinc (pc := 55) C (v := nI (kz + 1)) (lv' := [(2, .int (nI (kz + 1))), (0, .ref mo), (1, .ref wa)]) d_Model_isHere_55 0 rfl (nI_add _ _) (by decide) rfl ?_
              refine j_goto (pc := 58) C (tgt := 35) d_Model_isHere_58 (by decide) ?_
              exact ih50 ((kz + 1)) ⟨(show (kz + 1) ≤ t3 by omega), (show u3 ≤ (kz + 1) by omega), (fun i h1 h2 => by
                      by_cases e : i = kz
                      · rw [e]; exact xh68
                      · exact hl_ i h1 (by omega))⟩ (show t3 - (kz + 1) < t3 - kz by omega)
        · refine j_iconst (pc := 28) C (v := 0) d_Model_isHere_28 (by decide) ?_
          exact j_iret (pc := 29) C hr (by decide) u3 ⟨(show t2 ≤ u3 by omega), (show u3 ≤ t3 by omega), (fun _ => xh6), xh7, (Or.inl ⟨rfl, is_no0 (s := 1) (rl_ad xh7 ((rr_z xh7).mp c1) he xh6 c17 (by decide) (by decide))⟩)⟩ [1, 2, 0] rfl (by decide) (by decide) (by decide) d_Model_isHere_29
set_option maxHeartbeats 4000000 in
set_option maxRecDepth 100000 in
theorem c_M_takes_4 (l : Launch) (D : va_G) (y : Nat → ClassId) (mo : Nat) (wa : Nat) (ma : Nat → Nat) (t1 : Nat) (t2 : Nat) (t3 : Nat) (i4 : Int32) (i5 : Int32) (i6 : Int32) (i7 : Int32) (i8 : Int32) (i42 : Int32) (i49 : Int32) (i51 : Int32) (i53 : Int32) (i54 : Int32) (i59 : Int32) (i61 : Int32) (i64 : Int32) (i66 : Int32) (t67 : Nat) (i76 : Int64) (i78 : Int32) (tx : Nat → Nat) (vw : Nat) (gs : PS) (ha : t2 ≤ t3) (he : t3 ≤ 1600) (hB : ∀ j, tx j < 256) (hx : RR tx t3 gs t2 i4 i5 i6) (hv33 : vw < 33) (hvl : (owf vw).length = 4) : CT l D y ⟨"NineBoardsModel", "takes", "([C)Z"⟩ prog_13_method_10_code 2 (some .boolean) ({ frames := 2, cells := 0, slots := 0, locals := 43 } : Room) [.ref mo, .ref wa] [MB mo ma (nI t1) (nI t2) (nI t3) i4 i5 i6 i7 i8 i42 i49 i51 i53 i54 i59 i61 i64 i66 (nI t67) i76 i78, (ma 0, .inl (y 0, 1600, .inl (tby tx))), (wa, .inl (y 3, 4, .inl (WD vw)))] (QI D [MB mo ma (nI t1) (nI t2) (nI t3) i4 i5 i6 i7 i8 i42 i49 i51 i53 i54 i59 i61 i64 i66 (nI t67) i76 i78, (ma 0, .inl (y 0, 1600, .inl (tby tx))), (wa, .inl (y 3, 4, .inl (WD vw)))] (fun (r : Int32) (u : Nat × Int32) => t2 ≤ u.1 ∧ u.1 ≤ t3 ∧ ((r = 0 ∧ RR tx t3 gs u.1 u.2 i5 i6 ∧ ¬ iswS tx t3 vw gs = true ∧ (i5 = 0 → u.1 = stS tx t3 gs)) ∨ (r = 1 ∧ RR tx t3 (advS tx t3 gs) u.1 u.2 i5 i6 ∧ iswS tx t3 vw gs = true ∧ t2 + 4 ≤ u.1))) (fun u => [MB mo ma (nI t1) (nI u.1) (nI t3) u.2 i5 i6 i7 i8 i42 i49 i51 i53 i54 i59 i61 i64 i66 (nI t67) i76 i78, (ma 0, .inl (y 0, 1600, .inl (tby tx))), (wa, .inl (y 3, 4, .inl (WD vw)))])) := by
  refine CT.of (by decide) (nb rfl) ?_
  intro p e s m args below meth c C hr
  refine j_lv (lv' := [(0, .ref mo), (1, .ref wa)]) rfl ?_
  refine j_aload_n (pc := 0) C d_Model_takes_0 rfl 0 rfl ?_
  refine j_aload_n (pc := 1) C d_Model_takes_1 rfl 1 rfl ?_
  refine j_callVi (pc := 2) C (c_M_isHere_4 l D y mo wa ma t1 t2 t3 i4 i5 i6 i7 i8 i42 i49 i51 i53 i54 i59 i61 i64 i66 t67 i76 i78 tx vw gs ha he hB hx hv33 hvl) kw_Model_224 kv_Model_isHere 0 10 rfl rfl ⟨by decide, by decide⟩ ⟨by decide, by decide⟩ (wr := []) [0, 1, 2] [] rfl rfl (by decide) (by decide) (by decide) (As := [.ref wa]) (rest := []) rfl (nb rfl) rfl d_Model_takes_2 (fun r1 u2 hr1 => ?_)
  refine j_ws (ws' := [MB mo ma (nI t1) (nI u2) (nI t3) i4 i5 i6 i7 i8 i42 i49 i51 i53 i54 i59 i61 i64 i66 (nI t67) i76 i78, (ma 0, .inl (y 0, 1600, .inl (tby tx))), (wa, .inl (y 3, 4, .inl (WD vw)))]) rfl ?_
  obtain ⟨xh3, xh4, xh5, xh6, xh7⟩ := hr1
  rcases xh7 with ⟨rfl, xh8⟩ | ⟨rfl, xh9, xh10⟩
  · refine j_if_neF (pc := 5) C (tgt := 10) d_Model_takes_5 (by decide) (by decide) ?_
    refine j_iconst (pc := 8) C (v := 0) d_Model_takes_8 (by decide) ?_
    exact j_iret (pc := 9) C hr (by decide) (u2, i4) ⟨(show t2 ≤ u2 by omega), (show u2 ≤ t3 by omega), (Or.inl ⟨rfl, xh6, xh8, xh5⟩)⟩ [0, 1, 2] rfl (by decide) (by decide) (by decide) d_Model_takes_9
  · refine j_if_neT (pc := 5) C (tgt := 10) d_Model_takes_5 (by decide) (by decide) ?_
    refine j_aload_n (pc := 10) C d_Model_takes_10 rfl 0 rfl ?_
    refine j_dup (pc := 11) C d_Model_takes_11 rfl ?_
    refine j_get (pc := 12) C gf_Model_207 0 rfl rfl d_Model_takes_12 ?_
    refine j_aload_n (pc := 15) C d_Model_takes_15 rfl 1 rfl ?_
    refine j_alen (pc := 16) C 2 3 rfl rfl (v := 4) rfl d_Model_takes_16 ?_
    refine j_iadd (pc := 17) C (v := nI (u2 + 4)) d_Model_takes_17 (nI_add _ _) ?_
    refine j_put (pc := 18) C pf_Model_207 0 (ws' := [MB mo ma (nI t1) (nI (u2 + 4)) (nI t3) i4 i5 i6 i7 i8 i42 i49 i51 i53 i54 i59 i61 i64 i66 (nI t67) i76 i78, (ma 0, .inl (y 0, 1600, .inl (tby tx))), (wa, .inl (y 3, 4, .inl (WD vw)))]) rfl rfl rfl (nl rfl) rfl d_Model_takes_18 ?_
    refine j_aload_n (pc := 21) C d_Model_takes_21 rfl 0 rfl ?_
    refine j_aload_n (pc := 22) C d_Model_takes_22 rfl 0 rfl ?_
    refine j_get (pc := 23) C gf_Model_207 0 rfl rfl d_Model_takes_23 ?_
    refine j_put (pc := 26) C pf_Model_221 0 (ws' := [MB mo ma (nI t1) (nI (u2 + 4)) (nI t3) (nI (u2 + 4)) i5 i6 i7 i8 i42 i49 i51 i53 i54 i59 i61 i64 i66 (nI t67) i76 i78, (ma 0, .inl (y 0, 1600, .inl (tby tx))), (wa, .inl (y 3, 4, .inl (WD vw)))]) rfl rfl rfl (nl rfl) rfl d_Model_takes_26 ?_
    have xh11 : RR tx t3 (advS tx t3 gs) (u2 + 4) (nI (u2 + 4)) i5 i6 := (rr_adv xh6 he (of_decide_eq_true xh9).1 (by decide) (show (u2 + 4) = enS tx t3 gs by omega) (Or.inr ⟨by decide, rfl⟩))
    refine j_iconst (pc := 29) C (v := 1) d_Model_takes_29 (by decide) ?_
    exact j_iret (pc := 30) C hr (by decide) ((u2 + 4), nI (u2 + 4)) ⟨(show t2 ≤ (u2 + 4) by omega), (show (u2 + 4) ≤ t3 by have := (en_end (of_decide_eq_true xh9).1 (by decide) (by decide)).1; omega), (Or.inr ⟨rfl, xh11, xh9, show t2 + 4 ≤ (u2 + 4) by omega⟩)⟩ [0, 1, 2] rfl (by decide) (by decide) (by decide) d_Model_takes_30
set_option maxHeartbeats 4000000 in
set_option maxRecDepth 100000 in
theorem c_M_asks_4 (l : Launch) (D : va_G) (y : Nat → ClassId) (mo : Nat) (wa : Nat) (ma : Nat → Nat) (t1 : Nat) (t2 : Nat) (t3 : Nat) (i4 : Int32) (i5 : Int32) (i6 : Int32) (i7 : Int32) (i8 : Int32) (i42 : Int32) (i49 : Int32) (i51 : Int32) (i53 : Int32) (i54 : Int32) (i59 : Int32) (i61 : Int32) (i64 : Int32) (i66 : Int32) (t67 : Nat) (i76 : Int64) (i78 : Int32) (tx : Nat → Nat) (vw : Nat) (gs : PS) (ha : t2 ≤ t3) (he : t3 ≤ 1600) (hB : ∀ j, tx j < 256) (hx : RR tx t3 gs t2 i4 i5 i6) (hv33 : vw < 33) (hvl : (owf vw).length = 4) : CT l D y ⟨"NineBoardsModel", "asks", "([C)V"⟩ prog_13_method_11_code 2 none ({ frames := 3, cells := 0, slots := 0, locals := 64 } : Room) [.ref mo, .ref wa] [MB mo ma (nI t1) (nI t2) (nI t3) i4 i5 i6 i7 i8 i42 i49 i51 i53 i54 i59 i61 i64 i66 (nI t67) i76 i78, (ma 0, .inl (y 0, 1600, .inl (tby tx))), (wa, .inl (y 3, 4, .inl (WD vw)))] (QV D [MB mo ma (nI t1) (nI t2) (nI t3) i4 i5 i6 i7 i8 i42 i49 i51 i53 i54 i59 i61 i64 i66 (nI t67) i76 i78, (ma 0, .inl (y 0, 1600, .inl (tby tx))), (wa, .inl (y 3, 4, .inl (WD vw)))] (fun (u : Nat × Int32 × Int32 × Int32) => t2 ≤ u.1 ∧ u.1 ≤ t3 ∧ (u.2.2.1 = 0 → i5 = 0 ∧ t2 + 4 ≤ u.1) ∧ RR tx t3 (rwS tx t3 vw gs) u.1 u.2.1 u.2.2.1 u.2.2.2) (fun u => [MB mo ma (nI t1) (nI u.1) (nI t3) u.2.1 u.2.2.1 u.2.2.2 i7 i8 i42 i49 i51 i53 i54 i59 i61 i64 i66 (nI t67) i76 i78, (ma 0, .inl (y 0, 1600, .inl (tby tx))), (wa, .inl (y 3, 4, .inl (WD vw)))])) := by
  refine CT.of (by decide) (nb rfl) ?_
  intro p e s m args below meth c C hr
  refine j_lv (lv' := [(0, .ref mo), (1, .ref wa)]) rfl ?_
  refine j_aload_n (pc := 0) C d_Model_asks_0 rfl 0 rfl ?_
  refine j_get (pc := 1) C gf_Model_201 0 rfl rfl d_Model_asks_1 ?_
  refine j_if_ne (pc := 4) C (tgt := 24) d_Model_asks_4 (by decide) (fun c1 => ?_) (fun c1 => ?_)
  · exact j_vret (pc := 24) C hr (t2, i4, i5, i6) ⟨(show t2 ≤ t2 by omega), (show t2 ≤ t3 by omega), (fun e => absurd e c1), (rr_of hx (rw_d (fun e => c1 ((rr_z hx).mpr e))))⟩ [0, 1, 2] rfl (by decide) (by decide) (by decide) d_Model_asks_24
  · refine j_aload_n (pc := 7) C d_Model_asks_7 rfl 0 rfl ?_
    refine j_aload_n (pc := 8) C d_Model_asks_8 rfl 1 rfl ?_
    refine j_callVi (pc := 9) C (c_M_takes_4 l D y mo wa ma t1 t2 t3 i4 i5 i6 i7 i8 i42 i49 i51 i53 i54 i59 i61 i64 i66 t67 i76 i78 tx vw gs ha he hB hx hv33 hvl) kw_Model_228 kv_Model_takes 0 10 rfl rfl ⟨by decide, by decide⟩ ⟨by decide, by decide⟩ (wr := []) [0, 1, 2] [] rfl rfl (by decide) (by decide) (by decide) (As := [.ref wa]) (rest := []) rfl (nb rfl) rfl d_Model_asks_9 (fun r2 u3 hr2 => ?_)
    refine j_ws (ws' := [MB mo ma (nI t1) (nI u3.1) (nI t3) u3.2 i5 i6 i7 i8 i42 i49 i51 i53 i54 i59 i61 i64 i66 (nI t67) i76 i78, (ma 0, .inl (y 0, 1600, .inl (tby tx))), (wa, .inl (y 3, 4, .inl (WD vw)))]) rfl ?_
    obtain ⟨xh4, xh5, xh6⟩ := hr2
    rcases xh6 with ⟨rfl, xh7, xh8, xh9⟩ | ⟨rfl, xh10, xh11, xh12⟩
    · refine j_if_neF (pc := 12) C (tgt := 24) d_Model_asks_12 (by decide) (by decide) ?_
      refine j_aload_n (pc := 15) C d_Model_asks_15 rfl 0 rfl ?_
      refine j_iconst (pc := 16) C (v := 1) d_Model_asks_16 (by decide) ?_
      refine j_aload_n (pc := 17) C d_Model_asks_17 rfl 0 rfl ?_
      refine j_get (pc := 18) C gf_Model_207 0 rfl rfl d_Model_asks_18 ?_
      refine j_callVv (pc := 21) C (c_M_fail_1 l D y mo ma t1 u3.1 t3 u3.2 i5 i6 i7 i8 i42 i49 i51 i53 i54 i59 i61 i64 i66 t67 i76 i78 u3.1 gs tx ((rr_z xh7).mp c1) (by omega) c1) kw_Model_230 kv_Model_fail 0 10 rfl rfl ⟨by decide, by decide⟩ ⟨by decide, by decide⟩ (wr := [(ma 0, .inl (y 0, 1600, .inl (tby tx))), (wa, .inl (y 3, 4, .inl (WD vw)))]) [0] [1, 2] rfl rfl (by decide) (by decide) (by decide) (As := [.int 1, .int (nI u3.1)]) (rest := []) rfl (nb rfl) rfl d_Model_asks_21 (fun u13 hu14 => ?_)
      obtain ⟨xh15, xh16⟩ := hu14
      refine j_ws (ws' := [(ma 0, .inl (y 0, 1600, .inl (tby tx))), (wa, .inl (y 3, 4, .inl (WD vw))), MB mo ma (nI t1) (nI u3.1) (nI t3) u3.2 u13.1 u13.2 i7 i8 i42 i49 i51 i53 i54 i59 i61 i64 i66 (nI t67) i76 i78]) rfl ?_
      exact j_vret (pc := 24) C hr (u3.1, u3.2, u13.1, u13.2) ⟨(show t2 ≤ u3.1 by omega), (show u3.1 ≤ t3 by omega), (fun e => absurd e xh15), (rr_of xh16 (by rw [xh9 c1]; exact if_neg xh8))⟩ [2, 0, 1] rfl (by decide) (by decide) (by decide) d_Model_asks_24
    · refine j_if_neT (pc := 12) C (tgt := 24) d_Model_asks_12 (by decide) (by decide) ?_
      exact j_vret (pc := 24) C hr (u3.1, u3.2, i5, i6) ⟨(show t2 ≤ u3.1 by omega), (show u3.1 ≤ t3 by omega), (fun e => by exact ⟨e, by omega⟩), (rr_of xh10 (if_pos xh11))⟩ [0, 1, 2] rfl (by decide) (by decide) (by decide) d_Model_asks_24
set_option maxHeartbeats 4000000 in
set_option maxRecDepth 100000 in
theorem c_M_isHere_5 (l : Launch) (D : va_G) (y : Nat → ClassId) (mo : Nat) (wa : Nat) (ma : Nat → Nat) (t1 : Nat) (t2 : Nat) (t3 : Nat) (i4 : Int32) (i5 : Int32) (i6 : Int32) (i7 : Int32) (i8 : Int32) (i42 : Int32) (i49 : Int32) (i51 : Int32) (i53 : Int32) (i54 : Int32) (i59 : Int32) (i61 : Int32) (i64 : Int32) (i66 : Int32) (t67 : Nat) (i76 : Int64) (i78 : Int32) (tx : Nat → Nat) (vw : Nat) (gs : PS) (ha : t2 ≤ t3) (he : t3 ≤ 1600) (hB : ∀ j, tx j < 256) (hx : RR tx t3 gs t2 i4 i5 i6) (hv33 : vw < 33) (hvl : (owf vw).length = 5) : CT l D y ⟨"NineBoardsModel", "isHere", "([C)Z"⟩ prog_13_method_9_code 4 (some .boolean) ({ frames := 1, cells := 0, slots := 0, locals := 20 } : Room) [.ref mo, .ref wa] [MB mo ma (nI t1) (nI t2) (nI t3) i4 i5 i6 i7 i8 i42 i49 i51 i53 i54 i59 i61 i64 i66 (nI t67) i76 i78, (ma 0, .inl (y 0, 1600, .inl (tby tx))), (wa, .inl (y 3, 5, .inl (WD vw)))] (QI D [MB mo ma (nI t1) (nI t2) (nI t3) i4 i5 i6 i7 i8 i42 i49 i51 i53 i54 i59 i61 i64 i66 (nI t67) i76 i78, (ma 0, .inl (y 0, 1600, .inl (tby tx))), (wa, .inl (y 3, 5, .inl (WD vw)))] (fun (r : Int32) (u : Nat) => t2 ≤ u ∧ u ≤ t3 ∧ (i5 = 0 → u = stS tx t3 gs) ∧ RR tx t3 gs u i4 i5 i6 ∧ ((r = 0 ∧ ¬ iswS tx t3 vw gs = true) ∨ (r = 1 ∧ iswS tx t3 vw gs = true ∧ u + 5 = enS tx t3 gs))) (fun u => [MB mo ma (nI t1) (nI u) (nI t3) i4 i5 i6 i7 i8 i42 i49 i51 i53 i54 i59 i61 i64 i66 (nI t67) i76 i78, (ma 0, .inl (y 0, 1600, .inl (tby tx))), (wa, .inl (y 3, 5, .inl (WD vw)))])) := by
  refine CT.of (by decide) (nb rfl) ?_
  intro p e s m args below meth c C hr
  refine j_lv (lv' := [(0, .ref mo), (1, .ref wa)]) rfl ?_
  refine j_aload_n (pc := 0) C d_Model_isHere_0 rfl 0 rfl ?_
  refine j_get (pc := 1) C gf_Model_201 0 rfl rfl d_Model_isHere_1 ?_
  refine j_if_ne (pc := 4) C (tgt := 28) d_Model_isHere_4 (by decide) (fun c1 => ?_) (fun c1 => ?_)
  · refine j_iconst (pc := 28) C (v := 0) d_Model_isHere_28 (by decide) ?_
    exact j_iret (pc := 29) C hr (by decide) t2 ⟨(show t2 ≤ t2 by omega), (show t2 ≤ t3 by omega), (fun e => absurd e c1), hx, (Or.inl ⟨rfl, hw_dead hx c1⟩)⟩ [0, 1, 2] rfl (by decide) (by decide) (by decide) d_Model_isHere_29
  · refine j_aload_n (pc := 7) C d_Model_isHere_7 rfl 0 rfl ?_
    refine j_callVi (pc := 8) C (c_M_look l D y mo ma t1 t2 t3 i4 i5 i6 i7 i8 i42 i49 i51 i53 i54 i59 i61 i64 i66 t67 i76 i78 tx gs ha he hB hx c1) kw_Model_213 kv_Model_look 0 10 rfl rfl ⟨by decide, by decide⟩ ⟨by decide, by decide⟩ (wr := [(wa, .inl (y 3, 5, .inl (WD vw)))]) [0, 1] [2] rfl rfl (by decide) (by decide) (by decide) (As := []) (rest := []) rfl (nb rfl) rfl d_Model_isHere_8 (fun r2 u3 hr2 => ?_)
    refine j_ws (ws' := [(wa, .inl (y 3, 5, .inl (WD vw))), MB mo ma (nI t1) (nI u3) (nI t3) i4 i5 i6 i7 i8 i42 i49 i51 i53 i54 i59 i61 i64 i66 (nI t67) i76 i78, (ma 0, .inl (y 0, 1600, .inl (tby tx)))]) rfl ?_
    obtain ⟨xh4, xh5, xh6, xh7, xh8⟩ := hr2
    rcases xh8 with ⟨rfl, xh9⟩ | ⟨rfl, xh10⟩
    · refine j_callSi (pc := 11) C (c_M_isLetter_m l D y ) kw_Model_217 ks_Model_isLetter ⟨by decide, by decide⟩ ⟨by decide, by decide⟩ (wr := [(wa, .inl (y 3, 5, .inl (WD vw))), MB mo ma (nI t1) (nI u3) (nI t3) i4 i5 i6 i7 i8 i42 i49 i51 i53 i54 i59 i61 i64 i66 (nI t67) i76 i78, (ma 0, .inl (y 0, 1600, .inl (tby tx)))]) [] [0, 1, 2] rfl rfl (by decide) (by decide) (by decide) (As := [.int (-1)]) (rest := []) rfl (nb rfl) rfl d_Model_isHere_11 (fun r11 _ hr11 => ?_)
      subst hr11
      refine j_ws (ws' := [(wa, .inl (y 3, 5, .inl (WD vw))), MB mo ma (nI t1) (nI u3) (nI t3) i4 i5 i6 i7 i8 i42 i49 i51 i53 i54 i59 i61 i64 i66 (nI t67) i76 i78, (ma 0, .inl (y 0, 1600, .inl (tby tx)))]) rfl ?_
      refine j_st (st' := [.int 0]) rfl ?_
      refine j_if_eqT (pc := 14) C (tgt := 28) d_Model_isHere_14 (by decide) (by decide) ?_
      refine j_iconst (pc := 28) C (v := 0) d_Model_isHere_28 (by decide) ?_
      exact j_iret (pc := 29) C hr (by decide) u3 ⟨(show t2 ≤ u3 by omega), (show u3 ≤ t3 by omega), (fun _ => xh6), xh7, (Or.inl ⟨rfl, is_no0 (s := 1) (by rw [rl_end ((rr_z xh7).mp c1) xh6 xh9]; decide)⟩)⟩ [1, 2, 0] rfl (by decide) (by decide) (by decide) d_Model_isHere_29
    · have hb12 : tx u3 < 256 := hB u3
      refine j_callSi (pc := 11) C (c_M_isLetter_n l D y (tx u3) (by omega)) kw_Model_217 ks_Model_isLetter ⟨by decide, by decide⟩ ⟨by decide, by decide⟩ (wr := [(wa, .inl (y 3, 5, .inl (WD vw))), MB mo ma (nI t1) (nI u3) (nI t3) i4 i5 i6 i7 i8 i42 i49 i51 i53 i54 i59 i61 i64 i66 (nI t67) i76 i78, (ma 0, .inl (y 0, 1600, .inl (tby tx)))]) [] [0, 1, 2] rfl rfl (by decide) (by decide) (by decide) (As := [.int (nI (tx u3))]) (rest := []) rfl (nb rfl) rfl d_Model_isHere_11 (fun r13 _ hr13 => ?_)
      refine j_ws (ws' := [(wa, .inl (y 3, 5, .inl (WD vw))), MB mo ma (nI t1) (nI u3) (nI t3) i4 i5 i6 i7 i8 i42 i49 i51 i53 i54 i59 i61 i64 i66 (nI t67) i76 i78, (ma 0, .inl (y 0, 1600, .inl (tby tx)))]) rfl ?_
      rcases hr13 with ⟨rfl, xh15⟩ | ⟨rfl, xh16⟩
      · refine j_if_eqT (pc := 14) C (tgt := 28) d_Model_isHere_14 (by decide) (by decide) ?_
        refine j_iconst (pc := 28) C (v := 0) d_Model_isHere_28 (by decide) ?_
        exact j_iret (pc := 29) C hr (by decide) u3 ⟨(show t2 ≤ u3 by omega), (show u3 ≤ t3 by omega), (fun _ => xh6), xh7, (Or.inl ⟨rfl, is_no0 (s := 1) (rl_ns xh6 xh15 (by decide) (by decide))⟩)⟩ [1, 2, 0] rfl (by decide) (by decide) (by decide) d_Model_isHere_29
      · refine j_if_eqF (pc := 14) C (tgt := 28) d_Model_isHere_14 (by decide) (by decide) ?_
        refine j_aload_n (pc := 17) C d_Model_isHere_17 rfl 0 rfl ?_
        refine j_get (pc := 18) C gf_Model_207 1 rfl rfl d_Model_isHere_18 ?_
        refine j_aload_n (pc := 21) C d_Model_isHere_21 rfl 0 rfl ?_
        refine j_get (pc := 22) C gf_Model_221 1 rfl rfl d_Model_isHere_22 ?_
        refine j_icmp_ne (pc := 25) C (tgt := 30) d_Model_isHere_25 (by decide) (fun c17 => ?_) (fun c17 => ?_)
        · have xh18 : srS tx t3 gs = 1 := (rl_yes xh7 ((rr_z xh7).mp c1) he xh6 xh10 xh16 c17)
          refine j_aload_n (pc := 30) C d_Model_isHere_30 rfl 0 rfl ?_
          refine j_get (pc := 31) C gf_Model_207 1 rfl rfl d_Model_isHere_31 ?_
          refine j_istore_n (pc := 34) C (lv' := [(2, .int (nI u3)), (0, .ref mo), (1, .ref wa)]) d_Model_isHere_34 rfl (by decide) rfl ?_
          refine j_loop (α := Nat) (fun a => t3 - a) (fun a => (a ≤ t3) ∧ (u3 ≤ a) ∧ ((∀ i, u3 ≤ i → i < a → srt (tx i) = 1))) (fun a => [(wa, .inl (y 3, 5, .inl (WD vw))), MB mo ma (nI t1) (nI u3) (nI t3) i4 i5 i6 i7 i8 i42 i49 i51 i53 i54 i59 i61 i64 i66 (nI t67) i76 i78, (ma 0, .inl (y 0, 1600, .inl (tby tx)))]) (fun a => [(2, .int (nI a)), (0, .ref mo), (1, .ref wa)]) (u3) rfl rfl ⟨xh5, (show u3 ≤ u3 by omega), (fun i h1 h2 => absurd h1 (by omega))⟩ ?_
          rintro kz hP49 ih50
          obtain ⟨hk__, hk2__, hl__⟩ := hP49
          have hk_ : kz ≤ t3 := hk__
          have hk2_ : u3 ≤ kz := hk2__
          have hl_ : (∀ i, u3 ≤ i → i < kz → srt (tx i) = 1) := hl__
          refine j_ws (ws' := [(wa, .inl (y 3, 5, .inl (WD vw))), MB mo ma (nI t1) (nI u3) (nI t3) i4 i5 i6 i7 i8 i42 i49 i51 i53 i54 i59 i61 i64 i66 (nI t67) i76 i78, (ma 0, .inl (y 0, 1600, .inl (tby tx)))]) rfl ?_
          refine j_lv (lv' := [(2, .int (nI kz)), (0, .ref mo), (1, .ref wa)]) rfl ?_
          refine j_iload_n (pc := 35) C d_Model_isHere_35 rfl 0 rfl ?_
          refine j_aload_n (pc := 36) C d_Model_isHere_36 rfl 1 rfl ?_
          refine j_get (pc := 37) C gf_Model_210 1 rfl rfl d_Model_isHere_37 ?_
          by_cases c51 : t3 ≤ kz
          · refine j_icmp_geT (pc := 40) C (tgt := 61) d_Model_isHere_40 (by decide) (show nI t3 ≤ nI kz from nI_le (by omega) (by omega)) ?_
            have xh52 : kz = enS tx t3 gs := en_of xh18 (by decide) (by decide) xh6 hl_ (by omega) (fun h => absurd h.1 (by omega)) (by omega)
            refine j_iload_n (pc := 61) C d_Model_isHere_61 rfl 0 rfl ?_
            refine j_aload_n (pc := 62) C d_Model_isHere_62 rfl 1 rfl ?_
            refine j_get (pc := 63) C gf_Model_207 1 rfl rfl d_Model_isHere_63 ?_
            refine j_isub (pc := 66) C (v := nI (kz - u3)) d_Model_isHere_66 (pk_sub (by omega)) ?_
            refine j_aload_n (pc := 67) C d_Model_isHere_67 rfl 2 rfl ?_
            refine j_alen (pc := 68) C 0 3 rfl rfl (v := 5) rfl d_Model_isHere_68 ?_
            by_cases c53 : (kz - u3) = 5
            · refine j_icmp_eqT (pc := 69) C (tgt := 74) d_Model_isHere_69 (by decide) (show nI (kz - u3) = nI 5 from (nI_eq (by omega) (by omega)).mpr (by omega)) ?_
              refine j_iconst (pc := 74) C (v := 0) d_Model_isHere_74 (by decide) ?_
              refine j_istore_n (pc := 75) C (lv' := [(3, .int 0), (2, .int (nI kz)), (0, .ref mo), (1, .ref wa)]) d_Model_isHere_75 rfl (by decide) rfl ?_
              refine j_loop (α := Nat) (fun a => 5 - a) (fun a => (a ≤ 5) ∧ ((∀ j, j < a → tx (u3 + j) = wdv vw j))) (fun a => [(wa, .inl (y 3, 5, .inl (WD vw))), MB mo ma (nI t1) (nI u3) (nI t3) i4 i5 i6 i7 i8 i42 i49 i51 i53 i54 i59 i61 i64 i66 (nI t67) i76 i78, (ma 0, .inl (y 0, 1600, .inl (tby tx)))]) (fun a => [(3, .int (nI a)), (2, .int (nI kz)), (0, .ref mo), (1, .ref wa)]) (0) rfl rfl ⟨(show 0 ≤ 5 by omega), (fun j h1 => absurd h1 (by omega))⟩ ?_
              rintro iz hP58 ih59
              obtain ⟨hi__, hw__⟩ := hP58
              have hi_ : iz ≤ 5 := hi__
              have hw_ : (∀ j, j < iz → tx (u3 + j) = wdv vw j) := hw__
              refine j_ws (ws' := [(wa, .inl (y 3, 5, .inl (WD vw))), MB mo ma (nI t1) (nI u3) (nI t3) i4 i5 i6 i7 i8 i42 i49 i51 i53 i54 i59 i61 i64 i66 (nI t67) i76 i78, (ma 0, .inl (y 0, 1600, .inl (tby tx)))]) rfl ?_
              refine j_lv (lv' := [(3, .int (nI iz)), (2, .int (nI kz)), (0, .ref mo), (1, .ref wa)]) rfl ?_
              refine j_iload_n (pc := 76) C d_Model_isHere_76 rfl 0 rfl ?_
              refine j_aload_n (pc := 77) C d_Model_isHere_77 rfl 3 rfl ?_
              refine j_alen (pc := 78) C 0 3 rfl rfl (v := 5) rfl d_Model_isHere_78 ?_
              by_cases c60 : 5 ≤ iz
              · refine j_icmp_geT (pc := 79) C (tgt := 107) d_Model_isHere_79 (by decide) (show nI 5 ≤ nI iz from nI_le (by omega) (by omega)) ?_
                refine j_iconst (pc := 107) C (v := 1) d_Model_isHere_107 (by decide) ?_
                exact j_iret (pc := 108) C hr (by decide) u3 ⟨(show t2 ≤ u3 by omega), (show u3 ≤ t3 by omega), (fun _ => xh6), xh7, (Or.inr ⟨rfl, is_yes xh18 xh6 xh52 hvl (by omega) (fun j h => hw_ j (by omega)), by omega⟩)⟩ [1, 2, 0] rfl (by decide) (by decide) (by decide) d_Model_isHere_108
              · refine j_icmp_geF (pc := 79) C (tgt := 107) d_Model_isHere_79 (by decide) (show ¬ nI 5 ≤ nI iz from nI_ge (by omega) (by omega)) ?_
                refine j_aload_n (pc := 82) C d_Model_isHere_82 rfl 2 rfl ?_
                refine j_get (pc := 83) C gf_Model_7 1 rfl rfl d_Model_isHere_83 ?_
                refine j_aload_n (pc := 86) C d_Model_isHere_86 rfl 2 rfl ?_
                refine j_get (pc := 87) C gf_Model_207 1 rfl rfl d_Model_isHere_87 ?_
                refine j_iload_n (pc := 90) C d_Model_isHere_90 rfl 0 rfl ?_
                refine j_iadd (pc := 91) C (v := nI (u3 + iz)) d_Model_isHere_91 (nI_add _ _) ?_
                have hb61 : tx (u3 + iz) < 256 := hB (u3 + iz)
                refine j_iald (pc := 92) C 2 rfl (v := nI (tx (u3 + iz))) (vp_in_nI (by omega) (by decide)) (by rw [nI_clamp (by omega)]; rfl) d_Model_isHere_92 ?_
                refine j_aload_n (pc := 93) C d_Model_isHere_93 rfl 3 rfl ?_
                refine j_iload_n (pc := 94) C d_Model_isHere_94 rfl 0 rfl ?_
                have hb62 : wdv vw iz < 256 := wd_lt hv33 iz
                refine j_cald (pc := 95) C 0 rfl (v := nI (wdv vw iz)) (vp_in_nI (by omega) (by decide)) (by rw [nI_clamp (by omega)]; exact wd_ld hvl (by omega)) d_Model_isHere_95 ?_
                by_cases c63 : (tx (u3 + iz)) = (wdv vw iz)
                · refine j_icmp_eqT (pc := 96) C (tgt := 101) d_Model_isHere_96 (by decide) (show nI (tx (u3 + iz)) = nI (wdv vw iz) from (nI_eq (by omega) (by omega)).mpr (by omega)) ?_
                  refine j_iinc (pc := 101) C (v := nI (iz + 1)) (lv' := [(3, .int (nI (iz + 1))), (2, .int (nI kz)), (0, .ref mo), (1, .ref wa)]) d_Model_isHere_101 0 rfl (nI_add _ _) (by decide) rfl ?_
                  refine j_goto (pc := 104) C (tgt := 76) d_Model_isHere_104 (by decide) ?_
                  exact ih59 ((iz + 1)) ⟨(show (iz + 1) ≤ 5 by omega), (fun j h1 => by
                          by_cases e : j = iz
                          · rw [e]; omega
                          · exact hw_ j (by omega))⟩ (show 5 - (iz + 1) < 5 - iz by omega)
                · refine j_icmp_eqF (pc := 96) C (tgt := 101) d_Model_isHere_96 (by decide) (show ¬ nI (tx (u3 + iz)) = nI (wdv vw iz) from fun e => absurd ((nI_eq (by omega) (by omega)).mp e) (by omega)) ?_
                  refine j_iconst (pc := 99) C (v := 0) d_Model_isHere_99 (by decide) ?_
                  exact j_iret (pc := 100) C hr (by decide) u3 ⟨(show t2 ≤ u3 by omega), (show u3 ≤ t3 by omega), (fun _ => xh6), xh7, (Or.inl ⟨rfl, is_no2 (j := iz) xh6 xh52 (by omega) (hl_ _ (by omega) (by omega)) (by omega)⟩)⟩ [1, 2, 0] rfl (by decide) (by decide) (by decide) d_Model_isHere_100
            · refine j_icmp_eqF (pc := 69) C (tgt := 74) d_Model_isHere_69 (by decide) (show ¬ nI (kz - u3) = nI 5 from fun e => absurd ((nI_eq (by omega) (by omega)).mp e) (by omega)) ?_
              refine j_iconst (pc := 72) C (v := 0) d_Model_isHere_72 (by decide) ?_
              exact j_iret (pc := 73) C hr (by decide) u3 ⟨(show t2 ≤ u3 by omega), (show u3 ≤ t3 by omega), (fun _ => xh6), xh7, (Or.inl ⟨rfl, is_no1 xh6 xh52 hvl (by omega)⟩)⟩ [1, 2, 0] rfl (by decide) (by decide) (by decide) d_Model_isHere_73
          · refine j_icmp_geF (pc := 40) C (tgt := 61) d_Model_isHere_40 (by decide) (show ¬ nI t3 ≤ nI kz from nI_ge (by omega) (by omega)) ?_
            refine j_aload_n (pc := 43) C d_Model_isHere_43 rfl 1 rfl ?_
            refine j_get (pc := 44) C gf_Model_7 1 rfl rfl d_Model_isHere_44 ?_
            refine j_iload_n (pc := 47) C d_Model_isHere_47 rfl 0 rfl ?_
            have hb64 : tx kz < 256 := hB kz
            refine j_iald (pc := 48) C 2 rfl (v := nI (tx kz)) (vp_in_nI (by omega) (by decide)) (by rw [nI_clamp (by omega)]; rfl) d_Model_isHere_48 ?_
            refine j_callSi (pc := 49) C (c_M_isLetter_n l D y (tx kz) (by omega)) kw_Model_217 ks_Model_isLetter ⟨by decide, by decide⟩ ⟨by decide, by decide⟩ (wr := [(wa, .inl (y 3, 5, .inl (WD vw))), MB mo ma (nI t1) (nI u3) (nI t3) i4 i5 i6 i7 i8 i42 i49 i51 i53 i54 i59 i61 i64 i66 (nI t67) i76 i78, (ma 0, .inl (y 0, 1600, .inl (tby tx)))]) [] [0, 1, 2] rfl rfl (by decide) (by decide) (by decide) (As := [.int (nI (tx kz))]) (rest := []) rfl (nb rfl) rfl d_Model_isHere_49 (fun r65 _ hr65 => ?_)
            refine j_ws (ws' := [(wa, .inl (y 3, 5, .inl (WD vw))), MB mo ma (nI t1) (nI u3) (nI t3) i4 i5 i6 i7 i8 i42 i49 i51 i53 i54 i59 i61 i64 i66 (nI t67) i76 i78, (ma 0, .inl (y 0, 1600, .inl (tby tx)))]) rfl ?_
            rcases hr65 with ⟨rfl, xh67⟩ | ⟨rfl, xh68⟩
            · refine j_if_eqT (pc := 52) C (tgt := 61) d_Model_isHere_52 (by decide) (by decide) ?_
              have xh69 : kz = enS tx t3 gs := en_of xh18 (by decide) (by decide) xh6 hl_ (by omega) (fun h => absurd h.2 xh67) (by omega)
              refine j_iload_n (pc := 61) C d_Model_isHere_61 rfl 0 rfl ?_
              refine j_aload_n (pc := 62) C d_Model_isHere_62 rfl 1 rfl ?_
              refine j_get (pc := 63) C gf_Model_207 1 rfl rfl d_Model_isHere_63 ?_
              refine j_isub (pc := 66) C (v := nI (kz - u3)) d_Model_isHere_66 (pk_sub (by omega)) ?_
              refine j_aload_n (pc := 67) C d_Model_isHere_67 rfl 2 rfl ?_
              refine j_alen (pc := 68) C 0 3 rfl rfl (v := 5) rfl d_Model_isHere_68 ?_
              by_cases c70 : (kz - u3) = 5
              · refine j_icmp_eqT (pc := 69) C (tgt := 74) d_Model_isHere_69 (by decide) (show nI (kz - u3) = nI 5 from (nI_eq (by omega) (by omega)).mpr (by omega)) ?_
                refine j_iconst (pc := 74) C (v := 0) d_Model_isHere_74 (by decide) ?_
                refine j_istore_n (pc := 75) C (lv' := [(3, .int 0), (2, .int (nI kz)), (0, .ref mo), (1, .ref wa)]) d_Model_isHere_75 rfl (by decide) rfl ?_
                refine j_loop (α := Nat) (fun a => 5 - a) (fun a => (a ≤ 5) ∧ ((∀ j, j < a → tx (u3 + j) = wdv vw j))) (fun a => [(wa, .inl (y 3, 5, .inl (WD vw))), MB mo ma (nI t1) (nI u3) (nI t3) i4 i5 i6 i7 i8 i42 i49 i51 i53 i54 i59 i61 i64 i66 (nI t67) i76 i78, (ma 0, .inl (y 0, 1600, .inl (tby tx)))]) (fun a => [(3, .int (nI a)), (2, .int (nI kz)), (0, .ref mo), (1, .ref wa)]) (0) rfl rfl ⟨(show 0 ≤ 5 by omega), (fun j h1 => absurd h1 (by omega))⟩ ?_
                rintro iz hP75 ih76
                obtain ⟨hi__, hw__⟩ := hP75
                have hi_ : iz ≤ 5 := hi__
                have hw_ : (∀ j, j < iz → tx (u3 + j) = wdv vw j) := hw__
                refine j_ws (ws' := [(wa, .inl (y 3, 5, .inl (WD vw))), MB mo ma (nI t1) (nI u3) (nI t3) i4 i5 i6 i7 i8 i42 i49 i51 i53 i54 i59 i61 i64 i66 (nI t67) i76 i78, (ma 0, .inl (y 0, 1600, .inl (tby tx)))]) rfl ?_
                refine j_lv (lv' := [(3, .int (nI iz)), (2, .int (nI kz)), (0, .ref mo), (1, .ref wa)]) rfl ?_
                refine j_iload_n (pc := 76) C d_Model_isHere_76 rfl 0 rfl ?_
                refine j_aload_n (pc := 77) C d_Model_isHere_77 rfl 3 rfl ?_
                refine j_alen (pc := 78) C 0 3 rfl rfl (v := 5) rfl d_Model_isHere_78 ?_
                by_cases c77 : 5 ≤ iz
                · refine j_icmp_geT (pc := 79) C (tgt := 107) d_Model_isHere_79 (by decide) (show nI 5 ≤ nI iz from nI_le (by omega) (by omega)) ?_
                  refine j_iconst (pc := 107) C (v := 1) d_Model_isHere_107 (by decide) ?_
                  exact j_iret (pc := 108) C hr (by decide) u3 ⟨(show t2 ≤ u3 by omega), (show u3 ≤ t3 by omega), (fun _ => xh6), xh7, (Or.inr ⟨rfl, is_yes xh18 xh6 xh69 hvl (by omega) (fun j h => hw_ j (by omega)), by omega⟩)⟩ [1, 2, 0] rfl (by decide) (by decide) (by decide) d_Model_isHere_108
                · refine j_icmp_geF (pc := 79) C (tgt := 107) d_Model_isHere_79 (by decide) (show ¬ nI 5 ≤ nI iz from nI_ge (by omega) (by omega)) ?_
                  refine j_aload_n (pc := 82) C d_Model_isHere_82 rfl 2 rfl ?_
                  refine j_get (pc := 83) C gf_Model_7 1 rfl rfl d_Model_isHere_83 ?_
                  refine j_aload_n (pc := 86) C d_Model_isHere_86 rfl 2 rfl ?_
                  refine j_get (pc := 87) C gf_Model_207 1 rfl rfl d_Model_isHere_87 ?_
                  refine j_iload_n (pc := 90) C d_Model_isHere_90 rfl 0 rfl ?_
                  refine j_iadd (pc := 91) C (v := nI (u3 + iz)) d_Model_isHere_91 (nI_add _ _) ?_
                  have hb78 : tx (u3 + iz) < 256 := hB (u3 + iz)
                  refine j_iald (pc := 92) C 2 rfl (v := nI (tx (u3 + iz))) (vp_in_nI (by omega) (by decide)) (by rw [nI_clamp (by omega)]; rfl) d_Model_isHere_92 ?_
                  refine j_aload_n (pc := 93) C d_Model_isHere_93 rfl 3 rfl ?_
                  refine j_iload_n (pc := 94) C d_Model_isHere_94 rfl 0 rfl ?_
                  have hb79 : wdv vw iz < 256 := wd_lt hv33 iz
                  refine j_cald (pc := 95) C 0 rfl (v := nI (wdv vw iz)) (vp_in_nI (by omega) (by decide)) (by rw [nI_clamp (by omega)]; exact wd_ld hvl (by omega)) d_Model_isHere_95 ?_
                  by_cases c80 : (tx (u3 + iz)) = (wdv vw iz)
                  · refine j_icmp_eqT (pc := 96) C (tgt := 101) d_Model_isHere_96 (by decide) (show nI (tx (u3 + iz)) = nI (wdv vw iz) from (nI_eq (by omega) (by omega)).mpr (by omega)) ?_
                    refine j_iinc (pc := 101) C (v := nI (iz + 1)) (lv' := [(3, .int (nI (iz + 1))), (2, .int (nI kz)), (0, .ref mo), (1, .ref wa)]) d_Model_isHere_101 0 rfl (nI_add _ _) (by decide) rfl ?_
                    refine j_goto (pc := 104) C (tgt := 76) d_Model_isHere_104 (by decide) ?_
                    exact ih76 ((iz + 1)) ⟨(show (iz + 1) ≤ 5 by omega), (fun j h1 => by
                            by_cases e : j = iz
                            · rw [e]; omega
                            · exact hw_ j (by omega))⟩ (show 5 - (iz + 1) < 5 - iz by omega)
                  · refine j_icmp_eqF (pc := 96) C (tgt := 101) d_Model_isHere_96 (by decide) (show ¬ nI (tx (u3 + iz)) = nI (wdv vw iz) from fun e => absurd ((nI_eq (by omega) (by omega)).mp e) (by omega)) ?_
                    refine j_iconst (pc := 99) C (v := 0) d_Model_isHere_99 (by decide) ?_
                    exact j_iret (pc := 100) C hr (by decide) u3 ⟨(show t2 ≤ u3 by omega), (show u3 ≤ t3 by omega), (fun _ => xh6), xh7, (Or.inl ⟨rfl, is_no2 (j := iz) xh6 xh69 (by omega) (hl_ _ (by omega) (by omega)) (by omega)⟩)⟩ [1, 2, 0] rfl (by decide) (by decide) (by decide) d_Model_isHere_100
              · refine j_icmp_eqF (pc := 69) C (tgt := 74) d_Model_isHere_69 (by decide) (show ¬ nI (kz - u3) = nI 5 from fun e => absurd ((nI_eq (by omega) (by omega)).mp e) (by omega)) ?_
                refine j_iconst (pc := 72) C (v := 0) d_Model_isHere_72 (by decide) ?_
                exact j_iret (pc := 73) C hr (by decide) u3 ⟨(show t2 ≤ u3 by omega), (show u3 ≤ t3 by omega), (fun _ => xh6), xh7, (Or.inl ⟨rfl, is_no1 xh6 xh69 hvl (by omega)⟩)⟩ [1, 2, 0] rfl (by decide) (by decide) (by decide) d_Model_isHere_73
            · refine j_if_eqF (pc := 52) C (tgt := 61) d_Model_isHere_52 (by decide) (by decide) ?_
              refine j_iinc (pc := 55) C (v := nI (kz + 1)) (lv' := [(2, .int (nI (kz + 1))), (0, .ref mo), (1, .ref wa)]) d_Model_isHere_55 0 rfl (nI_add _ _) (by decide) rfl ?_
              refine j_goto (pc := 58) C (tgt := 35) d_Model_isHere_58 (by decide) ?_
              exact ih50 ((kz + 1)) ⟨(show (kz + 1) ≤ t3 by omega), (show u3 ≤ (kz + 1) by omega), (fun i h1 h2 => by
                      by_cases e : i = kz
                      · rw [e]; exact xh68
                      · exact hl_ i h1 (by omega))⟩ (show t3 - (kz + 1) < t3 - kz by omega)
        · refine j_iconst (pc := 28) C (v := 0) d_Model_isHere_28 (by decide) ?_
          exact j_iret (pc := 29) C hr (by decide) u3 ⟨(show t2 ≤ u3 by omega), (show u3 ≤ t3 by omega), (fun _ => xh6), xh7, (Or.inl ⟨rfl, is_no0 (s := 1) (rl_ad xh7 ((rr_z xh7).mp c1) he xh6 c17 (by decide) (by decide))⟩)⟩ [1, 2, 0] rfl (by decide) (by decide) (by decide) d_Model_isHere_29
set_option maxHeartbeats 4000000 in
set_option maxRecDepth 100000 in
theorem c_M_takes_5 (l : Launch) (D : va_G) (y : Nat → ClassId) (mo : Nat) (wa : Nat) (ma : Nat → Nat) (t1 : Nat) (t2 : Nat) (t3 : Nat) (i4 : Int32) (i5 : Int32) (i6 : Int32) (i7 : Int32) (i8 : Int32) (i42 : Int32) (i49 : Int32) (i51 : Int32) (i53 : Int32) (i54 : Int32) (i59 : Int32) (i61 : Int32) (i64 : Int32) (i66 : Int32) (t67 : Nat) (i76 : Int64) (i78 : Int32) (tx : Nat → Nat) (vw : Nat) (gs : PS) (ha : t2 ≤ t3) (he : t3 ≤ 1600) (hB : ∀ j, tx j < 256) (hx : RR tx t3 gs t2 i4 i5 i6) (hv33 : vw < 33) (hvl : (owf vw).length = 5) : CT l D y ⟨"NineBoardsModel", "takes", "([C)Z"⟩ prog_13_method_10_code 2 (some .boolean) ({ frames := 2, cells := 0, slots := 0, locals := 43 } : Room) [.ref mo, .ref wa] [MB mo ma (nI t1) (nI t2) (nI t3) i4 i5 i6 i7 i8 i42 i49 i51 i53 i54 i59 i61 i64 i66 (nI t67) i76 i78, (ma 0, .inl (y 0, 1600, .inl (tby tx))), (wa, .inl (y 3, 5, .inl (WD vw)))] (QI D [MB mo ma (nI t1) (nI t2) (nI t3) i4 i5 i6 i7 i8 i42 i49 i51 i53 i54 i59 i61 i64 i66 (nI t67) i76 i78, (ma 0, .inl (y 0, 1600, .inl (tby tx))), (wa, .inl (y 3, 5, .inl (WD vw)))] (fun (r : Int32) (u : Nat × Int32) => t2 ≤ u.1 ∧ u.1 ≤ t3 ∧ ((r = 0 ∧ RR tx t3 gs u.1 u.2 i5 i6 ∧ ¬ iswS tx t3 vw gs = true ∧ (i5 = 0 → u.1 = stS tx t3 gs)) ∨ (r = 1 ∧ RR tx t3 (advS tx t3 gs) u.1 u.2 i5 i6 ∧ iswS tx t3 vw gs = true ∧ t2 + 5 ≤ u.1))) (fun u => [MB mo ma (nI t1) (nI u.1) (nI t3) u.2 i5 i6 i7 i8 i42 i49 i51 i53 i54 i59 i61 i64 i66 (nI t67) i76 i78, (ma 0, .inl (y 0, 1600, .inl (tby tx))), (wa, .inl (y 3, 5, .inl (WD vw)))])) := by
  refine CT.of (by decide) (nb rfl) ?_
  intro p e s m args below meth c C hr
  refine j_lv (lv' := [(0, .ref mo), (1, .ref wa)]) rfl ?_
  refine j_aload_n (pc := 0) C d_Model_takes_0 rfl 0 rfl ?_
  refine j_aload_n (pc := 1) C d_Model_takes_1 rfl 1 rfl ?_
  refine j_callVi (pc := 2) C (c_M_isHere_5 l D y mo wa ma t1 t2 t3 i4 i5 i6 i7 i8 i42 i49 i51 i53 i54 i59 i61 i64 i66 t67 i76 i78 tx vw gs ha he hB hx hv33 hvl) kw_Model_224 kv_Model_isHere 0 10 rfl rfl ⟨by decide, by decide⟩ ⟨by decide, by decide⟩ (wr := []) [0, 1, 2] [] rfl rfl (by decide) (by decide) (by decide) (As := [.ref wa]) (rest := []) rfl (nb rfl) rfl d_Model_takes_2 (fun r1 u2 hr1 => ?_)
  refine j_ws (ws' := [MB mo ma (nI t1) (nI u2) (nI t3) i4 i5 i6 i7 i8 i42 i49 i51 i53 i54 i59 i61 i64 i66 (nI t67) i76 i78, (ma 0, .inl (y 0, 1600, .inl (tby tx))), (wa, .inl (y 3, 5, .inl (WD vw)))]) rfl ?_
  obtain ⟨xh3, xh4, xh5, xh6, xh7⟩ := hr1
  rcases xh7 with ⟨rfl, xh8⟩ | ⟨rfl, xh9, xh10⟩
  · refine j_if_neF (pc := 5) C (tgt := 10) d_Model_takes_5 (by decide) (by decide) ?_
    refine j_iconst (pc := 8) C (v := 0) d_Model_takes_8 (by decide) ?_
    exact j_iret (pc := 9) C hr (by decide) (u2, i4) ⟨(show t2 ≤ u2 by omega), (show u2 ≤ t3 by omega), (Or.inl ⟨rfl, xh6, xh8, xh5⟩)⟩ [0, 1, 2] rfl (by decide) (by decide) (by decide) d_Model_takes_9
  · refine j_if_neT (pc := 5) C (tgt := 10) d_Model_takes_5 (by decide) (by decide) ?_
    refine j_aload_n (pc := 10) C d_Model_takes_10 rfl 0 rfl ?_
    refine j_dup (pc := 11) C d_Model_takes_11 rfl ?_
    refine j_get (pc := 12) C gf_Model_207 0 rfl rfl d_Model_takes_12 ?_
    refine j_aload_n (pc := 15) C d_Model_takes_15 rfl 1 rfl ?_
    refine j_alen (pc := 16) C 2 3 rfl rfl (v := 5) rfl d_Model_takes_16 ?_
    refine j_iadd (pc := 17) C (v := nI (u2 + 5)) d_Model_takes_17 (nI_add _ _) ?_
    refine j_put (pc := 18) C pf_Model_207 0 (ws' := [MB mo ma (nI t1) (nI (u2 + 5)) (nI t3) i4 i5 i6 i7 i8 i42 i49 i51 i53 i54 i59 i61 i64 i66 (nI t67) i76 i78, (ma 0, .inl (y 0, 1600, .inl (tby tx))), (wa, .inl (y 3, 5, .inl (WD vw)))]) rfl rfl rfl (nl rfl) rfl d_Model_takes_18 ?_
    refine j_aload_n (pc := 21) C d_Model_takes_21 rfl 0 rfl ?_
    refine j_aload_n (pc := 22) C d_Model_takes_22 rfl 0 rfl ?_
    refine j_get (pc := 23) C gf_Model_207 0 rfl rfl d_Model_takes_23 ?_
    refine j_put (pc := 26) C pf_Model_221 0 (ws' := [MB mo ma (nI t1) (nI (u2 + 5)) (nI t3) (nI (u2 + 5)) i5 i6 i7 i8 i42 i49 i51 i53 i54 i59 i61 i64 i66 (nI t67) i76 i78, (ma 0, .inl (y 0, 1600, .inl (tby tx))), (wa, .inl (y 3, 5, .inl (WD vw)))]) rfl rfl rfl (nl rfl) rfl d_Model_takes_26 ?_
    have xh11 : RR tx t3 (advS tx t3 gs) (u2 + 5) (nI (u2 + 5)) i5 i6 := (rr_adv xh6 he (of_decide_eq_true xh9).1 (by decide) (show (u2 + 5) = enS tx t3 gs by omega) (Or.inr ⟨by decide, rfl⟩))
    refine j_iconst (pc := 29) C (v := 1) d_Model_takes_29 (by decide) ?_
    exact j_iret (pc := 30) C hr (by decide) ((u2 + 5), nI (u2 + 5)) ⟨(show t2 ≤ (u2 + 5) by omega), (show (u2 + 5) ≤ t3 by have := (en_end (of_decide_eq_true xh9).1 (by decide) (by decide)).1; omega), (Or.inr ⟨rfl, xh11, xh9, show t2 + 5 ≤ (u2 + 5) by omega⟩)⟩ [0, 1, 2] rfl (by decide) (by decide) (by decide) d_Model_takes_30
set_option maxHeartbeats 4000000 in
set_option maxRecDepth 100000 in
theorem c_M_asks_5 (l : Launch) (D : va_G) (y : Nat → ClassId) (mo : Nat) (wa : Nat) (ma : Nat → Nat) (t1 : Nat) (t2 : Nat) (t3 : Nat) (i4 : Int32) (i5 : Int32) (i6 : Int32) (i7 : Int32) (i8 : Int32) (i42 : Int32) (i49 : Int32) (i51 : Int32) (i53 : Int32) (i54 : Int32) (i59 : Int32) (i61 : Int32) (i64 : Int32) (i66 : Int32) (t67 : Nat) (i76 : Int64) (i78 : Int32) (tx : Nat → Nat) (vw : Nat) (gs : PS) (ha : t2 ≤ t3) (he : t3 ≤ 1600) (hB : ∀ j, tx j < 256) (hx : RR tx t3 gs t2 i4 i5 i6) (hv33 : vw < 33) (hvl : (owf vw).length = 5) : CT l D y ⟨"NineBoardsModel", "asks", "([C)V"⟩ prog_13_method_11_code 2 none ({ frames := 3, cells := 0, slots := 0, locals := 64 } : Room) [.ref mo, .ref wa] [MB mo ma (nI t1) (nI t2) (nI t3) i4 i5 i6 i7 i8 i42 i49 i51 i53 i54 i59 i61 i64 i66 (nI t67) i76 i78, (ma 0, .inl (y 0, 1600, .inl (tby tx))), (wa, .inl (y 3, 5, .inl (WD vw)))] (QV D [MB mo ma (nI t1) (nI t2) (nI t3) i4 i5 i6 i7 i8 i42 i49 i51 i53 i54 i59 i61 i64 i66 (nI t67) i76 i78, (ma 0, .inl (y 0, 1600, .inl (tby tx))), (wa, .inl (y 3, 5, .inl (WD vw)))] (fun (u : Nat × Int32 × Int32 × Int32) => t2 ≤ u.1 ∧ u.1 ≤ t3 ∧ (u.2.2.1 = 0 → i5 = 0 ∧ t2 + 5 ≤ u.1) ∧ RR tx t3 (rwS tx t3 vw gs) u.1 u.2.1 u.2.2.1 u.2.2.2) (fun u => [MB mo ma (nI t1) (nI u.1) (nI t3) u.2.1 u.2.2.1 u.2.2.2 i7 i8 i42 i49 i51 i53 i54 i59 i61 i64 i66 (nI t67) i76 i78, (ma 0, .inl (y 0, 1600, .inl (tby tx))), (wa, .inl (y 3, 5, .inl (WD vw)))])) := by
  refine CT.of (by decide) (nb rfl) ?_
  intro p e s m args below meth c C hr
  refine j_lv (lv' := [(0, .ref mo), (1, .ref wa)]) rfl ?_
  refine j_aload_n (pc := 0) C d_Model_asks_0 rfl 0 rfl ?_
  refine j_get (pc := 1) C gf_Model_201 0 rfl rfl d_Model_asks_1 ?_
  refine j_if_ne (pc := 4) C (tgt := 24) d_Model_asks_4 (by decide) (fun c1 => ?_) (fun c1 => ?_)
  · exact j_vret (pc := 24) C hr (t2, i4, i5, i6) ⟨(show t2 ≤ t2 by omega), (show t2 ≤ t3 by omega), (fun e => absurd e c1), (rr_of hx (rw_d (fun e => c1 ((rr_z hx).mpr e))))⟩ [0, 1, 2] rfl (by decide) (by decide) (by decide) d_Model_asks_24
  · refine j_aload_n (pc := 7) C d_Model_asks_7 rfl 0 rfl ?_
    refine j_aload_n (pc := 8) C d_Model_asks_8 rfl 1 rfl ?_
    refine j_callVi (pc := 9) C (c_M_takes_5 l D y mo wa ma t1 t2 t3 i4 i5 i6 i7 i8 i42 i49 i51 i53 i54 i59 i61 i64 i66 t67 i76 i78 tx vw gs ha he hB hx hv33 hvl) kw_Model_228 kv_Model_takes 0 10 rfl rfl ⟨by decide, by decide⟩ ⟨by decide, by decide⟩ (wr := []) [0, 1, 2] [] rfl rfl (by decide) (by decide) (by decide) (As := [.ref wa]) (rest := []) rfl (nb rfl) rfl d_Model_asks_9 (fun r2 u3 hr2 => ?_)
    refine j_ws (ws' := [MB mo ma (nI t1) (nI u3.1) (nI t3) u3.2 i5 i6 i7 i8 i42 i49 i51 i53 i54 i59 i61 i64 i66 (nI t67) i76 i78, (ma 0, .inl (y 0, 1600, .inl (tby tx))), (wa, .inl (y 3, 5, .inl (WD vw)))]) rfl ?_
    obtain ⟨xh4, xh5, xh6⟩ := hr2
    rcases xh6 with ⟨rfl, xh7, xh8, xh9⟩ | ⟨rfl, xh10, xh11, xh12⟩
    · refine j_if_neF (pc := 12) C (tgt := 24) d_Model_asks_12 (by decide) (by decide) ?_
      refine j_aload_n (pc := 15) C d_Model_asks_15 rfl 0 rfl ?_
      refine j_iconst (pc := 16) C (v := 1) d_Model_asks_16 (by decide) ?_
      refine j_aload_n (pc := 17) C d_Model_asks_17 rfl 0 rfl ?_
      refine j_get (pc := 18) C gf_Model_207 0 rfl rfl d_Model_asks_18 ?_
      refine j_callVv (pc := 21) C (c_M_fail_1 l D y mo ma t1 u3.1 t3 u3.2 i5 i6 i7 i8 i42 i49 i51 i53 i54 i59 i61 i64 i66 t67 i76 i78 u3.1 gs tx ((rr_z xh7).mp c1) (by omega) c1) kw_Model_230 kv_Model_fail 0 10 rfl rfl ⟨by decide, by decide⟩ ⟨by decide, by decide⟩ (wr := [(ma 0, .inl (y 0, 1600, .inl (tby tx))), (wa, .inl (y 3, 5, .inl (WD vw)))]) [0] [1, 2] rfl rfl (by decide) (by decide) (by decide) (As := [.int 1, .int (nI u3.1)]) (rest := []) rfl (nb rfl) rfl d_Model_asks_21 (fun u13 hu14 => ?_)
      obtain ⟨xh15, xh16⟩ := hu14
      refine j_ws (ws' := [(ma 0, .inl (y 0, 1600, .inl (tby tx))), (wa, .inl (y 3, 5, .inl (WD vw))), MB mo ma (nI t1) (nI u3.1) (nI t3) u3.2 u13.1 u13.2 i7 i8 i42 i49 i51 i53 i54 i59 i61 i64 i66 (nI t67) i76 i78]) rfl ?_
      exact j_vret (pc := 24) C hr (u3.1, u3.2, u13.1, u13.2) ⟨(show t2 ≤ u3.1 by omega), (show u3.1 ≤ t3 by omega), (fun e => absurd e xh15), (rr_of xh16 (by rw [xh9 c1]; exact if_neg xh8))⟩ [2, 0, 1] rfl (by decide) (by decide) (by decide) d_Model_asks_24
    · refine j_if_neT (pc := 12) C (tgt := 24) d_Model_asks_12 (by decide) (by decide) ?_
      exact j_vret (pc := 24) C hr (u3.1, u3.2, i5, i6) ⟨(show t2 ≤ u3.1 by omega), (show u3.1 ≤ t3 by omega), (fun e => by exact ⟨e, by omega⟩), (rr_of xh10 (if_pos xh11))⟩ [0, 1, 2] rfl (by decide) (by decide) (by decide) d_Model_asks_24
set_option maxHeartbeats 4000000 in
set_option maxRecDepth 100000 in
theorem c_M_isHere_6 (l : Launch) (D : va_G) (y : Nat → ClassId) (mo : Nat) (wa : Nat) (ma : Nat → Nat) (t1 : Nat) (t2 : Nat) (t3 : Nat) (i4 : Int32) (i5 : Int32) (i6 : Int32) (i7 : Int32) (i8 : Int32) (i42 : Int32) (i49 : Int32) (i51 : Int32) (i53 : Int32) (i54 : Int32) (i59 : Int32) (i61 : Int32) (i64 : Int32) (i66 : Int32) (t67 : Nat) (i76 : Int64) (i78 : Int32) (tx : Nat → Nat) (vw : Nat) (gs : PS) (ha : t2 ≤ t3) (he : t3 ≤ 1600) (hB : ∀ j, tx j < 256) (hx : RR tx t3 gs t2 i4 i5 i6) (hv33 : vw < 33) (hvl : (owf vw).length = 6) : CT l D y ⟨"NineBoardsModel", "isHere", "([C)Z"⟩ prog_13_method_9_code 4 (some .boolean) ({ frames := 1, cells := 0, slots := 0, locals := 20 } : Room) [.ref mo, .ref wa] [MB mo ma (nI t1) (nI t2) (nI t3) i4 i5 i6 i7 i8 i42 i49 i51 i53 i54 i59 i61 i64 i66 (nI t67) i76 i78, (ma 0, .inl (y 0, 1600, .inl (tby tx))), (wa, .inl (y 3, 6, .inl (WD vw)))] (QI D [MB mo ma (nI t1) (nI t2) (nI t3) i4 i5 i6 i7 i8 i42 i49 i51 i53 i54 i59 i61 i64 i66 (nI t67) i76 i78, (ma 0, .inl (y 0, 1600, .inl (tby tx))), (wa, .inl (y 3, 6, .inl (WD vw)))] (fun (r : Int32) (u : Nat) => t2 ≤ u ∧ u ≤ t3 ∧ (i5 = 0 → u = stS tx t3 gs) ∧ RR tx t3 gs u i4 i5 i6 ∧ ((r = 0 ∧ ¬ iswS tx t3 vw gs = true) ∨ (r = 1 ∧ iswS tx t3 vw gs = true ∧ u + 6 = enS tx t3 gs))) (fun u => [MB mo ma (nI t1) (nI u) (nI t3) i4 i5 i6 i7 i8 i42 i49 i51 i53 i54 i59 i61 i64 i66 (nI t67) i76 i78, (ma 0, .inl (y 0, 1600, .inl (tby tx))), (wa, .inl (y 3, 6, .inl (WD vw)))])) := by
  refine CT.of (by decide) (nb rfl) ?_
  intro p e s m args below meth c C hr
  refine j_lv (lv' := [(0, .ref mo), (1, .ref wa)]) rfl ?_
  refine j_aload_n (pc := 0) C d_Model_isHere_0 rfl 0 rfl ?_
  refine j_get (pc := 1) C gf_Model_201 0 rfl rfl d_Model_isHere_1 ?_
  refine j_if_ne (pc := 4) C (tgt := 28) d_Model_isHere_4 (by decide) (fun c1 => ?_) (fun c1 => ?_)
  · refine j_iconst (pc := 28) C (v := 0) d_Model_isHere_28 (by decide) ?_
    exact j_iret (pc := 29) C hr (by decide) t2 ⟨(show t2 ≤ t2 by omega), (show t2 ≤ t3 by omega), (fun e => absurd e c1), hx, (Or.inl ⟨rfl, hw_dead hx c1⟩)⟩ [0, 1, 2] rfl (by decide) (by decide) (by decide) d_Model_isHere_29
  · refine j_aload_n (pc := 7) C d_Model_isHere_7 rfl 0 rfl ?_
    refine j_callVi (pc := 8) C (c_M_look l D y mo ma t1 t2 t3 i4 i5 i6 i7 i8 i42 i49 i51 i53 i54 i59 i61 i64 i66 t67 i76 i78 tx gs ha he hB hx c1) kw_Model_213 kv_Model_look 0 10 rfl rfl ⟨by decide, by decide⟩ ⟨by decide, by decide⟩ (wr := [(wa, .inl (y 3, 6, .inl (WD vw)))]) [0, 1] [2] rfl rfl (by decide) (by decide) (by decide) (As := []) (rest := []) rfl (nb rfl) rfl d_Model_isHere_8 (fun r2 u3 hr2 => ?_)
    refine j_ws (ws' := [(wa, .inl (y 3, 6, .inl (WD vw))), MB mo ma (nI t1) (nI u3) (nI t3) i4 i5 i6 i7 i8 i42 i49 i51 i53 i54 i59 i61 i64 i66 (nI t67) i76 i78, (ma 0, .inl (y 0, 1600, .inl (tby tx)))]) rfl ?_
    obtain ⟨xh4, xh5, xh6, xh7, xh8⟩ := hr2
    rcases xh8 with ⟨rfl, xh9⟩ | ⟨rfl, xh10⟩
    · refine j_callSi (pc := 11) C (c_M_isLetter_m l D y ) kw_Model_217 ks_Model_isLetter ⟨by decide, by decide⟩ ⟨by decide, by decide⟩ (wr := [(wa, .inl (y 3, 6, .inl (WD vw))), MB mo ma (nI t1) (nI u3) (nI t3) i4 i5 i6 i7 i8 i42 i49 i51 i53 i54 i59 i61 i64 i66 (nI t67) i76 i78, (ma 0, .inl (y 0, 1600, .inl (tby tx)))]) [] [0, 1, 2] rfl rfl (by decide) (by decide) (by decide) (As := [.int (-1)]) (rest := []) rfl (nb rfl) rfl d_Model_isHere_11 (fun r11 _ hr11 => ?_)
      subst hr11
      refine j_ws (ws' := [(wa, .inl (y 3, 6, .inl (WD vw))), MB mo ma (nI t1) (nI u3) (nI t3) i4 i5 i6 i7 i8 i42 i49 i51 i53 i54 i59 i61 i64 i66 (nI t67) i76 i78, (ma 0, .inl (y 0, 1600, .inl (tby tx)))]) rfl ?_
      refine j_st (st' := [.int 0]) rfl ?_
      refine j_if_eqT (pc := 14) C (tgt := 28) d_Model_isHere_14 (by decide) (by decide) ?_
      refine j_iconst (pc := 28) C (v := 0) d_Model_isHere_28 (by decide) ?_
      exact j_iret (pc := 29) C hr (by decide) u3 ⟨(show t2 ≤ u3 by omega), (show u3 ≤ t3 by omega), (fun _ => xh6), xh7, (Or.inl ⟨rfl, is_no0 (s := 1) (by rw [rl_end ((rr_z xh7).mp c1) xh6 xh9]; decide)⟩)⟩ [1, 2, 0] rfl (by decide) (by decide) (by decide) d_Model_isHere_29
    · have hb12 : tx u3 < 256 := hB u3
      refine j_callSi (pc := 11) C (c_M_isLetter_n l D y (tx u3) (by omega)) kw_Model_217 ks_Model_isLetter ⟨by decide, by decide⟩ ⟨by decide, by decide⟩ (wr := [(wa, .inl (y 3, 6, .inl (WD vw))), MB mo ma (nI t1) (nI u3) (nI t3) i4 i5 i6 i7 i8 i42 i49 i51 i53 i54 i59 i61 i64 i66 (nI t67) i76 i78, (ma 0, .inl (y 0, 1600, .inl (tby tx)))]) [] [0, 1, 2] rfl rfl (by decide) (by decide) (by decide) (As := [.int (nI (tx u3))]) (rest := []) rfl (nb rfl) rfl d_Model_isHere_11 (fun r13 _ hr13 => ?_)
      refine j_ws (ws' := [(wa, .inl (y 3, 6, .inl (WD vw))), MB mo ma (nI t1) (nI u3) (nI t3) i4 i5 i6 i7 i8 i42 i49 i51 i53 i54 i59 i61 i64 i66 (nI t67) i76 i78, (ma 0, .inl (y 0, 1600, .inl (tby tx)))]) rfl ?_
      rcases hr13 with ⟨rfl, xh15⟩ | ⟨rfl, xh16⟩
      · refine j_if_eqT (pc := 14) C (tgt := 28) d_Model_isHere_14 (by decide) (by decide) ?_
        refine j_iconst (pc := 28) C (v := 0) d_Model_isHere_28 (by decide) ?_
        exact j_iret (pc := 29) C hr (by decide) u3 ⟨(show t2 ≤ u3 by omega), (show u3 ≤ t3 by omega), (fun _ => xh6), xh7, (Or.inl ⟨rfl, is_no0 (s := 1) (rl_ns xh6 xh15 (by decide) (by decide))⟩)⟩ [1, 2, 0] rfl (by decide) (by decide) (by decide) d_Model_isHere_29
      · refine j_if_eqF (pc := 14) C (tgt := 28) d_Model_isHere_14 (by decide) (by decide) ?_
        refine j_aload_n (pc := 17) C d_Model_isHere_17 rfl 0 rfl ?_
        refine j_get (pc := 18) C gf_Model_207 1 rfl rfl d_Model_isHere_18 ?_
        refine j_aload_n (pc := 21) C d_Model_isHere_21 rfl 0 rfl ?_
        refine j_get (pc := 22) C gf_Model_221 1 rfl rfl d_Model_isHere_22 ?_
        refine j_icmp_ne (pc := 25) C (tgt := 30) d_Model_isHere_25 (by decide) (fun c17 => ?_) (fun c17 => ?_)
        · have xh18 : srS tx t3 gs = 1 := (rl_yes xh7 ((rr_z xh7).mp c1) he xh6 xh10 xh16 c17)
          refine j_aload_n (pc := 30) C d_Model_isHere_30 rfl 0 rfl ?_
          refine j_get (pc := 31) C gf_Model_207 1 rfl rfl d_Model_isHere_31 ?_
          refine j_istore_n (pc := 34) C (lv' := [(2, .int (nI u3)), (0, .ref mo), (1, .ref wa)]) d_Model_isHere_34 rfl (by decide) rfl ?_
          refine j_loop (α := Nat) (fun a => t3 - a) (fun a => (a ≤ t3) ∧ (u3 ≤ a) ∧ ((∀ i, u3 ≤ i → i < a → srt (tx i) = 1))) (fun a => [(wa, .inl (y 3, 6, .inl (WD vw))), MB mo ma (nI t1) (nI u3) (nI t3) i4 i5 i6 i7 i8 i42 i49 i51 i53 i54 i59 i61 i64 i66 (nI t67) i76 i78, (ma 0, .inl (y 0, 1600, .inl (tby tx)))]) (fun a => [(2, .int (nI a)), (0, .ref mo), (1, .ref wa)]) (u3) rfl rfl ⟨xh5, (show u3 ≤ u3 by omega), (fun i h1 h2 => absurd h1 (by omega))⟩ ?_
          rintro kz hP49 ih50
          obtain ⟨hk__, hk2__, hl__⟩ := hP49
          have hk_ : kz ≤ t3 := hk__
          have hk2_ : u3 ≤ kz := hk2__
          have hl_ : (∀ i, u3 ≤ i → i < kz → srt (tx i) = 1) := hl__
          refine j_ws (ws' := [(wa, .inl (y 3, 6, .inl (WD vw))), MB mo ma (nI t1) (nI u3) (nI t3) i4 i5 i6 i7 i8 i42 i49 i51 i53 i54 i59 i61 i64 i66 (nI t67) i76 i78, (ma 0, .inl (y 0, 1600, .inl (tby tx)))]) rfl ?_
          refine j_lv (lv' := [(2, .int (nI kz)), (0, .ref mo), (1, .ref wa)]) rfl ?_
          refine j_iload_n (pc := 35) C d_Model_isHere_35 rfl 0 rfl ?_
          refine j_aload_n (pc := 36) C d_Model_isHere_36 rfl 1 rfl ?_
          refine j_get (pc := 37) C gf_Model_210 1 rfl rfl d_Model_isHere_37 ?_
          by_cases c51 : t3 ≤ kz
          · refine j_icmp_geT (pc := 40) C (tgt := 61) d_Model_isHere_40 (by decide) (show nI t3 ≤ nI kz from nI_le (by omega) (by omega)) ?_
            have xh52 : kz = enS tx t3 gs := en_of xh18 (by decide) (by decide) xh6 hl_ (by omega) (fun h => absurd h.1 (by omega)) (by omega)
            refine j_iload_n (pc := 61) C d_Model_isHere_61 rfl 0 rfl ?_
            refine j_aload_n (pc := 62) C d_Model_isHere_62 rfl 1 rfl ?_
            refine j_get (pc := 63) C gf_Model_207 1 rfl rfl d_Model_isHere_63 ?_
            refine j_isub (pc := 66) C (v := nI (kz - u3)) d_Model_isHere_66 (pk_sub (by omega)) ?_
            refine j_aload_n (pc := 67) C d_Model_isHere_67 rfl 2 rfl ?_
            refine j_alen (pc := 68) C 0 3 rfl rfl (v := 6) rfl d_Model_isHere_68 ?_
            by_cases c53 : (kz - u3) = 6
            · refine j_icmp_eqT (pc := 69) C (tgt := 74) d_Model_isHere_69 (by decide) (show nI (kz - u3) = nI 6 from (nI_eq (by omega) (by omega)).mpr (by omega)) ?_
              refine j_iconst (pc := 74) C (v := 0) d_Model_isHere_74 (by decide) ?_
              refine j_istore_n (pc := 75) C (lv' := [(3, .int 0), (2, .int (nI kz)), (0, .ref mo), (1, .ref wa)]) d_Model_isHere_75 rfl (by decide) rfl ?_
              refine j_loop (α := Nat) (fun a => 6 - a) (fun a => (a ≤ 6) ∧ ((∀ j, j < a → tx (u3 + j) = wdv vw j))) (fun a => [(wa, .inl (y 3, 6, .inl (WD vw))), MB mo ma (nI t1) (nI u3) (nI t3) i4 i5 i6 i7 i8 i42 i49 i51 i53 i54 i59 i61 i64 i66 (nI t67) i76 i78, (ma 0, .inl (y 0, 1600, .inl (tby tx)))]) (fun a => [(3, .int (nI a)), (2, .int (nI kz)), (0, .ref mo), (1, .ref wa)]) (0) rfl rfl ⟨(show 0 ≤ 6 by omega), (fun j h1 => absurd h1 (by omega))⟩ ?_
              rintro iz hP58 ih59
              obtain ⟨hi__, hw__⟩ := hP58
              have hi_ : iz ≤ 6 := hi__
              have hw_ : (∀ j, j < iz → tx (u3 + j) = wdv vw j) := hw__
              refine j_ws (ws' := [(wa, .inl (y 3, 6, .inl (WD vw))), MB mo ma (nI t1) (nI u3) (nI t3) i4 i5 i6 i7 i8 i42 i49 i51 i53 i54 i59 i61 i64 i66 (nI t67) i76 i78, (ma 0, .inl (y 0, 1600, .inl (tby tx)))]) rfl ?_
              refine j_lv (lv' := [(3, .int (nI iz)), (2, .int (nI kz)), (0, .ref mo), (1, .ref wa)]) rfl ?_
              refine j_iload_n (pc := 76) C d_Model_isHere_76 rfl 0 rfl ?_
              refine j_aload_n (pc := 77) C d_Model_isHere_77 rfl 3 rfl ?_
              refine j_alen (pc := 78) C 0 3 rfl rfl (v := 6) rfl d_Model_isHere_78 ?_
              by_cases c60 : 6 ≤ iz
              · refine j_icmp_geT (pc := 79) C (tgt := 107) d_Model_isHere_79 (by decide) (show nI 6 ≤ nI iz from nI_le (by omega) (by omega)) ?_
                refine j_iconst (pc := 107) C (v := 1) d_Model_isHere_107 (by decide) ?_
                exact j_iret (pc := 108) C hr (by decide) u3 ⟨(show t2 ≤ u3 by omega), (show u3 ≤ t3 by omega), (fun _ => xh6), xh7, (Or.inr ⟨rfl, is_yes xh18 xh6 xh52 hvl (by omega) (fun j h => hw_ j (by omega)), by omega⟩)⟩ [1, 2, 0] rfl (by decide) (by decide) (by decide) d_Model_isHere_108
              · refine j_icmp_geF (pc := 79) C (tgt := 107) d_Model_isHere_79 (by decide) (show ¬ nI 6 ≤ nI iz from nI_ge (by omega) (by omega)) ?_
                refine j_aload_n (pc := 82) C d_Model_isHere_82 rfl 2 rfl ?_
                refine j_get (pc := 83) C gf_Model_7 1 rfl rfl d_Model_isHere_83 ?_
                refine j_aload_n (pc := 86) C d_Model_isHere_86 rfl 2 rfl ?_
                refine j_get (pc := 87) C gf_Model_207 1 rfl rfl d_Model_isHere_87 ?_
                refine j_iload_n (pc := 90) C d_Model_isHere_90 rfl 0 rfl ?_
                refine j_iadd (pc := 91) C (v := nI (u3 + iz)) d_Model_isHere_91 (nI_add _ _) ?_
                have hb61 : tx (u3 + iz) < 256 := hB (u3 + iz)
                refine j_iald (pc := 92) C 2 rfl (v := nI (tx (u3 + iz))) (vp_in_nI (by omega) (by decide)) (by rw [nI_clamp (by omega)]; rfl) d_Model_isHere_92 ?_
                refine j_aload_n (pc := 93) C d_Model_isHere_93 rfl 3 rfl ?_
                refine j_iload_n (pc := 94) C d_Model_isHere_94 rfl 0 rfl ?_
                have hb62 : wdv vw iz < 256 := wd_lt hv33 iz
                refine j_cald (pc := 95) C 0 rfl (v := nI (wdv vw iz)) (vp_in_nI (by omega) (by decide)) (by rw [nI_clamp (by omega)]; exact wd_ld hvl (by omega)) d_Model_isHere_95 ?_
                by_cases c63 : (tx (u3 + iz)) = (wdv vw iz)
                · refine j_icmp_eqT (pc := 96) C (tgt := 101) d_Model_isHere_96 (by decide) (show nI (tx (u3 + iz)) = nI (wdv vw iz) from (nI_eq (by omega) (by omega)).mpr (by omega)) ?_
                  refine j_iinc (pc := 101) C (v := nI (iz + 1)) (lv' := [(3, .int (nI (iz + 1))), (2, .int (nI kz)), (0, .ref mo), (1, .ref wa)]) d_Model_isHere_101 0 rfl (nI_add _ _) (by decide) rfl ?_
                  refine j_goto (pc := 104) C (tgt := 76) d_Model_isHere_104 (by decide) ?_
                  exact ih59 ((iz + 1)) ⟨(show (iz + 1) ≤ 6 by omega), (fun j h1 => by
                          by_cases e : j = iz
                          · rw [e]; omega
                          · exact hw_ j (by omega))⟩ (show 6 - (iz + 1) < 6 - iz by omega)
                · refine j_icmp_eqF (pc := 96) C (tgt := 101) d_Model_isHere_96 (by decide) (show ¬ nI (tx (u3 + iz)) = nI (wdv vw iz) from fun e => absurd ((nI_eq (by omega) (by omega)).mp e) (by omega)) ?_
                  refine j_iconst (pc := 99) C (v := 0) d_Model_isHere_99 (by decide) ?_
                  exact j_iret (pc := 100) C hr (by decide) u3 ⟨(show t2 ≤ u3 by omega), (show u3 ≤ t3 by omega), (fun _ => xh6), xh7, (Or.inl ⟨rfl, is_no2 (j := iz) xh6 xh52 (by omega) (hl_ _ (by omega) (by omega)) (by omega)⟩)⟩ [1, 2, 0] rfl (by decide) (by decide) (by decide) d_Model_isHere_100
            · refine j_icmp_eqF (pc := 69) C (tgt := 74) d_Model_isHere_69 (by decide) (show ¬ nI (kz - u3) = nI 6 from fun e => absurd ((nI_eq (by omega) (by omega)).mp e) (by omega)) ?_
              refine j_iconst (pc := 72) C (v := 0) d_Model_isHere_72 (by decide) ?_
              exact j_iret (pc := 73) C hr (by decide) u3 ⟨(show t2 ≤ u3 by omega), (show u3 ≤ t3 by omega), (fun _ => xh6), xh7, (Or.inl ⟨rfl, is_no1 xh6 xh52 hvl (by omega)⟩)⟩ [1, 2, 0] rfl (by decide) (by decide) (by decide) d_Model_isHere_73
          · refine j_icmp_geF (pc := 40) C (tgt := 61) d_Model_isHere_40 (by decide) (show ¬ nI t3 ≤ nI kz from nI_ge (by omega) (by omega)) ?_
            refine j_aload_n (pc := 43) C d_Model_isHere_43 rfl 1 rfl ?_
            refine j_get (pc := 44) C gf_Model_7 1 rfl rfl d_Model_isHere_44 ?_
            refine j_iload_n (pc := 47) C d_Model_isHere_47 rfl 0 rfl ?_
            have hb64 : tx kz < 256 := hB kz
            refine j_iald (pc := 48) C 2 rfl (v := nI (tx kz)) (vp_in_nI (by omega) (by decide)) (by rw [nI_clamp (by omega)]; rfl) d_Model_isHere_48 ?_
            refine j_callSi (pc := 49) C (c_M_isLetter_n l D y (tx kz) (by omega)) kw_Model_217 ks_Model_isLetter ⟨by decide, by decide⟩ ⟨by decide, by decide⟩ (wr := [(wa, .inl (y 3, 6, .inl (WD vw))), MB mo ma (nI t1) (nI u3) (nI t3) i4 i5 i6 i7 i8 i42 i49 i51 i53 i54 i59 i61 i64 i66 (nI t67) i76 i78, (ma 0, .inl (y 0, 1600, .inl (tby tx)))]) [] [0, 1, 2] rfl rfl (by decide) (by decide) (by decide) (As := [.int (nI (tx kz))]) (rest := []) rfl (nb rfl) rfl d_Model_isHere_49 (fun r65 _ hr65 => ?_)
            refine j_ws (ws' := [(wa, .inl (y 3, 6, .inl (WD vw))), MB mo ma (nI t1) (nI u3) (nI t3) i4 i5 i6 i7 i8 i42 i49 i51 i53 i54 i59 i61 i64 i66 (nI t67) i76 i78, (ma 0, .inl (y 0, 1600, .inl (tby tx)))]) rfl ?_
            rcases hr65 with ⟨rfl, xh67⟩ | ⟨rfl, xh68⟩
            · refine j_if_eqT (pc := 52) C (tgt := 61) d_Model_isHere_52 (by decide) (by decide) ?_
              have xh69 : kz = enS tx t3 gs := en_of xh18 (by decide) (by decide) xh6 hl_ (by omega) (fun h => absurd h.2 xh67) (by omega)
              refine j_iload_n (pc := 61) C d_Model_isHere_61 rfl 0 rfl ?_
              refine j_aload_n (pc := 62) C d_Model_isHere_62 rfl 1 rfl ?_
              refine j_get (pc := 63) C gf_Model_207 1 rfl rfl d_Model_isHere_63 ?_
              refine j_isub (pc := 66) C (v := nI (kz - u3)) d_Model_isHere_66 (pk_sub (by omega)) ?_
              refine j_aload_n (pc := 67) C d_Model_isHere_67 rfl 2 rfl ?_
              refine j_alen (pc := 68) C 0 3 rfl rfl (v := 6) rfl d_Model_isHere_68 ?_
              by_cases c70 : (kz - u3) = 6
              · refine j_icmp_eqT (pc := 69) C (tgt := 74) d_Model_isHere_69 (by decide) (show nI (kz - u3) = nI 6 from (nI_eq (by omega) (by omega)).mpr (by omega)) ?_
                refine j_iconst (pc := 74) C (v := 0) d_Model_isHere_74 (by decide) ?_
                refine j_istore_n (pc := 75) C (lv' := [(3, .int 0), (2, .int (nI kz)), (0, .ref mo), (1, .ref wa)]) d_Model_isHere_75 rfl (by decide) rfl ?_
                refine j_loop (α := Nat) (fun a => 6 - a) (fun a => (a ≤ 6) ∧ ((∀ j, j < a → tx (u3 + j) = wdv vw j))) (fun a => [(wa, .inl (y 3, 6, .inl (WD vw))), MB mo ma (nI t1) (nI u3) (nI t3) i4 i5 i6 i7 i8 i42 i49 i51 i53 i54 i59 i61 i64 i66 (nI t67) i76 i78, (ma 0, .inl (y 0, 1600, .inl (tby tx)))]) (fun a => [(3, .int (nI a)), (2, .int (nI kz)), (0, .ref mo), (1, .ref wa)]) (0) rfl rfl ⟨(show 0 ≤ 6 by omega), (fun j h1 => absurd h1 (by omega))⟩ ?_
                rintro iz hP75 ih76
                obtain ⟨hi__, hw__⟩ := hP75
                have hi_ : iz ≤ 6 := hi__
                have hw_ : (∀ j, j < iz → tx (u3 + j) = wdv vw j) := hw__
                refine j_ws (ws' := [(wa, .inl (y 3, 6, .inl (WD vw))), MB mo ma (nI t1) (nI u3) (nI t3) i4 i5 i6 i7 i8 i42 i49 i51 i53 i54 i59 i61 i64 i66 (nI t67) i76 i78, (ma 0, .inl (y 0, 1600, .inl (tby tx)))]) rfl ?_
                refine j_lv (lv' := [(3, .int (nI iz)), (2, .int (nI kz)), (0, .ref mo), (1, .ref wa)]) rfl ?_
                refine j_iload_n (pc := 76) C d_Model_isHere_76 rfl 0 rfl ?_
                refine j_aload_n (pc := 77) C d_Model_isHere_77 rfl 3 rfl ?_
                refine j_alen (pc := 78) C 0 3 rfl rfl (v := 6) rfl d_Model_isHere_78 ?_
                by_cases c77 : 6 ≤ iz
                · refine j_icmp_geT (pc := 79) C (tgt := 107) d_Model_isHere_79 (by decide) (show nI 6 ≤ nI iz from nI_le (by omega) (by omega)) ?_
                  refine j_iconst (pc := 107) C (v := 1) d_Model_isHere_107 (by decide) ?_
                  exact j_iret (pc := 108) C hr (by decide) u3 ⟨(show t2 ≤ u3 by omega), (show u3 ≤ t3 by omega), (fun _ => xh6), xh7, (Or.inr ⟨rfl, is_yes xh18 xh6 xh69 hvl (by omega) (fun j h => hw_ j (by omega)), by omega⟩)⟩ [1, 2, 0] rfl (by decide) (by decide) (by decide) d_Model_isHere_108
                · refine j_icmp_geF (pc := 79) C (tgt := 107) d_Model_isHere_79 (by decide) (show ¬ nI 6 ≤ nI iz from nI_ge (by omega) (by omega)) ?_
                  refine j_aload_n (pc := 82) C d_Model_isHere_82 rfl 2 rfl ?_
                  refine j_get (pc := 83) C gf_Model_7 1 rfl rfl d_Model_isHere_83 ?_
                  refine j_aload_n (pc := 86) C d_Model_isHere_86 rfl 2 rfl ?_
                  refine j_get (pc := 87) C gf_Model_207 1 rfl rfl d_Model_isHere_87 ?_
                  refine j_iload_n (pc := 90) C d_Model_isHere_90 rfl 0 rfl ?_
                  refine j_iadd (pc := 91) C (v := nI (u3 + iz)) d_Model_isHere_91 (nI_add _ _) ?_
                  have hb78 : tx (u3 + iz) < 256 := hB (u3 + iz)
                  refine j_iald (pc := 92) C 2 rfl (v := nI (tx (u3 + iz))) (vp_in_nI (by omega) (by decide)) (by rw [nI_clamp (by omega)]; rfl) d_Model_isHere_92 ?_
                  refine j_aload_n (pc := 93) C d_Model_isHere_93 rfl 3 rfl ?_
                  refine j_iload_n (pc := 94) C d_Model_isHere_94 rfl 0 rfl ?_
                  have hb79 : wdv vw iz < 256 := wd_lt hv33 iz
                  refine j_cald (pc := 95) C 0 rfl (v := nI (wdv vw iz)) (vp_in_nI (by omega) (by decide)) (by rw [nI_clamp (by omega)]; exact wd_ld hvl (by omega)) d_Model_isHere_95 ?_
                  by_cases c80 : (tx (u3 + iz)) = (wdv vw iz)
                  · refine j_icmp_eqT (pc := 96) C (tgt := 101) d_Model_isHere_96 (by decide) (show nI (tx (u3 + iz)) = nI (wdv vw iz) from (nI_eq (by omega) (by omega)).mpr (by omega)) ?_
                    refine j_iinc (pc := 101) C (v := nI (iz + 1)) (lv' := [(3, .int (nI (iz + 1))), (2, .int (nI kz)), (0, .ref mo), (1, .ref wa)]) d_Model_isHere_101 0 rfl (nI_add _ _) (by decide) rfl ?_
                    refine j_goto (pc := 104) C (tgt := 76) d_Model_isHere_104 (by decide) ?_
                    exact ih76 ((iz + 1)) ⟨(show (iz + 1) ≤ 6 by omega), (fun j h1 => by
                            by_cases e : j = iz
                            · rw [e]; omega
                            · exact hw_ j (by omega))⟩ (show 6 - (iz + 1) < 6 - iz by omega)
                  · refine j_icmp_eqF (pc := 96) C (tgt := 101) d_Model_isHere_96 (by decide) (show ¬ nI (tx (u3 + iz)) = nI (wdv vw iz) from fun e => absurd ((nI_eq (by omega) (by omega)).mp e) (by omega)) ?_
                    refine j_iconst (pc := 99) C (v := 0) d_Model_isHere_99 (by decide) ?_
                    exact j_iret (pc := 100) C hr (by decide) u3 ⟨(show t2 ≤ u3 by omega), (show u3 ≤ t3 by omega), (fun _ => xh6), xh7, (Or.inl ⟨rfl, is_no2 (j := iz) xh6 xh69 (by omega) (hl_ _ (by omega) (by omega)) (by omega)⟩)⟩ [1, 2, 0] rfl (by decide) (by decide) (by decide) d_Model_isHere_100
              · refine j_icmp_eqF (pc := 69) C (tgt := 74) d_Model_isHere_69 (by decide) (show ¬ nI (kz - u3) = nI 6 from fun e => absurd ((nI_eq (by omega) (by omega)).mp e) (by omega)) ?_
                refine j_iconst (pc := 72) C (v := 0) d_Model_isHere_72 (by decide) ?_
                exact j_iret (pc := 73) C hr (by decide) u3 ⟨(show t2 ≤ u3 by omega), (show u3 ≤ t3 by omega), (fun _ => xh6), xh7, (Or.inl ⟨rfl, is_no1 xh6 xh69 hvl (by omega)⟩)⟩ [1, 2, 0] rfl (by decide) (by decide) (by decide) d_Model_isHere_73
            · refine j_if_eqF (pc := 52) C (tgt := 61) d_Model_isHere_52 (by decide) (by decide) ?_
              refine j_iinc (pc := 55) C (v := nI (kz + 1)) (lv' := [(2, .int (nI (kz + 1))), (0, .ref mo), (1, .ref wa)]) d_Model_isHere_55 0 rfl (nI_add _ _) (by decide) rfl ?_
              refine j_goto (pc := 58) C (tgt := 35) d_Model_isHere_58 (by decide) ?_
              exact ih50 ((kz + 1)) ⟨(show (kz + 1) ≤ t3 by omega), (show u3 ≤ (kz + 1) by omega), (fun i h1 h2 => by
                      by_cases e : i = kz
                      · rw [e]; exact xh68
                      · exact hl_ i h1 (by omega))⟩ (show t3 - (kz + 1) < t3 - kz by omega)
        · refine j_iconst (pc := 28) C (v := 0) d_Model_isHere_28 (by decide) ?_
          exact j_iret (pc := 29) C hr (by decide) u3 ⟨(show t2 ≤ u3 by omega), (show u3 ≤ t3 by omega), (fun _ => xh6), xh7, (Or.inl ⟨rfl, is_no0 (s := 1) (rl_ad xh7 ((rr_z xh7).mp c1) he xh6 c17 (by decide) (by decide))⟩)⟩ [1, 2, 0] rfl (by decide) (by decide) (by decide) d_Model_isHere_29
set_option maxHeartbeats 4000000 in
set_option maxRecDepth 100000 in
theorem c_M_takes_6 (l : Launch) (D : va_G) (y : Nat → ClassId) (mo : Nat) (wa : Nat) (ma : Nat → Nat) (t1 : Nat) (t2 : Nat) (t3 : Nat) (i4 : Int32) (i5 : Int32) (i6 : Int32) (i7 : Int32) (i8 : Int32) (i42 : Int32) (i49 : Int32) (i51 : Int32) (i53 : Int32) (i54 : Int32) (i59 : Int32) (i61 : Int32) (i64 : Int32) (i66 : Int32) (t67 : Nat) (i76 : Int64) (i78 : Int32) (tx : Nat → Nat) (vw : Nat) (gs : PS) (ha : t2 ≤ t3) (he : t3 ≤ 1600) (hB : ∀ j, tx j < 256) (hx : RR tx t3 gs t2 i4 i5 i6) (hv33 : vw < 33) (hvl : (owf vw).length = 6) : CT l D y ⟨"NineBoardsModel", "takes", "([C)Z"⟩ prog_13_method_10_code 2 (some .boolean) ({ frames := 2, cells := 0, slots := 0, locals := 43 } : Room) [.ref mo, .ref wa] [MB mo ma (nI t1) (nI t2) (nI t3) i4 i5 i6 i7 i8 i42 i49 i51 i53 i54 i59 i61 i64 i66 (nI t67) i76 i78, (ma 0, .inl (y 0, 1600, .inl (tby tx))), (wa, .inl (y 3, 6, .inl (WD vw)))] (QI D [MB mo ma (nI t1) (nI t2) (nI t3) i4 i5 i6 i7 i8 i42 i49 i51 i53 i54 i59 i61 i64 i66 (nI t67) i76 i78, (ma 0, .inl (y 0, 1600, .inl (tby tx))), (wa, .inl (y 3, 6, .inl (WD vw)))] (fun (r : Int32) (u : Nat × Int32) => t2 ≤ u.1 ∧ u.1 ≤ t3 ∧ ((r = 0 ∧ RR tx t3 gs u.1 u.2 i5 i6 ∧ ¬ iswS tx t3 vw gs = true ∧ (i5 = 0 → u.1 = stS tx t3 gs)) ∨ (r = 1 ∧ RR tx t3 (advS tx t3 gs) u.1 u.2 i5 i6 ∧ iswS tx t3 vw gs = true ∧ t2 + 6 ≤ u.1))) (fun u => [MB mo ma (nI t1) (nI u.1) (nI t3) u.2 i5 i6 i7 i8 i42 i49 i51 i53 i54 i59 i61 i64 i66 (nI t67) i76 i78, (ma 0, .inl (y 0, 1600, .inl (tby tx))), (wa, .inl (y 3, 6, .inl (WD vw)))])) := by
  refine CT.of (by decide) (nb rfl) ?_
  intro p e s m args below meth c C hr
  refine j_lv (lv' := [(0, .ref mo), (1, .ref wa)]) rfl ?_
  refine j_aload_n (pc := 0) C d_Model_takes_0 rfl 0 rfl ?_
  refine j_aload_n (pc := 1) C d_Model_takes_1 rfl 1 rfl ?_
  refine j_callVi (pc := 2) C (c_M_isHere_6 l D y mo wa ma t1 t2 t3 i4 i5 i6 i7 i8 i42 i49 i51 i53 i54 i59 i61 i64 i66 t67 i76 i78 tx vw gs ha he hB hx hv33 hvl) kw_Model_224 kv_Model_isHere 0 10 rfl rfl ⟨by decide, by decide⟩ ⟨by decide, by decide⟩ (wr := []) [0, 1, 2] [] rfl rfl (by decide) (by decide) (by decide) (As := [.ref wa]) (rest := []) rfl (nb rfl) rfl d_Model_takes_2 (fun r1 u2 hr1 => ?_)
  refine j_ws (ws' := [MB mo ma (nI t1) (nI u2) (nI t3) i4 i5 i6 i7 i8 i42 i49 i51 i53 i54 i59 i61 i64 i66 (nI t67) i76 i78, (ma 0, .inl (y 0, 1600, .inl (tby tx))), (wa, .inl (y 3, 6, .inl (WD vw)))]) rfl ?_
  obtain ⟨xh3, xh4, xh5, xh6, xh7⟩ := hr1
  rcases xh7 with ⟨rfl, xh8⟩ | ⟨rfl, xh9, xh10⟩
  · refine j_if_neF (pc := 5) C (tgt := 10) d_Model_takes_5 (by decide) (by decide) ?_
    refine j_iconst (pc := 8) C (v := 0) d_Model_takes_8 (by decide) ?_
    exact j_iret (pc := 9) C hr (by decide) (u2, i4) ⟨(show t2 ≤ u2 by omega), (show u2 ≤ t3 by omega), (Or.inl ⟨rfl, xh6, xh8, xh5⟩)⟩ [0, 1, 2] rfl (by decide) (by decide) (by decide) d_Model_takes_9
  · refine j_if_neT (pc := 5) C (tgt := 10) d_Model_takes_5 (by decide) (by decide) ?_
    refine j_aload_n (pc := 10) C d_Model_takes_10 rfl 0 rfl ?_
    refine j_dup (pc := 11) C d_Model_takes_11 rfl ?_
    refine j_get (pc := 12) C gf_Model_207 0 rfl rfl d_Model_takes_12 ?_
    refine j_aload_n (pc := 15) C d_Model_takes_15 rfl 1 rfl ?_
    refine j_alen (pc := 16) C 2 3 rfl rfl (v := 6) rfl d_Model_takes_16 ?_
    refine j_iadd (pc := 17) C (v := nI (u2 + 6)) d_Model_takes_17 (nI_add _ _) ?_
    refine j_put (pc := 18) C pf_Model_207 0 (ws' := [MB mo ma (nI t1) (nI (u2 + 6)) (nI t3) i4 i5 i6 i7 i8 i42 i49 i51 i53 i54 i59 i61 i64 i66 (nI t67) i76 i78, (ma 0, .inl (y 0, 1600, .inl (tby tx))), (wa, .inl (y 3, 6, .inl (WD vw)))]) rfl rfl rfl (nl rfl) rfl d_Model_takes_18 ?_
    refine j_aload_n (pc := 21) C d_Model_takes_21 rfl 0 rfl ?_
    refine j_aload_n (pc := 22) C d_Model_takes_22 rfl 0 rfl ?_
    refine j_get (pc := 23) C gf_Model_207 0 rfl rfl d_Model_takes_23 ?_
    refine j_put (pc := 26) C pf_Model_221 0 (ws' := [MB mo ma (nI t1) (nI (u2 + 6)) (nI t3) (nI (u2 + 6)) i5 i6 i7 i8 i42 i49 i51 i53 i54 i59 i61 i64 i66 (nI t67) i76 i78, (ma 0, .inl (y 0, 1600, .inl (tby tx))), (wa, .inl (y 3, 6, .inl (WD vw)))]) rfl rfl rfl (nl rfl) rfl d_Model_takes_26 ?_
    have xh11 : RR tx t3 (advS tx t3 gs) (u2 + 6) (nI (u2 + 6)) i5 i6 := (rr_adv xh6 he (of_decide_eq_true xh9).1 (by decide) (show (u2 + 6) = enS tx t3 gs by omega) (Or.inr ⟨by decide, rfl⟩))
    refine j_iconst (pc := 29) C (v := 1) d_Model_takes_29 (by decide) ?_
    exact j_iret (pc := 30) C hr (by decide) ((u2 + 6), nI (u2 + 6)) ⟨(show t2 ≤ (u2 + 6) by omega), (show (u2 + 6) ≤ t3 by have := (en_end (of_decide_eq_true xh9).1 (by decide) (by decide)).1; omega), (Or.inr ⟨rfl, xh11, xh9, show t2 + 6 ≤ (u2 + 6) by omega⟩)⟩ [0, 1, 2] rfl (by decide) (by decide) (by decide) d_Model_takes_30
set_option maxHeartbeats 4000000 in
set_option maxRecDepth 100000 in
theorem c_M_asks_6 (l : Launch) (D : va_G) (y : Nat → ClassId) (mo : Nat) (wa : Nat) (ma : Nat → Nat) (t1 : Nat) (t2 : Nat) (t3 : Nat) (i4 : Int32) (i5 : Int32) (i6 : Int32) (i7 : Int32) (i8 : Int32) (i42 : Int32) (i49 : Int32) (i51 : Int32) (i53 : Int32) (i54 : Int32) (i59 : Int32) (i61 : Int32) (i64 : Int32) (i66 : Int32) (t67 : Nat) (i76 : Int64) (i78 : Int32) (tx : Nat → Nat) (vw : Nat) (gs : PS) (ha : t2 ≤ t3) (he : t3 ≤ 1600) (hB : ∀ j, tx j < 256) (hx : RR tx t3 gs t2 i4 i5 i6) (hv33 : vw < 33) (hvl : (owf vw).length = 6) : CT l D y ⟨"NineBoardsModel", "asks", "([C)V"⟩ prog_13_method_11_code 2 none ({ frames := 3, cells := 0, slots := 0, locals := 64 } : Room) [.ref mo, .ref wa] [MB mo ma (nI t1) (nI t2) (nI t3) i4 i5 i6 i7 i8 i42 i49 i51 i53 i54 i59 i61 i64 i66 (nI t67) i76 i78, (ma 0, .inl (y 0, 1600, .inl (tby tx))), (wa, .inl (y 3, 6, .inl (WD vw)))] (QV D [MB mo ma (nI t1) (nI t2) (nI t3) i4 i5 i6 i7 i8 i42 i49 i51 i53 i54 i59 i61 i64 i66 (nI t67) i76 i78, (ma 0, .inl (y 0, 1600, .inl (tby tx))), (wa, .inl (y 3, 6, .inl (WD vw)))] (fun (u : Nat × Int32 × Int32 × Int32) => t2 ≤ u.1 ∧ u.1 ≤ t3 ∧ (u.2.2.1 = 0 → i5 = 0 ∧ t2 + 6 ≤ u.1) ∧ RR tx t3 (rwS tx t3 vw gs) u.1 u.2.1 u.2.2.1 u.2.2.2) (fun u => [MB mo ma (nI t1) (nI u.1) (nI t3) u.2.1 u.2.2.1 u.2.2.2 i7 i8 i42 i49 i51 i53 i54 i59 i61 i64 i66 (nI t67) i76 i78, (ma 0, .inl (y 0, 1600, .inl (tby tx))), (wa, .inl (y 3, 6, .inl (WD vw)))])) := by
  refine CT.of (by decide) (nb rfl) ?_
  intro p e s m args below meth c C hr
  refine j_lv (lv' := [(0, .ref mo), (1, .ref wa)]) rfl ?_
  refine j_aload_n (pc := 0) C d_Model_asks_0 rfl 0 rfl ?_
  refine j_get (pc := 1) C gf_Model_201 0 rfl rfl d_Model_asks_1 ?_
  refine j_if_ne (pc := 4) C (tgt := 24) d_Model_asks_4 (by decide) (fun c1 => ?_) (fun c1 => ?_)
  · exact j_vret (pc := 24) C hr (t2, i4, i5, i6) ⟨(show t2 ≤ t2 by omega), (show t2 ≤ t3 by omega), (fun e => absurd e c1), (rr_of hx (rw_d (fun e => c1 ((rr_z hx).mpr e))))⟩ [0, 1, 2] rfl (by decide) (by decide) (by decide) d_Model_asks_24
  · refine j_aload_n (pc := 7) C d_Model_asks_7 rfl 0 rfl ?_
    refine j_aload_n (pc := 8) C d_Model_asks_8 rfl 1 rfl ?_
    refine j_callVi (pc := 9) C (c_M_takes_6 l D y mo wa ma t1 t2 t3 i4 i5 i6 i7 i8 i42 i49 i51 i53 i54 i59 i61 i64 i66 t67 i76 i78 tx vw gs ha he hB hx hv33 hvl) kw_Model_228 kv_Model_takes 0 10 rfl rfl ⟨by decide, by decide⟩ ⟨by decide, by decide⟩ (wr := []) [0, 1, 2] [] rfl rfl (by decide) (by decide) (by decide) (As := [.ref wa]) (rest := []) rfl (nb rfl) rfl d_Model_asks_9 (fun r2 u3 hr2 => ?_)
    refine j_ws (ws' := [MB mo ma (nI t1) (nI u3.1) (nI t3) u3.2 i5 i6 i7 i8 i42 i49 i51 i53 i54 i59 i61 i64 i66 (nI t67) i76 i78, (ma 0, .inl (y 0, 1600, .inl (tby tx))), (wa, .inl (y 3, 6, .inl (WD vw)))]) rfl ?_
    obtain ⟨xh4, xh5, xh6⟩ := hr2
    rcases xh6 with ⟨rfl, xh7, xh8, xh9⟩ | ⟨rfl, xh10, xh11, xh12⟩
    · refine j_if_neF (pc := 12) C (tgt := 24) d_Model_asks_12 (by decide) (by decide) ?_
      refine j_aload_n (pc := 15) C d_Model_asks_15 rfl 0 rfl ?_
      refine j_iconst (pc := 16) C (v := 1) d_Model_asks_16 (by decide) ?_
      refine j_aload_n (pc := 17) C d_Model_asks_17 rfl 0 rfl ?_
      refine j_get (pc := 18) C gf_Model_207 0 rfl rfl d_Model_asks_18 ?_
      refine j_callVv (pc := 21) C (c_M_fail_1 l D y mo ma t1 u3.1 t3 u3.2 i5 i6 i7 i8 i42 i49 i51 i53 i54 i59 i61 i64 i66 t67 i76 i78 u3.1 gs tx ((rr_z xh7).mp c1) (by omega) c1) kw_Model_230 kv_Model_fail 0 10 rfl rfl ⟨by decide, by decide⟩ ⟨by decide, by decide⟩ (wr := [(ma 0, .inl (y 0, 1600, .inl (tby tx))), (wa, .inl (y 3, 6, .inl (WD vw)))]) [0] [1, 2] rfl rfl (by decide) (by decide) (by decide) (As := [.int 1, .int (nI u3.1)]) (rest := []) rfl (nb rfl) rfl d_Model_asks_21 (fun u13 hu14 => ?_)
      obtain ⟨xh15, xh16⟩ := hu14
      refine j_ws (ws' := [(ma 0, .inl (y 0, 1600, .inl (tby tx))), (wa, .inl (y 3, 6, .inl (WD vw))), MB mo ma (nI t1) (nI u3.1) (nI t3) u3.2 u13.1 u13.2 i7 i8 i42 i49 i51 i53 i54 i59 i61 i64 i66 (nI t67) i76 i78]) rfl ?_
      exact j_vret (pc := 24) C hr (u3.1, u3.2, u13.1, u13.2) ⟨(show t2 ≤ u3.1 by omega), (show u3.1 ≤ t3 by omega), (fun e => absurd e xh15), (rr_of xh16 (by rw [xh9 c1]; exact if_neg xh8))⟩ [2, 0, 1] rfl (by decide) (by decide) (by decide) d_Model_asks_24
    · refine j_if_neT (pc := 12) C (tgt := 24) d_Model_asks_12 (by decide) (by decide) ?_
      exact j_vret (pc := 24) C hr (u3.1, u3.2, i5, i6) ⟨(show t2 ≤ u3.1 by omega), (show u3.1 ≤ t3 by omega), (fun e => by exact ⟨e, by omega⟩), (rr_of xh10 (if_pos xh11))⟩ [0, 1, 2] rfl (by decide) (by decide) (by decide) d_Model_asks_24
set_option maxHeartbeats 4000000 in
set_option maxRecDepth 100000 in
theorem c_M_isHere_7 (l : Launch) (D : va_G) (y : Nat → ClassId) (mo : Nat) (wa : Nat) (ma : Nat → Nat) (t1 : Nat) (t2 : Nat) (t3 : Nat) (i4 : Int32) (i5 : Int32) (i6 : Int32) (i7 : Int32) (i8 : Int32) (i42 : Int32) (i49 : Int32) (i51 : Int32) (i53 : Int32) (i54 : Int32) (i59 : Int32) (i61 : Int32) (i64 : Int32) (i66 : Int32) (t67 : Nat) (i76 : Int64) (i78 : Int32) (tx : Nat → Nat) (vw : Nat) (gs : PS) (ha : t2 ≤ t3) (he : t3 ≤ 1600) (hB : ∀ j, tx j < 256) (hx : RR tx t3 gs t2 i4 i5 i6) (hv33 : vw < 33) (hvl : (owf vw).length = 7) : CT l D y ⟨"NineBoardsModel", "isHere", "([C)Z"⟩ prog_13_method_9_code 4 (some .boolean) ({ frames := 1, cells := 0, slots := 0, locals := 20 } : Room) [.ref mo, .ref wa] [MB mo ma (nI t1) (nI t2) (nI t3) i4 i5 i6 i7 i8 i42 i49 i51 i53 i54 i59 i61 i64 i66 (nI t67) i76 i78, (ma 0, .inl (y 0, 1600, .inl (tby tx))), (wa, .inl (y 3, 7, .inl (WD vw)))] (QI D [MB mo ma (nI t1) (nI t2) (nI t3) i4 i5 i6 i7 i8 i42 i49 i51 i53 i54 i59 i61 i64 i66 (nI t67) i76 i78, (ma 0, .inl (y 0, 1600, .inl (tby tx))), (wa, .inl (y 3, 7, .inl (WD vw)))] (fun (r : Int32) (u : Nat) => t2 ≤ u ∧ u ≤ t3 ∧ (i5 = 0 → u = stS tx t3 gs) ∧ RR tx t3 gs u i4 i5 i6 ∧ ((r = 0 ∧ ¬ iswS tx t3 vw gs = true) ∨ (r = 1 ∧ iswS tx t3 vw gs = true ∧ u + 7 = enS tx t3 gs))) (fun u => [MB mo ma (nI t1) (nI u) (nI t3) i4 i5 i6 i7 i8 i42 i49 i51 i53 i54 i59 i61 i64 i66 (nI t67) i76 i78, (ma 0, .inl (y 0, 1600, .inl (tby tx))), (wa, .inl (y 3, 7, .inl (WD vw)))])) := by
  refine CT.of (by decide) (nb rfl) ?_
  intro p e s m args below meth c C hr
  refine j_lv (lv' := [(0, .ref mo), (1, .ref wa)]) rfl ?_
  refine j_aload_n (pc := 0) C d_Model_isHere_0 rfl 0 rfl ?_
  refine j_get (pc := 1) C gf_Model_201 0 rfl rfl d_Model_isHere_1 ?_
  refine j_if_ne (pc := 4) C (tgt := 28) d_Model_isHere_4 (by decide) (fun c1 => ?_) (fun c1 => ?_)
  · refine j_iconst (pc := 28) C (v := 0) d_Model_isHere_28 (by decide) ?_
    exact j_iret (pc := 29) C hr (by decide) t2 ⟨(show t2 ≤ t2 by omega), (show t2 ≤ t3 by omega), (fun e => absurd e c1), hx, (Or.inl ⟨rfl, hw_dead hx c1⟩)⟩ [0, 1, 2] rfl (by decide) (by decide) (by decide) d_Model_isHere_29
  · refine j_aload_n (pc := 7) C d_Model_isHere_7 rfl 0 rfl ?_
    refine j_callVi (pc := 8) C (c_M_look l D y mo ma t1 t2 t3 i4 i5 i6 i7 i8 i42 i49 i51 i53 i54 i59 i61 i64 i66 t67 i76 i78 tx gs ha he hB hx c1) kw_Model_213 kv_Model_look 0 10 rfl rfl ⟨by decide, by decide⟩ ⟨by decide, by decide⟩ (wr := [(wa, .inl (y 3, 7, .inl (WD vw)))]) [0, 1] [2] rfl rfl (by decide) (by decide) (by decide) (As := []) (rest := []) rfl (nb rfl) rfl d_Model_isHere_8 (fun r2 u3 hr2 => ?_)
    refine j_ws (ws' := [(wa, .inl (y 3, 7, .inl (WD vw))), MB mo ma (nI t1) (nI u3) (nI t3) i4 i5 i6 i7 i8 i42 i49 i51 i53 i54 i59 i61 i64 i66 (nI t67) i76 i78, (ma 0, .inl (y 0, 1600, .inl (tby tx)))]) rfl ?_
    obtain ⟨xh4, xh5, xh6, xh7, xh8⟩ := hr2
    rcases xh8 with ⟨rfl, xh9⟩ | ⟨rfl, xh10⟩
    · refine j_callSi (pc := 11) C (c_M_isLetter_m l D y ) kw_Model_217 ks_Model_isLetter ⟨by decide, by decide⟩ ⟨by decide, by decide⟩ (wr := [(wa, .inl (y 3, 7, .inl (WD vw))), MB mo ma (nI t1) (nI u3) (nI t3) i4 i5 i6 i7 i8 i42 i49 i51 i53 i54 i59 i61 i64 i66 (nI t67) i76 i78, (ma 0, .inl (y 0, 1600, .inl (tby tx)))]) [] [0, 1, 2] rfl rfl (by decide) (by decide) (by decide) (As := [.int (-1)]) (rest := []) rfl (nb rfl) rfl d_Model_isHere_11 (fun r11 _ hr11 => ?_)
      subst hr11
      refine j_ws (ws' := [(wa, .inl (y 3, 7, .inl (WD vw))), MB mo ma (nI t1) (nI u3) (nI t3) i4 i5 i6 i7 i8 i42 i49 i51 i53 i54 i59 i61 i64 i66 (nI t67) i76 i78, (ma 0, .inl (y 0, 1600, .inl (tby tx)))]) rfl ?_
      refine j_st (st' := [.int 0]) rfl ?_
      refine j_if_eqT (pc := 14) C (tgt := 28) d_Model_isHere_14 (by decide) (by decide) ?_
      refine j_iconst (pc := 28) C (v := 0) d_Model_isHere_28 (by decide) ?_
      exact j_iret (pc := 29) C hr (by decide) u3 ⟨(show t2 ≤ u3 by omega), (show u3 ≤ t3 by omega), (fun _ => xh6), xh7, (Or.inl ⟨rfl, is_no0 (s := 1) (by rw [rl_end ((rr_z xh7).mp c1) xh6 xh9]; decide)⟩)⟩ [1, 2, 0] rfl (by decide) (by decide) (by decide) d_Model_isHere_29
    · have hb12 : tx u3 < 256 := hB u3
      refine j_callSi (pc := 11) C (c_M_isLetter_n l D y (tx u3) (by omega)) kw_Model_217 ks_Model_isLetter ⟨by decide, by decide⟩ ⟨by decide, by decide⟩ (wr := [(wa, .inl (y 3, 7, .inl (WD vw))), MB mo ma (nI t1) (nI u3) (nI t3) i4 i5 i6 i7 i8 i42 i49 i51 i53 i54 i59 i61 i64 i66 (nI t67) i76 i78, (ma 0, .inl (y 0, 1600, .inl (tby tx)))]) [] [0, 1, 2] rfl rfl (by decide) (by decide) (by decide) (As := [.int (nI (tx u3))]) (rest := []) rfl (nb rfl) rfl d_Model_isHere_11 (fun r13 _ hr13 => ?_)
      refine j_ws (ws' := [(wa, .inl (y 3, 7, .inl (WD vw))), MB mo ma (nI t1) (nI u3) (nI t3) i4 i5 i6 i7 i8 i42 i49 i51 i53 i54 i59 i61 i64 i66 (nI t67) i76 i78, (ma 0, .inl (y 0, 1600, .inl (tby tx)))]) rfl ?_
      rcases hr13 with ⟨rfl, xh15⟩ | ⟨rfl, xh16⟩
      · refine j_if_eqT (pc := 14) C (tgt := 28) d_Model_isHere_14 (by decide) (by decide) ?_
        refine j_iconst (pc := 28) C (v := 0) d_Model_isHere_28 (by decide) ?_
        exact j_iret (pc := 29) C hr (by decide) u3 ⟨(show t2 ≤ u3 by omega), (show u3 ≤ t3 by omega), (fun _ => xh6), xh7, (Or.inl ⟨rfl, is_no0 (s := 1) (rl_ns xh6 xh15 (by decide) (by decide))⟩)⟩ [1, 2, 0] rfl (by decide) (by decide) (by decide) d_Model_isHere_29
      · refine j_if_eqF (pc := 14) C (tgt := 28) d_Model_isHere_14 (by decide) (by decide) ?_
        refine j_aload_n (pc := 17) C d_Model_isHere_17 rfl 0 rfl ?_
        refine j_get (pc := 18) C gf_Model_207 1 rfl rfl d_Model_isHere_18 ?_
        refine j_aload_n (pc := 21) C d_Model_isHere_21 rfl 0 rfl ?_
        refine j_get (pc := 22) C gf_Model_221 1 rfl rfl d_Model_isHere_22 ?_
        refine j_icmp_ne (pc := 25) C (tgt := 30) d_Model_isHere_25 (by decide) (fun c17 => ?_) (fun c17 => ?_)
        · have xh18 : srS tx t3 gs = 1 := (rl_yes xh7 ((rr_z xh7).mp c1) he xh6 xh10 xh16 c17)
          refine j_aload_n (pc := 30) C d_Model_isHere_30 rfl 0 rfl ?_
          refine j_get (pc := 31) C gf_Model_207 1 rfl rfl d_Model_isHere_31 ?_
          refine j_istore_n (pc := 34) C (lv' := [(2, .int (nI u3)), (0, .ref mo), (1, .ref wa)]) d_Model_isHere_34 rfl (by decide) rfl ?_
          refine j_loop (α := Nat) (fun a => t3 - a) (fun a => (a ≤ t3) ∧ (u3 ≤ a) ∧ ((∀ i, u3 ≤ i → i < a → srt (tx i) = 1))) (fun a => [(wa, .inl (y 3, 7, .inl (WD vw))), MB mo ma (nI t1) (nI u3) (nI t3) i4 i5 i6 i7 i8 i42 i49 i51 i53 i54 i59 i61 i64 i66 (nI t67) i76 i78, (ma 0, .inl (y 0, 1600, .inl (tby tx)))]) (fun a => [(2, .int (nI a)), (0, .ref mo), (1, .ref wa)]) (u3) rfl rfl ⟨xh5, (show u3 ≤ u3 by omega), (fun i h1 h2 => absurd h1 (by omega))⟩ ?_
          rintro kz hP49 ih50
          obtain ⟨hk__, hk2__, hl__⟩ := hP49
          have hk_ : kz ≤ t3 := hk__
          have hk2_ : u3 ≤ kz := hk2__
          have hl_ : (∀ i, u3 ≤ i → i < kz → srt (tx i) = 1) := hl__
          refine j_ws (ws' := [(wa, .inl (y 3, 7, .inl (WD vw))), MB mo ma (nI t1) (nI u3) (nI t3) i4 i5 i6 i7 i8 i42 i49 i51 i53 i54 i59 i61 i64 i66 (nI t67) i76 i78, (ma 0, .inl (y 0, 1600, .inl (tby tx)))]) rfl ?_
          refine j_lv (lv' := [(2, .int (nI kz)), (0, .ref mo), (1, .ref wa)]) rfl ?_
          refine j_iload_n (pc := 35) C d_Model_isHere_35 rfl 0 rfl ?_
          refine j_aload_n (pc := 36) C d_Model_isHere_36 rfl 1 rfl ?_
          refine j_get (pc := 37) C gf_Model_210 1 rfl rfl d_Model_isHere_37 ?_
          by_cases c51 : t3 ≤ kz
          · refine j_icmp_geT (pc := 40) C (tgt := 61) d_Model_isHere_40 (by decide) (show nI t3 ≤ nI kz from nI_le (by omega) (by omega)) ?_
            have xh52 : kz = enS tx t3 gs := en_of xh18 (by decide) (by decide) xh6 hl_ (by omega) (fun h => absurd h.1 (by omega)) (by omega)
            refine j_iload_n (pc := 61) C d_Model_isHere_61 rfl 0 rfl ?_
            refine j_aload_n (pc := 62) C d_Model_isHere_62 rfl 1 rfl ?_
            refine j_get (pc := 63) C gf_Model_207 1 rfl rfl d_Model_isHere_63 ?_
            refine j_isub (pc := 66) C (v := nI (kz - u3)) d_Model_isHere_66 (pk_sub (by omega)) ?_
            refine j_aload_n (pc := 67) C d_Model_isHere_67 rfl 2 rfl ?_
            refine j_alen (pc := 68) C 0 3 rfl rfl (v := 7) rfl d_Model_isHere_68 ?_
            by_cases c53 : (kz - u3) = 7
            · refine j_icmp_eqT (pc := 69) C (tgt := 74) d_Model_isHere_69 (by decide) (show nI (kz - u3) = nI 7 from (nI_eq (by omega) (by omega)).mpr (by omega)) ?_
              refine j_iconst (pc := 74) C (v := 0) d_Model_isHere_74 (by decide) ?_
              refine j_istore_n (pc := 75) C (lv' := [(3, .int 0), (2, .int (nI kz)), (0, .ref mo), (1, .ref wa)]) d_Model_isHere_75 rfl (by decide) rfl ?_
              refine j_loop (α := Nat) (fun a => 7 - a) (fun a => (a ≤ 7) ∧ ((∀ j, j < a → tx (u3 + j) = wdv vw j))) (fun a => [(wa, .inl (y 3, 7, .inl (WD vw))), MB mo ma (nI t1) (nI u3) (nI t3) i4 i5 i6 i7 i8 i42 i49 i51 i53 i54 i59 i61 i64 i66 (nI t67) i76 i78, (ma 0, .inl (y 0, 1600, .inl (tby tx)))]) (fun a => [(3, .int (nI a)), (2, .int (nI kz)), (0, .ref mo), (1, .ref wa)]) (0) rfl rfl ⟨(show 0 ≤ 7 by omega), (fun j h1 => absurd h1 (by omega))⟩ ?_
              rintro iz hP58 ih59
              obtain ⟨hi__, hw__⟩ := hP58
              have hi_ : iz ≤ 7 := hi__
              have hw_ : (∀ j, j < iz → tx (u3 + j) = wdv vw j) := hw__
              refine j_ws (ws' := [(wa, .inl (y 3, 7, .inl (WD vw))), MB mo ma (nI t1) (nI u3) (nI t3) i4 i5 i6 i7 i8 i42 i49 i51 i53 i54 i59 i61 i64 i66 (nI t67) i76 i78, (ma 0, .inl (y 0, 1600, .inl (tby tx)))]) rfl ?_
              refine j_lv (lv' := [(3, .int (nI iz)), (2, .int (nI kz)), (0, .ref mo), (1, .ref wa)]) rfl ?_
              refine j_iload_n (pc := 76) C d_Model_isHere_76 rfl 0 rfl ?_
              refine j_aload_n (pc := 77) C d_Model_isHere_77 rfl 3 rfl ?_
              refine j_alen (pc := 78) C 0 3 rfl rfl (v := 7) rfl d_Model_isHere_78 ?_
              by_cases c60 : 7 ≤ iz
              · refine j_icmp_geT (pc := 79) C (tgt := 107) d_Model_isHere_79 (by decide) (show nI 7 ≤ nI iz from nI_le (by omega) (by omega)) ?_
                refine j_iconst (pc := 107) C (v := 1) d_Model_isHere_107 (by decide) ?_
                exact j_iret (pc := 108) C hr (by decide) u3 ⟨(show t2 ≤ u3 by omega), (show u3 ≤ t3 by omega), (fun _ => xh6), xh7, (Or.inr ⟨rfl, is_yes xh18 xh6 xh52 hvl (by omega) (fun j h => hw_ j (by omega)), by omega⟩)⟩ [1, 2, 0] rfl (by decide) (by decide) (by decide) d_Model_isHere_108
              · refine j_icmp_geF (pc := 79) C (tgt := 107) d_Model_isHere_79 (by decide) (show ¬ nI 7 ≤ nI iz from nI_ge (by omega) (by omega)) ?_
                refine j_aload_n (pc := 82) C d_Model_isHere_82 rfl 2 rfl ?_
                refine j_get (pc := 83) C gf_Model_7 1 rfl rfl d_Model_isHere_83 ?_
                refine j_aload_n (pc := 86) C d_Model_isHere_86 rfl 2 rfl ?_
                refine j_get (pc := 87) C gf_Model_207 1 rfl rfl d_Model_isHere_87 ?_
                refine j_iload_n (pc := 90) C d_Model_isHere_90 rfl 0 rfl ?_
                refine j_iadd (pc := 91) C (v := nI (u3 + iz)) d_Model_isHere_91 (nI_add _ _) ?_
                have hb61 : tx (u3 + iz) < 256 := hB (u3 + iz)
                refine j_iald (pc := 92) C 2 rfl (v := nI (tx (u3 + iz))) (vp_in_nI (by omega) (by decide)) (by rw [nI_clamp (by omega)]; rfl) d_Model_isHere_92 ?_
                refine j_aload_n (pc := 93) C d_Model_isHere_93 rfl 3 rfl ?_
                refine j_iload_n (pc := 94) C d_Model_isHere_94 rfl 0 rfl ?_
                have hb62 : wdv vw iz < 256 := wd_lt hv33 iz
                refine j_cald (pc := 95) C 0 rfl (v := nI (wdv vw iz)) (vp_in_nI (by omega) (by decide)) (by rw [nI_clamp (by omega)]; exact wd_ld hvl (by omega)) d_Model_isHere_95 ?_
                by_cases c63 : (tx (u3 + iz)) = (wdv vw iz)
                · refine j_icmp_eqT (pc := 96) C (tgt := 101) d_Model_isHere_96 (by decide) (show nI (tx (u3 + iz)) = nI (wdv vw iz) from (nI_eq (by omega) (by omega)).mpr (by omega)) ?_
                  refine j_iinc (pc := 101) C (v := nI (iz + 1)) (lv' := [(3, .int (nI (iz + 1))), (2, .int (nI kz)), (0, .ref mo), (1, .ref wa)]) d_Model_isHere_101 0 rfl (nI_add _ _) (by decide) rfl ?_
                  refine j_goto (pc := 104) C (tgt := 76) d_Model_isHere_104 (by decide) ?_
                  exact ih59 ((iz + 1)) ⟨(show (iz + 1) ≤ 7 by omega), (fun j h1 => by
                          by_cases e : j = iz
                          · rw [e]; omega
                          · exact hw_ j (by omega))⟩ (show 7 - (iz + 1) < 7 - iz by omega)
                · refine j_icmp_eqF (pc := 96) C (tgt := 101) d_Model_isHere_96 (by decide) (show ¬ nI (tx (u3 + iz)) = nI (wdv vw iz) from fun e => absurd ((nI_eq (by omega) (by omega)).mp e) (by omega)) ?_
                  refine j_iconst (pc := 99) C (v := 0) d_Model_isHere_99 (by decide) ?_
                  exact j_iret (pc := 100) C hr (by decide) u3 ⟨(show t2 ≤ u3 by omega), (show u3 ≤ t3 by omega), (fun _ => xh6), xh7, (Or.inl ⟨rfl, is_no2 (j := iz) xh6 xh52 (by omega) (hl_ _ (by omega) (by omega)) (by omega)⟩)⟩ [1, 2, 0] rfl (by decide) (by decide) (by decide) d_Model_isHere_100
            · refine j_icmp_eqF (pc := 69) C (tgt := 74) d_Model_isHere_69 (by decide) (show ¬ nI (kz - u3) = nI 7 from fun e => absurd ((nI_eq (by omega) (by omega)).mp e) (by omega)) ?_
              refine j_iconst (pc := 72) C (v := 0) d_Model_isHere_72 (by decide) ?_
              exact j_iret (pc := 73) C hr (by decide) u3 ⟨(show t2 ≤ u3 by omega), (show u3 ≤ t3 by omega), (fun _ => xh6), xh7, (Or.inl ⟨rfl, is_no1 xh6 xh52 hvl (by omega)⟩)⟩ [1, 2, 0] rfl (by decide) (by decide) (by decide) d_Model_isHere_73
          · refine j_icmp_geF (pc := 40) C (tgt := 61) d_Model_isHere_40 (by decide) (show ¬ nI t3 ≤ nI kz from nI_ge (by omega) (by omega)) ?_
            refine j_aload_n (pc := 43) C d_Model_isHere_43 rfl 1 rfl ?_
            refine j_get (pc := 44) C gf_Model_7 1 rfl rfl d_Model_isHere_44 ?_
            refine j_iload_n (pc := 47) C d_Model_isHere_47 rfl 0 rfl ?_
            have hb64 : tx kz < 256 := hB kz
            refine j_iald (pc := 48) C 2 rfl (v := nI (tx kz)) (vp_in_nI (by omega) (by decide)) (by rw [nI_clamp (by omega)]; rfl) d_Model_isHere_48 ?_
            refine j_callSi (pc := 49) C (c_M_isLetter_n l D y (tx kz) (by omega)) kw_Model_217 ks_Model_isLetter ⟨by decide, by decide⟩ ⟨by decide, by decide⟩ (wr := [(wa, .inl (y 3, 7, .inl (WD vw))), MB mo ma (nI t1) (nI u3) (nI t3) i4 i5 i6 i7 i8 i42 i49 i51 i53 i54 i59 i61 i64 i66 (nI t67) i76 i78, (ma 0, .inl (y 0, 1600, .inl (tby tx)))]) [] [0, 1, 2] rfl rfl (by decide) (by decide) (by decide) (As := [.int (nI (tx kz))]) (rest := []) rfl (nb rfl) rfl d_Model_isHere_49 (fun r65 _ hr65 => ?_)
            refine j_ws (ws' := [(wa, .inl (y 3, 7, .inl (WD vw))), MB mo ma (nI t1) (nI u3) (nI t3) i4 i5 i6 i7 i8 i42 i49 i51 i53 i54 i59 i61 i64 i66 (nI t67) i76 i78, (ma 0, .inl (y 0, 1600, .inl (tby tx)))]) rfl ?_
            rcases hr65 with ⟨rfl, xh67⟩ | ⟨rfl, xh68⟩
            · refine j_if_eqT (pc := 52) C (tgt := 61) d_Model_isHere_52 (by decide) (by decide) ?_
              have xh69 : kz = enS tx t3 gs := en_of xh18 (by decide) (by decide) xh6 hl_ (by omega) (fun h => absurd h.2 xh67) (by omega)
              refine j_iload_n (pc := 61) C d_Model_isHere_61 rfl 0 rfl ?_
              refine j_aload_n (pc := 62) C d_Model_isHere_62 rfl 1 rfl ?_
              refine j_get (pc := 63) C gf_Model_207 1 rfl rfl d_Model_isHere_63 ?_
              refine j_isub (pc := 66) C (v := nI (kz - u3)) d_Model_isHere_66 (pk_sub (by omega)) ?_
              refine j_aload_n (pc := 67) C d_Model_isHere_67 rfl 2 rfl ?_
              refine j_alen (pc := 68) C 0 3 rfl rfl (v := 7) rfl d_Model_isHere_68 ?_
              by_cases c70 : (kz - u3) = 7
              · refine j_icmp_eqT (pc := 69) C (tgt := 74) d_Model_isHere_69 (by decide) (show nI (kz - u3) = nI 7 from (nI_eq (by omega) (by omega)).mpr (by omega)) ?_
                refine j_iconst (pc := 74) C (v := 0) d_Model_isHere_74 (by decide) ?_
                refine j_istore_n (pc := 75) C (lv' := [(3, .int 0), (2, .int (nI kz)), (0, .ref mo), (1, .ref wa)]) d_Model_isHere_75 rfl (by decide) rfl ?_
                refine j_loop (α := Nat) (fun a => 7 - a) (fun a => (a ≤ 7) ∧ ((∀ j, j < a → tx (u3 + j) = wdv vw j))) (fun a => [(wa, .inl (y 3, 7, .inl (WD vw))), MB mo ma (nI t1) (nI u3) (nI t3) i4 i5 i6 i7 i8 i42 i49 i51 i53 i54 i59 i61 i64 i66 (nI t67) i76 i78, (ma 0, .inl (y 0, 1600, .inl (tby tx)))]) (fun a => [(3, .int (nI a)), (2, .int (nI kz)), (0, .ref mo), (1, .ref wa)]) (0) rfl rfl ⟨(show 0 ≤ 7 by omega), (fun j h1 => absurd h1 (by omega))⟩ ?_
                rintro iz hP75 ih76
                obtain ⟨hi__, hw__⟩ := hP75
                have hi_ : iz ≤ 7 := hi__
                have hw_ : (∀ j, j < iz → tx (u3 + j) = wdv vw j) := hw__
                refine j_ws (ws' := [(wa, .inl (y 3, 7, .inl (WD vw))), MB mo ma (nI t1) (nI u3) (nI t3) i4 i5 i6 i7 i8 i42 i49 i51 i53 i54 i59 i61 i64 i66 (nI t67) i76 i78, (ma 0, .inl (y 0, 1600, .inl (tby tx)))]) rfl ?_
                refine j_lv (lv' := [(3, .int (nI iz)), (2, .int (nI kz)), (0, .ref mo), (1, .ref wa)]) rfl ?_
                refine j_iload_n (pc := 76) C d_Model_isHere_76 rfl 0 rfl ?_
                refine j_aload_n (pc := 77) C d_Model_isHere_77 rfl 3 rfl ?_
                refine j_alen (pc := 78) C 0 3 rfl rfl (v := 7) rfl d_Model_isHere_78 ?_
                by_cases c77 : 7 ≤ iz
                · refine j_icmp_geT (pc := 79) C (tgt := 107) d_Model_isHere_79 (by decide) (show nI 7 ≤ nI iz from nI_le (by omega) (by omega)) ?_
                  refine j_iconst (pc := 107) C (v := 1) d_Model_isHere_107 (by decide) ?_
                  exact j_iret (pc := 108) C hr (by decide) u3 ⟨(show t2 ≤ u3 by omega), (show u3 ≤ t3 by omega), (fun _ => xh6), xh7, (Or.inr ⟨rfl, is_yes xh18 xh6 xh69 hvl (by omega) (fun j h => hw_ j (by omega)), by omega⟩)⟩ [1, 2, 0] rfl (by decide) (by decide) (by decide) d_Model_isHere_108
                · refine j_icmp_geF (pc := 79) C (tgt := 107) d_Model_isHere_79 (by decide) (show ¬ nI 7 ≤ nI iz from nI_ge (by omega) (by omega)) ?_
                  refine j_aload_n (pc := 82) C d_Model_isHere_82 rfl 2 rfl ?_
                  refine j_get (pc := 83) C gf_Model_7 1 rfl rfl d_Model_isHere_83 ?_
                  refine j_aload_n (pc := 86) C d_Model_isHere_86 rfl 2 rfl ?_
                  refine j_get (pc := 87) C gf_Model_207 1 rfl rfl d_Model_isHere_87 ?_
                  refine j_iload_n (pc := 90) C d_Model_isHere_90 rfl 0 rfl ?_
                  refine j_iadd (pc := 91) C (v := nI (u3 + iz)) d_Model_isHere_91 (nI_add _ _) ?_
                  have hb78 : tx (u3 + iz) < 256 := hB (u3 + iz)
                  refine j_iald (pc := 92) C 2 rfl (v := nI (tx (u3 + iz))) (vp_in_nI (by omega) (by decide)) (by rw [nI_clamp (by omega)]; rfl) d_Model_isHere_92 ?_
                  refine j_aload_n (pc := 93) C d_Model_isHere_93 rfl 3 rfl ?_
                  refine j_iload_n (pc := 94) C d_Model_isHere_94 rfl 0 rfl ?_
                  have hb79 : wdv vw iz < 256 := wd_lt hv33 iz
                  refine j_cald (pc := 95) C 0 rfl (v := nI (wdv vw iz)) (vp_in_nI (by omega) (by decide)) (by rw [nI_clamp (by omega)]; exact wd_ld hvl (by omega)) d_Model_isHere_95 ?_
                  by_cases c80 : (tx (u3 + iz)) = (wdv vw iz)
                  · refine j_icmp_eqT (pc := 96) C (tgt := 101) d_Model_isHere_96 (by decide) (show nI (tx (u3 + iz)) = nI (wdv vw iz) from (nI_eq (by omega) (by omega)).mpr (by omega)) ?_
                    refine j_iinc (pc := 101) C (v := nI (iz + 1)) (lv' := [(3, .int (nI (iz + 1))), (2, .int (nI kz)), (0, .ref mo), (1, .ref wa)]) d_Model_isHere_101 0 rfl (nI_add _ _) (by decide) rfl ?_
                    refine j_goto (pc := 104) C (tgt := 76) d_Model_isHere_104 (by decide) ?_
                    exact ih76 ((iz + 1)) ⟨(show (iz + 1) ≤ 7 by omega), (fun j h1 => by
                            by_cases e : j = iz
                            · rw [e]; omega
                            · exact hw_ j (by omega))⟩ (show 7 - (iz + 1) < 7 - iz by omega)
                  · refine j_icmp_eqF (pc := 96) C (tgt := 101) d_Model_isHere_96 (by decide) (show ¬ nI (tx (u3 + iz)) = nI (wdv vw iz) from fun e => absurd ((nI_eq (by omega) (by omega)).mp e) (by omega)) ?_
                    refine j_iconst (pc := 99) C (v := 0) d_Model_isHere_99 (by decide) ?_
                    exact j_iret (pc := 100) C hr (by decide) u3 ⟨(show t2 ≤ u3 by omega), (show u3 ≤ t3 by omega), (fun _ => xh6), xh7, (Or.inl ⟨rfl, is_no2 (j := iz) xh6 xh69 (by omega) (hl_ _ (by omega) (by omega)) (by omega)⟩)⟩ [1, 2, 0] rfl (by decide) (by decide) (by decide) d_Model_isHere_100
              · refine j_icmp_eqF (pc := 69) C (tgt := 74) d_Model_isHere_69 (by decide) (show ¬ nI (kz - u3) = nI 7 from fun e => absurd ((nI_eq (by omega) (by omega)).mp e) (by omega)) ?_
                refine j_iconst (pc := 72) C (v := 0) d_Model_isHere_72 (by decide) ?_
                exact j_iret (pc := 73) C hr (by decide) u3 ⟨(show t2 ≤ u3 by omega), (show u3 ≤ t3 by omega), (fun _ => xh6), xh7, (Or.inl ⟨rfl, is_no1 xh6 xh69 hvl (by omega)⟩)⟩ [1, 2, 0] rfl (by decide) (by decide) (by decide) d_Model_isHere_73
            · refine j_if_eqF (pc := 52) C (tgt := 61) d_Model_isHere_52 (by decide) (by decide) ?_
              refine j_iinc (pc := 55) C (v := nI (kz + 1)) (lv' := [(2, .int (nI (kz + 1))), (0, .ref mo), (1, .ref wa)]) d_Model_isHere_55 0 rfl (nI_add _ _) (by decide) rfl ?_
              refine j_goto (pc := 58) C (tgt := 35) d_Model_isHere_58 (by decide) ?_
              exact ih50 ((kz + 1)) ⟨(show (kz + 1) ≤ t3 by omega), (show u3 ≤ (kz + 1) by omega), (fun i h1 h2 => by
                      by_cases e : i = kz
                      · rw [e]; exact xh68
                      · exact hl_ i h1 (by omega))⟩ (show t3 - (kz + 1) < t3 - kz by omega)
        · refine j_iconst (pc := 28) C (v := 0) d_Model_isHere_28 (by decide) ?_
          exact j_iret (pc := 29) C hr (by decide) u3 ⟨(show t2 ≤ u3 by omega), (show u3 ≤ t3 by omega), (fun _ => xh6), xh7, (Or.inl ⟨rfl, is_no0 (s := 1) (rl_ad xh7 ((rr_z xh7).mp c1) he xh6 c17 (by decide) (by decide))⟩)⟩ [1, 2, 0] rfl (by decide) (by decide) (by decide) d_Model_isHere_29
set_option maxHeartbeats 4000000 in
set_option maxRecDepth 100000 in
theorem c_M_takes_7 (l : Launch) (D : va_G) (y : Nat → ClassId) (mo : Nat) (wa : Nat) (ma : Nat → Nat) (t1 : Nat) (t2 : Nat) (t3 : Nat) (i4 : Int32) (i5 : Int32) (i6 : Int32) (i7 : Int32) (i8 : Int32) (i42 : Int32) (i49 : Int32) (i51 : Int32) (i53 : Int32) (i54 : Int32) (i59 : Int32) (i61 : Int32) (i64 : Int32) (i66 : Int32) (t67 : Nat) (i76 : Int64) (i78 : Int32) (tx : Nat → Nat) (vw : Nat) (gs : PS) (ha : t2 ≤ t3) (he : t3 ≤ 1600) (hB : ∀ j, tx j < 256) (hx : RR tx t3 gs t2 i4 i5 i6) (hv33 : vw < 33) (hvl : (owf vw).length = 7) : CT l D y ⟨"NineBoardsModel", "takes", "([C)Z"⟩ prog_13_method_10_code 2 (some .boolean) ({ frames := 2, cells := 0, slots := 0, locals := 43 } : Room) [.ref mo, .ref wa] [MB mo ma (nI t1) (nI t2) (nI t3) i4 i5 i6 i7 i8 i42 i49 i51 i53 i54 i59 i61 i64 i66 (nI t67) i76 i78, (ma 0, .inl (y 0, 1600, .inl (tby tx))), (wa, .inl (y 3, 7, .inl (WD vw)))] (QI D [MB mo ma (nI t1) (nI t2) (nI t3) i4 i5 i6 i7 i8 i42 i49 i51 i53 i54 i59 i61 i64 i66 (nI t67) i76 i78, (ma 0, .inl (y 0, 1600, .inl (tby tx))), (wa, .inl (y 3, 7, .inl (WD vw)))] (fun (r : Int32) (u : Nat × Int32) => t2 ≤ u.1 ∧ u.1 ≤ t3 ∧ ((r = 0 ∧ RR tx t3 gs u.1 u.2 i5 i6 ∧ ¬ iswS tx t3 vw gs = true ∧ (i5 = 0 → u.1 = stS tx t3 gs)) ∨ (r = 1 ∧ RR tx t3 (advS tx t3 gs) u.1 u.2 i5 i6 ∧ iswS tx t3 vw gs = true ∧ t2 + 7 ≤ u.1))) (fun u => [MB mo ma (nI t1) (nI u.1) (nI t3) u.2 i5 i6 i7 i8 i42 i49 i51 i53 i54 i59 i61 i64 i66 (nI t67) i76 i78, (ma 0, .inl (y 0, 1600, .inl (tby tx))), (wa, .inl (y 3, 7, .inl (WD vw)))])) := by
  refine CT.of (by decide) (nb rfl) ?_
  intro p e s m args below meth c C hr
  refine j_lv (lv' := [(0, .ref mo), (1, .ref wa)]) rfl ?_
  refine j_aload_n (pc := 0) C d_Model_takes_0 rfl 0 rfl ?_
  refine j_aload_n (pc := 1) C d_Model_takes_1 rfl 1 rfl ?_
  refine j_callVi (pc := 2) C (c_M_isHere_7 l D y mo wa ma t1 t2 t3 i4 i5 i6 i7 i8 i42 i49 i51 i53 i54 i59 i61 i64 i66 t67 i76 i78 tx vw gs ha he hB hx hv33 hvl) kw_Model_224 kv_Model_isHere 0 10 rfl rfl ⟨by decide, by decide⟩ ⟨by decide, by decide⟩ (wr := []) [0, 1, 2] [] rfl rfl (by decide) (by decide) (by decide) (As := [.ref wa]) (rest := []) rfl (nb rfl) rfl d_Model_takes_2 (fun r1 u2 hr1 => ?_)
  refine j_ws (ws' := [MB mo ma (nI t1) (nI u2) (nI t3) i4 i5 i6 i7 i8 i42 i49 i51 i53 i54 i59 i61 i64 i66 (nI t67) i76 i78, (ma 0, .inl (y 0, 1600, .inl (tby tx))), (wa, .inl (y 3, 7, .inl (WD vw)))]) rfl ?_
  obtain ⟨xh3, xh4, xh5, xh6, xh7⟩ := hr1
  rcases xh7 with ⟨rfl, xh8⟩ | ⟨rfl, xh9, xh10⟩
  · refine j_if_neF (pc := 5) C (tgt := 10) d_Model_takes_5 (by decide) (by decide) ?_
    refine j_iconst (pc := 8) C (v := 0) d_Model_takes_8 (by decide) ?_
    exact j_iret (pc := 9) C hr (by decide) (u2, i4) ⟨(show t2 ≤ u2 by omega), (show u2 ≤ t3 by omega), (Or.inl ⟨rfl, xh6, xh8, xh5⟩)⟩ [0, 1, 2] rfl (by decide) (by decide) (by decide) d_Model_takes_9
  · refine j_if_neT (pc := 5) C (tgt := 10) d_Model_takes_5 (by decide) (by decide) ?_
    refine j_aload_n (pc := 10) C d_Model_takes_10 rfl 0 rfl ?_
    refine j_dup (pc := 11) C d_Model_takes_11 rfl ?_
    refine j_get (pc := 12) C gf_Model_207 0 rfl rfl d_Model_takes_12 ?_
    refine j_aload_n (pc := 15) C d_Model_takes_15 rfl 1 rfl ?_
    refine j_alen (pc := 16) C 2 3 rfl rfl (v := 7) rfl d_Model_takes_16 ?_
    refine j_iadd (pc := 17) C (v := nI (u2 + 7)) d_Model_takes_17 (nI_add _ _) ?_
    refine j_put (pc := 18) C pf_Model_207 0 (ws' := [MB mo ma (nI t1) (nI (u2 + 7)) (nI t3) i4 i5 i6 i7 i8 i42 i49 i51 i53 i54 i59 i61 i64 i66 (nI t67) i76 i78, (ma 0, .inl (y 0, 1600, .inl (tby tx))), (wa, .inl (y 3, 7, .inl (WD vw)))]) rfl rfl rfl (nl rfl) rfl d_Model_takes_18 ?_
    refine j_aload_n (pc := 21) C d_Model_takes_21 rfl 0 rfl ?_
    refine j_aload_n (pc := 22) C d_Model_takes_22 rfl 0 rfl ?_
    refine j_get (pc := 23) C gf_Model_207 0 rfl rfl d_Model_takes_23 ?_
    refine j_put (pc := 26) C pf_Model_221 0 (ws' := [MB mo ma (nI t1) (nI (u2 + 7)) (nI t3) (nI (u2 + 7)) i5 i6 i7 i8 i42 i49 i51 i53 i54 i59 i61 i64 i66 (nI t67) i76 i78, (ma 0, .inl (y 0, 1600, .inl (tby tx))), (wa, .inl (y 3, 7, .inl (WD vw)))]) rfl rfl rfl (nl rfl) rfl d_Model_takes_26 ?_
    have xh11 : RR tx t3 (advS tx t3 gs) (u2 + 7) (nI (u2 + 7)) i5 i6 := (rr_adv xh6 he (of_decide_eq_true xh9).1 (by decide) (show (u2 + 7) = enS tx t3 gs by omega) (Or.inr ⟨by decide, rfl⟩))
    refine j_iconst (pc := 29) C (v := 1) d_Model_takes_29 (by decide) ?_
    exact j_iret (pc := 30) C hr (by decide) ((u2 + 7), nI (u2 + 7)) ⟨(show t2 ≤ (u2 + 7) by omega), (show (u2 + 7) ≤ t3 by have := (en_end (of_decide_eq_true xh9).1 (by decide) (by decide)).1; omega), (Or.inr ⟨rfl, xh11, xh9, show t2 + 7 ≤ (u2 + 7) by omega⟩)⟩ [0, 1, 2] rfl (by decide) (by decide) (by decide) d_Model_takes_30
theorem d_Model_takesSign_0 : decode prog_13_method_12_code 0 = .ok (.aload_n 0, 1) := by decide +kernel
theorem d_Model_takesSign_1 : decode prog_13_method_12_code 1 = .ok (.getfield 201, 3) := by decide +kernel
theorem d_Model_takesSign_4 : decode prog_13_method_12_code 4 = .ok (.ifCond .ne 11, 3) := by decide +kernel
theorem d_Model_takesSign_15 : decode prog_13_method_12_code 15 = .ok (.iconst 0, 1) := by decide +kernel
theorem d_Model_takesSign_16 : decode prog_13_method_12_code 16 = .ok (.ireturn, 1) := by decide +kernel
theorem d_Model_takesSign_7 : decode prog_13_method_12_code 7 = .ok (.aload_n 0, 1) := by decide +kernel
theorem d_Model_takesSign_8 : decode prog_13_method_12_code 8 = .ok (.invokevirtual 213, 3) := by decide +kernel
theorem d_Model_takesSign_11 : decode prog_13_method_12_code 11 = .ok (.iload_n 1, 1) := by decide +kernel
theorem d_Model_takesSign_12 : decode prog_13_method_12_code 12 = .ok (.if_icmp .eq 5, 3) := by decide +kernel
theorem d_Model_takesSign_17 : decode prog_13_method_12_code 17 = .ok (.aload_n 0, 1) := by decide +kernel
theorem d_Model_takesSign_18 : decode prog_13_method_12_code 18 = .ok (.dup, 1) := by decide +kernel
theorem d_Model_takesSign_19 : decode prog_13_method_12_code 19 = .ok (.getfield 207, 3) := by decide +kernel
theorem d_Model_takesSign_22 : decode prog_13_method_12_code 22 = .ok (.iconst 1, 1) := by decide +kernel
theorem d_Model_takesSign_23 : decode prog_13_method_12_code 23 = .ok (.iadd, 1) := by decide +kernel
theorem d_Model_takesSign_24 : decode prog_13_method_12_code 24 = .ok (.putfield 207, 3) := by decide +kernel
theorem d_Model_takesSign_27 : decode prog_13_method_12_code 27 = .ok (.iconst 1, 1) := by decide +kernel
theorem d_Model_takesSign_28 : decode prog_13_method_12_code 28 = .ok (.ireturn, 1) := by decide +kernel
set_option maxHeartbeats 4000000 in
set_option maxRecDepth 100000 in
theorem c_M_takesSign (l : Launch) (D : va_G) (y : Nat → ClassId) (mo : Nat) (ma : Nat → Nat) (t1 : Nat) (t2 : Nat) (t3 : Nat) (i4 : Int32) (i5 : Int32) (i6 : Int32) (i7 : Int32) (i8 : Int32) (i42 : Int32) (i49 : Int32) (i51 : Int32) (i53 : Int32) (i54 : Int32) (i59 : Int32) (i61 : Int32) (i64 : Int32) (i66 : Int32) (t67 : Nat) (i76 : Int64) (i78 : Int32) (tx : Nat → Nat) (cv : Nat) (gs : PS) (ha : t2 ≤ t3) (he : t3 ≤ 1600) (hB : ∀ j, tx j < 256) (hx : RR tx t3 gs t2 i4 i5 i6) (h256 : cv < 256) (hs3 : srt cv = 3) : CT l D y ⟨"NineBoardsModel", "takesSign", "(I)Z"⟩ prog_13_method_12_code 2 (some .boolean) ({ frames := 1, cells := 0, slots := 0, locals := 20 } : Room) [.ref mo, .int (nI cv)] [MB mo ma (nI t1) (nI t2) (nI t3) i4 i5 i6 i7 i8 i42 i49 i51 i53 i54 i59 i61 i64 i66 (nI t67) i76 i78, (ma 0, .inl (y 0, 1600, .inl (tby tx)))] (QI D [MB mo ma (nI t1) (nI t2) (nI t3) i4 i5 i6 i7 i8 i42 i49 i51 i53 i54 i59 i61 i64 i66 (nI t67) i76 i78, (ma 0, .inl (y 0, 1600, .inl (tby tx)))] (fun (r : Int32) (u : Nat) => t2 ≤ u ∧ u ≤ t3 ∧ ((r = 0 ∧ RR tx t3 gs u i4 i5 i6 ∧ ¬ issS tx t3 cv gs = true ∧ (i5 = 0 → u = stS tx t3 gs)) ∨ (r = 1 ∧ RR tx t3 (advS tx t3 gs) u i4 i5 i6 ∧ issS tx t3 cv gs = true ∧ t2 < u ∧ u = u - 1 + 1 ∧ tx (u - 1) = cv))) (fun u => [MB mo ma (nI t1) (nI u) (nI t3) i4 i5 i6 i7 i8 i42 i49 i51 i53 i54 i59 i61 i64 i66 (nI t67) i76 i78, (ma 0, .inl (y 0, 1600, .inl (tby tx)))])) := by
  refine CT.of (by decide) (nb rfl) ?_
  intro p e s m args below meth c C hr
  refine j_lv (lv' := [(0, .ref mo), (1, .int (nI cv))]) rfl ?_
  refine j_aload_n (pc := 0) C d_Model_takesSign_0 rfl 0 rfl ?_
  refine j_get (pc := 1) C gf_Model_201 0 rfl rfl d_Model_takesSign_1 ?_
  refine j_if_ne (pc := 4) C (tgt := 15) d_Model_takesSign_4 (by decide) (fun c1 => ?_) (fun c1 => ?_)
  · refine j_iconst (pc := 15) C (v := 0) d_Model_takesSign_15 (by decide) ?_
    exact j_iret (pc := 16) C hr (by decide) t2 ⟨(show t2 ≤ t2 by omega), (show t2 ≤ t3 by omega), (Or.inl ⟨rfl, hx, hs_dead hx c1, fun e => absurd e c1⟩)⟩ [0, 1] rfl (by decide) (by decide) (by decide) d_Model_takesSign_16
  · refine j_aload_n (pc := 7) C d_Model_takesSign_7 rfl 0 rfl ?_
    refine j_callVi (pc := 8) C (c_M_look l D y mo ma t1 t2 t3 i4 i5 i6 i7 i8 i42 i49 i51 i53 i54 i59 i61 i64 i66 t67 i76 i78 tx gs ha he hB hx c1) kw_Model_213 kv_Model_look 0 10 rfl rfl ⟨by decide, by decide⟩ ⟨by decide, by decide⟩ (wr := []) [0, 1] [] rfl rfl (by decide) (by decide) (by decide) (As := []) (rest := []) rfl (nb rfl) rfl d_Model_takesSign_8 (fun r2 u3 hr2 => ?_)
    refine j_ws (ws' := [MB mo ma (nI t1) (nI u3) (nI t3) i4 i5 i6 i7 i8 i42 i49 i51 i53 i54 i59 i61 i64 i66 (nI t67) i76 i78, (ma 0, .inl (y 0, 1600, .inl (tby tx)))]) rfl ?_
    obtain ⟨xh4, xh5, xh6, xh7, xh8⟩ := hr2
    rcases xh8 with ⟨rfl, xh9⟩ | ⟨rfl, xh10⟩
    · refine j_iload_n (pc := 11) C d_Model_takesSign_11 rfl 1 rfl ?_
      refine j_icmp_eqF (pc := 12) C (tgt := 17) d_Model_takesSign_12 (by decide) (fun e => nI_nm1 (n := cv) (by omega) e.symm) ?_
      refine j_iconst (pc := 15) C (v := 0) d_Model_takesSign_15 (by decide) ?_
      exact j_iret (pc := 16) C hr (by decide) u3 ⟨(show t2 ≤ u3 by omega), (show u3 ≤ t3 by omega), (Or.inl ⟨rfl, xh7, (sg_no1 ((rr_z xh7).mp c1) xh6 xh9), fun _ => xh6⟩)⟩ [0, 1] rfl (by decide) (by decide) (by decide) d_Model_takesSign_16
    · have hb11 : tx u3 < 256 := hB u3
      refine j_iload_n (pc := 11) C d_Model_takesSign_11 rfl 1 rfl ?_
      by_cases c12 : (tx u3) = cv
      · refine j_icmp_eqT (pc := 12) C (tgt := 17) d_Model_takesSign_12 (by decide) (show nI (tx u3) = nI cv from (nI_eq (by omega) (by omega)).mpr (by omega)) ?_
        have xh13 := sg_yes ((rr_z xh7).mp c1) xh6 xh10 (show tx u3 = cv by omega) hs3
        refine j_aload_n (pc := 17) C d_Model_takesSign_17 rfl 0 rfl ?_
        refine j_dup (pc := 18) C d_Model_takesSign_18 rfl ?_
        refine j_get (pc := 19) C gf_Model_207 0 rfl rfl d_Model_takesSign_19 ?_
        refine j_iconst (pc := 22) C (v := 1) d_Model_takesSign_22 (by decide) ?_
        refine j_iadd (pc := 23) C (v := nI (u3 + 1)) d_Model_takesSign_23 (nI_add _ _) ?_
        refine j_put (pc := 24) C pf_Model_207 0 (ws' := [MB mo ma (nI t1) (nI (u3 + 1)) (nI t3) i4 i5 i6 i7 i8 i42 i49 i51 i53 i54 i59 i61 i64 i66 (nI t67) i76 i78, (ma 0, .inl (y 0, 1600, .inl (tby tx)))]) rfl rfl rfl (nl rfl) rfl d_Model_takesSign_24 ?_
        have xh14 : RR tx t3 (advS tx t3 gs) (u3 + 1) i4 i5 i6 := (rr_adv xh7 he xh13.2.2 (by decide) xh13.2.1 (Or.inl ⟨rfl, rfl⟩))
        refine j_iconst (pc := 27) C (v := 1) d_Model_takesSign_27 (by decide) ?_
        exact j_iret (pc := 28) C hr (by decide) (u3 + 1) ⟨(show t2 ≤ (u3 + 1) by omega), (show (u3 + 1) ≤ t3 by omega), (Or.inr ⟨rfl, xh14, xh13.1, show t2 < (u3 + 1) by omega, show (u3 + 1) = (u3 + 1) - 1 + 1 by omega, show tx ((u3 + 1) - 1) = cv by rw [show (u3 + 1) - 1 = u3 by omega]; omega⟩)⟩ [0, 1] rfl (by decide) (by decide) (by decide) d_Model_takesSign_28
      · refine j_icmp_eqF (pc := 12) C (tgt := 17) d_Model_takesSign_12 (by decide) (show ¬ nI (tx u3) = nI cv from fun e => absurd ((nI_eq (by omega) (by omega)).mp e) (by omega)) ?_
        refine j_iconst (pc := 15) C (v := 0) d_Model_takesSign_15 (by decide) ?_
        exact j_iret (pc := 16) C hr (by decide) u3 ⟨(show t2 ≤ u3 by omega), (show u3 ≤ t3 by omega), (Or.inl ⟨rfl, xh7, (sg_no2 xh6 (by omega)), fun _ => xh6⟩)⟩ [0, 1] rfl (by decide) (by decide) (by decide) d_Model_takesSign_16
theorem d_Model_asksSign_0 : decode prog_13_method_13_code 0 = .ok (.aload_n 0, 1) := by decide +kernel
theorem d_Model_asksSign_1 : decode prog_13_method_13_code 1 = .ok (.getfield 201, 3) := by decide +kernel
theorem d_Model_asksSign_4 : decode prog_13_method_13_code 4 = .ok (.ifCond .ne 20, 3) := by decide +kernel
theorem d_Model_asksSign_24 : decode prog_13_method_13_code 24 = .ok (.return_, 1) := by decide +kernel
theorem d_Model_asksSign_7 : decode prog_13_method_13_code 7 = .ok (.aload_n 0, 1) := by decide +kernel
theorem d_Model_asksSign_8 : decode prog_13_method_13_code 8 = .ok (.iload_n 1, 1) := by decide +kernel
theorem d_Model_asksSign_9 : decode prog_13_method_13_code 9 = .ok (.invokevirtual 234, 3) := by decide +kernel
theorem kw_Model_234 : KW "NineBoardsModel" 234 ⟨"NineBoardsModel", "takesSign", "(I)Z"⟩ prog_13_method_12_code 2 (some .boolean) 1 := ⟨(mt_6 (List.mem_of_getElem? (i := 141) rfl) rfl), (mt_1 (List.mem_of_getElem? (i := 16) rfl) rfl), (mt_6 (List.mem_of_getElem? (i := 144) rfl) rfl), by decide +kernel⟩
theorem kv_Model_takesSign : Cond.instanceMethod ⟨"NineBoardsModel", "takesSign", "(I)Z"⟩ ∈ TB ∧ Cond.selects "NineBoardsModel" ⟨"NineBoardsModel", "takesSign", "(I)Z"⟩ ⟨"NineBoardsModel", "takesSign", "(I)Z"⟩ ∈ TB := ⟨(mt_6 (List.mem_of_getElem? (i := 143) rfl) rfl), (ms_0 (List.mem_map.mpr ⟨(⟨"NineBoardsModel", "takesSign", "(I)Z"⟩, 79), List.mem_of_getElem? (i := 57) (by decide +kernel), rfl⟩) rfl)⟩
theorem d_Model_asksSign_12 : decode prog_13_method_13_code 12 = .ok (.ifCond .ne 12, 3) := by decide +kernel
theorem d_Model_asksSign_15 : decode prog_13_method_13_code 15 = .ok (.aload_n 0, 1) := by decide +kernel
theorem d_Model_asksSign_16 : decode prog_13_method_13_code 16 = .ok (.iconst 1, 1) := by decide +kernel
theorem d_Model_asksSign_17 : decode prog_13_method_13_code 17 = .ok (.aload_n 0, 1) := by decide +kernel
theorem d_Model_asksSign_18 : decode prog_13_method_13_code 18 = .ok (.getfield 207, 3) := by decide +kernel
theorem d_Model_asksSign_21 : decode prog_13_method_13_code 21 = .ok (.invokevirtual 230, 3) := by decide +kernel
set_option maxHeartbeats 4000000 in
set_option maxRecDepth 100000 in
theorem c_M_asksSign (l : Launch) (D : va_G) (y : Nat → ClassId) (mo : Nat) (ma : Nat → Nat) (t1 : Nat) (t2 : Nat) (t3 : Nat) (i4 : Int32) (i5 : Int32) (i6 : Int32) (i7 : Int32) (i8 : Int32) (i42 : Int32) (i49 : Int32) (i51 : Int32) (i53 : Int32) (i54 : Int32) (i59 : Int32) (i61 : Int32) (i64 : Int32) (i66 : Int32) (t67 : Nat) (i76 : Int64) (i78 : Int32) (tx : Nat → Nat) (cv : Nat) (gs : PS) (ha : t2 ≤ t3) (he : t3 ≤ 1600) (hB : ∀ j, tx j < 256) (hx : RR tx t3 gs t2 i4 i5 i6) (h256 : cv < 256) (hs3 : srt cv = 3) : CT l D y ⟨"NineBoardsModel", "asksSign", "(I)V"⟩ prog_13_method_13_code 2 none ({ frames := 2, cells := 0, slots := 0, locals := 41 } : Room) [.ref mo, .int (nI cv)] [MB mo ma (nI t1) (nI t2) (nI t3) i4 i5 i6 i7 i8 i42 i49 i51 i53 i54 i59 i61 i64 i66 (nI t67) i76 i78, (ma 0, .inl (y 0, 1600, .inl (tby tx)))] (QV D [MB mo ma (nI t1) (nI t2) (nI t3) i4 i5 i6 i7 i8 i42 i49 i51 i53 i54 i59 i61 i64 i66 (nI t67) i76 i78, (ma 0, .inl (y 0, 1600, .inl (tby tx)))] (fun (u : Nat × Int32 × Int32) => t2 ≤ u.1 ∧ u.1 ≤ t3 ∧ (u.2.1 = 0 → i5 = 0 ∧ t2 < u.1) ∧ RR tx t3 (rsS tx t3 cv gs) u.1 i4 u.2.1 u.2.2) (fun u => [MB mo ma (nI t1) (nI u.1) (nI t3) i4 u.2.1 u.2.2 i7 i8 i42 i49 i51 i53 i54 i59 i61 i64 i66 (nI t67) i76 i78, (ma 0, .inl (y 0, 1600, .inl (tby tx)))])) := by
  refine CT.of (by decide) (nb rfl) ?_
  intro p e s m args below meth c C hr
  refine j_lv (lv' := [(0, .ref mo), (1, .int (nI cv))]) rfl ?_
  refine j_aload_n (pc := 0) C d_Model_asksSign_0 rfl 0 rfl ?_
  refine j_get (pc := 1) C gf_Model_201 0 rfl rfl d_Model_asksSign_1 ?_
  refine j_if_ne (pc := 4) C (tgt := 24) d_Model_asksSign_4 (by decide) (fun c1 => ?_) (fun c1 => ?_)
  · exact j_vret (pc := 24) C hr (t2, i5, i6) ⟨(show t2 ≤ t2 by omega), (show t2 ≤ t3 by omega), (fun e => absurd e c1), (rr_of hx (rs_d (fun e => c1 ((rr_z hx).mpr e))))⟩ [0, 1] rfl (by decide) (by decide) (by decide) d_Model_asksSign_24
  · refine j_aload_n (pc := 7) C d_Model_asksSign_7 rfl 0 rfl ?_
    refine j_iload_n (pc := 8) C d_Model_asksSign_8 rfl 1 rfl ?_
    refine j_callVi (pc := 9) C (c_M_takesSign l D y mo ma t1 t2 t3 i4 i5 i6 i7 i8 i42 i49 i51 i53 i54 i59 i61 i64 i66 t67 i76 i78 tx cv gs ha he hB hx h256 hs3) kw_Model_234 kv_Model_takesSign 0 10 rfl rfl ⟨by decide, by decide⟩ ⟨by decide, by decide⟩ (wr := []) [0, 1] [] rfl rfl (by decide) (by decide) (by decide) (As := [.int (nI cv)]) (rest := []) rfl (nb rfl) rfl d_Model_asksSign_9 (fun r2 u3 hr2 => ?_)
    refine j_ws (ws' := [MB mo ma (nI t1) (nI u3) (nI t3) i4 i5 i6 i7 i8 i42 i49 i51 i53 i54 i59 i61 i64 i66 (nI t67) i76 i78, (ma 0, .inl (y 0, 1600, .inl (tby tx)))]) rfl ?_
    obtain ⟨xh4, xh5, xh6⟩ := hr2
    rcases xh6 with ⟨rfl, xh7, xh8, xh9⟩ | ⟨rfl, xh10, xh11, xh12, xh13, xh14⟩
    · refine j_if_neF (pc := 12) C (tgt := 24) d_Model_asksSign_12 (by decide) (by decide) ?_
      refine j_aload_n (pc := 15) C d_Model_asksSign_15 rfl 0 rfl ?_
      refine j_iconst (pc := 16) C (v := 1) d_Model_asksSign_16 (by decide) ?_
      refine j_aload_n (pc := 17) C d_Model_asksSign_17 rfl 0 rfl ?_
      refine j_get (pc := 18) C gf_Model_207 0 rfl rfl d_Model_asksSign_18 ?_
      refine j_callVv (pc := 21) C (c_M_fail_1 l D y mo ma t1 u3 t3 i4 i5 i6 i7 i8 i42 i49 i51 i53 i54 i59 i61 i64 i66 t67 i76 i78 u3 gs tx ((rr_z xh7).mp c1) (by omega) c1) kw_Model_230 kv_Model_fail 0 10 rfl rfl ⟨by decide, by decide⟩ ⟨by decide, by decide⟩ (wr := [(ma 0, .inl (y 0, 1600, .inl (tby tx)))]) [0] [1] rfl rfl (by decide) (by decide) (by decide) (As := [.int 1, .int (nI u3)]) (rest := []) rfl (nb rfl) rfl d_Model_asksSign_21 (fun u15 hu16 => ?_)
      obtain ⟨xh17, xh18⟩ := hu16
      refine j_ws (ws' := [(ma 0, .inl (y 0, 1600, .inl (tby tx))), MB mo ma (nI t1) (nI u3) (nI t3) i4 u15.1 u15.2 i7 i8 i42 i49 i51 i53 i54 i59 i61 i64 i66 (nI t67) i76 i78]) rfl ?_
      exact j_vret (pc := 24) C hr (u3, u15.1, u15.2) ⟨(show t2 ≤ u3 by omega), (show u3 ≤ t3 by omega), (fun e => absurd e xh17), (rr_of xh18 (by rw [xh9 c1]; exact if_neg xh8))⟩ [1, 0] rfl (by decide) (by decide) (by decide) d_Model_asksSign_24
    · refine j_if_neT (pc := 12) C (tgt := 24) d_Model_asksSign_12 (by decide) (by decide) ?_
      exact j_vret (pc := 24) C hr (u3, i5, i6) ⟨(show t2 ≤ u3 by omega), (show u3 ≤ t3 by omega), (fun e => by exact ⟨e, by omega⟩), (rr_of xh10 (if_pos xh11))⟩ [0, 1] rfl (by decide) (by decide) (by decide) d_Model_asksSign_24
set_option maxHeartbeats 4000000 in
set_option maxRecDepth 100000 in
theorem c_M_isIn_n (l : Launch) (D : va_G) (y : Nat → ClassId) (vw : Nat) (lo : Nat) (hi : Nat) (hv9 : vw ≤ 9999) (hz9 : lo ≤ 9999) (hz8 : hi ≤ 9999) : CT l D y ⟨"NineBoardsModel", "isIn", "(JJJ)Z"⟩ prog_13_method_2_code 6 (some .boolean) ({ frames := 0, cells := 0, slots := 0, locals := 0 } : Room) [.long ((nI vw).toInt64), .long ((nI lo).toInt64), .long ((nI hi).toInt64)] [] (QI D [] (fun (r : Int32) (u : Unit) => ((r = 0 ∧ (vw < lo ∨ hi < vw)) ∨ (r = 1 ∧ ¬ (vw < lo ∨ hi < vw)))) (fun _ => [])) := by
  refine CT.of (by decide) (nb rfl) ?_
  intro p e s m args below meth c C hr
  refine j_lv (lv' := [(0, .long ((nI vw).toInt64)), (2, .long ((nI lo).toInt64)), (4, .long ((nI hi).toInt64))]) rfl ?_
  refine j_lload_n (pc := 0) C d_Model_isIn_0 rfl 0 rfl ?_
  refine j_lload_n (pc := 1) C d_Model_isIn_1 rfl 1 rfl ?_
  refine j_lcmp (pc := 2) C (v := lg_cmp ((nI vw).toInt64) ((nI lo).toInt64)) d_Model_isIn_2 rfl ?_
  refine j_if_lt (pc := 3) C (tgt := 17) d_Model_isIn_3 (by decide) (fun c1 => ?_) (fun c1 => ?_)
  · refine j_iconst (pc := 17) C (v := 0) d_Model_isIn_17 (by decide) ?_
    exact j_iret (pc := 18) C hr (by decide) () (by simp only [lg_cmp_lt, lg_cmp_gt, Int64.lt_iff_toInt_lt, Int32.toInt_toInt64, nI_toInt (show vw < 2 ^ 31 by omega), nI_toInt (show lo < 2 ^ 31 by omega), nI_toInt (show hi < 2 ^ 31 by omega)] at c1; exact Or.inl ⟨rfl, by omega⟩) [] rfl (by decide) (by decide) (by decide) d_Model_isIn_18
  · refine j_lload_n (pc := 6) C d_Model_isIn_6 rfl 0 rfl ?_
    refine j_lload (pc := 7) C d_Model_isIn_7 2 rfl ?_
    refine j_lcmp (pc := 9) C (v := lg_cmp ((nI vw).toInt64) ((nI hi).toInt64)) d_Model_isIn_9 rfl ?_
    refine j_if_gt (pc := 10) C (tgt := 17) d_Model_isIn_10 (by decide) (fun c2 => ?_) (fun c2 => ?_)
    · refine j_iconst (pc := 17) C (v := 0) d_Model_isIn_17 (by decide) ?_
      exact j_iret (pc := 18) C hr (by decide) () (by simp only [lg_cmp_lt, lg_cmp_gt, Int64.lt_iff_toInt_lt, Int32.toInt_toInt64, nI_toInt (show vw < 2 ^ 31 by omega), nI_toInt (show lo < 2 ^ 31 by omega), nI_toInt (show hi < 2 ^ 31 by omega)] at c1 c2; exact Or.inl ⟨rfl, by omega⟩) [] rfl (by decide) (by decide) (by decide) d_Model_isIn_18
    · refine j_iconst (pc := 13) C (v := 1) d_Model_isIn_13 (by decide) ?_
      refine j_goto (pc := 14) C (tgt := 18) d_Model_isIn_14 (by decide) ?_
      exact j_iret (pc := 18) C hr (by decide) () (by simp only [lg_cmp_lt, lg_cmp_gt, Int64.lt_iff_toInt_lt, Int32.toInt_toInt64, nI_toInt (show vw < 2 ^ 31 by omega), nI_toInt (show lo < 2 ^ 31 by omega), nI_toInt (show hi < 2 ^ 31 by omega)] at c1 c2; exact Or.inr ⟨rfl, by omega⟩) [] rfl (by decide) (by decide) (by decide) d_Model_isIn_18
theorem d_Model_number_0 : decode prog_13_method_14_code 0 = .ok (.aload_n 0, 1) := by decide +kernel
theorem d_Model_number_1 : decode prog_13_method_14_code 1 = .ok (.getfield 201, 3) := by decide +kernel
theorem d_Model_number_4 : decode prog_13_method_14_code 4 = .ok (.ifCond .eq 5, 3) := by decide +kernel
theorem d_Model_number_9 : decode prog_13_method_14_code 9 = .ok (.aload_n 0, 1) := by decide +kernel
theorem d_Model_number_10 : decode prog_13_method_14_code 10 = .ok (.invokevirtual 213, 3) := by decide +kernel
theorem d_Model_number_13 : decode prog_13_method_14_code 13 = .ok (.invokestatic 237, 3) := by decide +kernel
theorem kw_Model_237 : KW "NineBoardsModel" 237 ⟨"NineBoardsModel", "isDigit", "(I)Z"⟩ prog_13_method_7_code 1 (some .boolean) 1 := ⟨(mt_6 (List.mem_of_getElem? (i := 131) rfl) rfl), (mt_1 (List.mem_of_getElem? (i := 16) rfl) rfl), (mt_6 (List.mem_of_getElem? (i := 133) rfl) rfl), by decide +kernel⟩
theorem ks_Model_isDigit : Cond.static ⟨"NineBoardsModel", "isDigit", "(I)Z"⟩ ∈ TB := (mt_6 (List.mem_of_getElem? (i := 132) rfl) rfl)
theorem d_Model_number_16 : decode prog_13_method_14_code 16 = .ok (.ifCond .eq 14, 3) := by decide +kernel
theorem d_Model_number_30 : decode prog_13_method_14_code 30 = .ok (.aload_n 0, 1) := by decide +kernel
theorem d_Model_number_31 : decode prog_13_method_14_code 31 = .ok (.iconst 1, 1) := by decide +kernel
theorem d_Model_number_32 : decode prog_13_method_14_code 32 = .ok (.aload_n 0, 1) := by decide +kernel
theorem d_Model_number_33 : decode prog_13_method_14_code 33 = .ok (.getfield 207, 3) := by decide +kernel
theorem d_Model_number_36 : decode prog_13_method_14_code 36 = .ok (.invokevirtual 230, 3) := by decide +kernel
theorem d_Model_number_39 : decode prog_13_method_14_code 39 = .ok (.iconst 0, 1) := by decide +kernel
theorem d_Model_number_40 : decode prog_13_method_14_code 40 = .ok (.ireturn, 1) := by decide +kernel
theorem d_Model_number_19 : decode prog_13_method_14_code 19 = .ok (.aload_n 0, 1) := by decide +kernel
theorem d_Model_number_20 : decode prog_13_method_14_code 20 = .ok (.getfield 207, 3) := by decide +kernel
theorem d_Model_number_23 : decode prog_13_method_14_code 23 = .ok (.aload_n 0, 1) := by decide +kernel
theorem d_Model_number_24 : decode prog_13_method_14_code 24 = .ok (.getfield 221, 3) := by decide +kernel
theorem d_Model_number_27 : decode prog_13_method_14_code 27 = .ok (.if_icmp .ne 14, 3) := by decide +kernel
theorem d_Model_number_41 : decode prog_13_method_14_code 41 = .ok (.aload_n 0, 1) := by decide +kernel
theorem d_Model_number_42 : decode prog_13_method_14_code 42 = .ok (.getfield 207, 3) := by decide +kernel
theorem d_Model_number_45 : decode prog_13_method_14_code 45 = .ok (.istore_n 3, 1) := by decide +kernel
theorem d_Model_number_46 : decode prog_13_method_14_code 46 = .ok (.iconst 0, 1) := by decide +kernel
theorem d_Model_number_47 : decode prog_13_method_14_code 47 = .ok (.istore 4, 2) := by decide +kernel
theorem d_Model_number_49 : decode prog_13_method_14_code 49 = .ok (.aload_n 0, 1) := by decide +kernel
theorem d_Model_number_50 : decode prog_13_method_14_code 50 = .ok (.getfield 207, 3) := by decide +kernel
theorem d_Model_number_53 : decode prog_13_method_14_code 53 = .ok (.aload_n 0, 1) := by decide +kernel
theorem d_Model_number_54 : decode prog_13_method_14_code 54 = .ok (.getfield 210, 3) := by decide +kernel
theorem d_Model_number_57 : decode prog_13_method_14_code 57 = .ok (.if_icmp .ge 72, 3) := by decide +kernel
theorem d_Model_number_129 : decode prog_13_method_14_code 129 = .ok (.aload_n 0, 1) := by decide +kernel
theorem d_Model_number_130 : decode prog_13_method_14_code 130 = .ok (.aload_n 0, 1) := by decide +kernel
theorem d_Model_number_131 : decode prog_13_method_14_code 131 = .ok (.getfield 207, 3) := by decide +kernel
theorem d_Model_number_134 : decode prog_13_method_14_code 134 = .ok (.putfield 221, 3) := by decide +kernel
theorem d_Model_number_137 : decode prog_13_method_14_code 137 = .ok (.iload 4, 2) := by decide +kernel
theorem d_Model_number_139 : decode prog_13_method_14_code 139 = .ok (.i2l, 1) := by decide +kernel
theorem d_Model_number_140 : decode prog_13_method_14_code 140 = .ok (.iload_n 1, 1) := by decide +kernel
theorem d_Model_number_141 : decode prog_13_method_14_code 141 = .ok (.i2l, 1) := by decide +kernel
theorem d_Model_number_142 : decode prog_13_method_14_code 142 = .ok (.iload_n 2, 1) := by decide +kernel
theorem d_Model_number_143 : decode prog_13_method_14_code 143 = .ok (.i2l, 1) := by decide +kernel
theorem d_Model_number_144 : decode prog_13_method_14_code 144 = .ok (.invokestatic 240, 3) := by decide +kernel
theorem d_Model_number_147 : decode prog_13_method_14_code 147 = .ok (.ifCond .ne 9, 3) := by decide +kernel
theorem d_Model_number_150 : decode prog_13_method_14_code 150 = .ok (.aload_n 0, 1) := by decide +kernel
theorem d_Model_number_151 : decode prog_13_method_14_code 151 = .ok (.iconst 2, 1) := by decide +kernel
theorem d_Model_number_152 : decode prog_13_method_14_code 152 = .ok (.iload_n 3, 1) := by decide +kernel
theorem d_Model_number_153 : decode prog_13_method_14_code 153 = .ok (.invokevirtual 230, 3) := by decide +kernel
theorem d_Model_number_156 : decode prog_13_method_14_code 156 = .ok (.iload 4, 2) := by decide +kernel
theorem d_Model_number_158 : decode prog_13_method_14_code 158 = .ok (.ireturn, 1) := by decide +kernel
theorem d_Model_number_60 : decode prog_13_method_14_code 60 = .ok (.aload_n 0, 1) := by decide +kernel
theorem d_Model_number_61 : decode prog_13_method_14_code 61 = .ok (.getfield 7, 3) := by decide +kernel
theorem d_Model_number_64 : decode prog_13_method_14_code 64 = .ok (.aload_n 0, 1) := by decide +kernel
theorem d_Model_number_65 : decode prog_13_method_14_code 65 = .ok (.getfield 207, 3) := by decide +kernel
theorem d_Model_number_68 : decode prog_13_method_14_code 68 = .ok (.iaload, 1) := by decide +kernel
theorem d_Model_number_69 : decode prog_13_method_14_code 69 = .ok (.invokestatic 237, 3) := by decide +kernel
theorem d_Model_number_72 : decode prog_13_method_14_code 72 = .ok (.ifCond .eq 57, 3) := by decide +kernel
theorem d_Model_number_75 : decode prog_13_method_14_code 75 = .ok (.aload_n 0, 1) := by decide +kernel
theorem d_Model_number_76 : decode prog_13_method_14_code 76 = .ok (.getfield 207, 3) := by decide +kernel
theorem d_Model_number_79 : decode prog_13_method_14_code 79 = .ok (.iload_n 3, 1) := by decide +kernel
theorem d_Model_number_80 : decode prog_13_method_14_code 80 = .ok (.isub, 1) := by decide +kernel
theorem d_Model_number_81 : decode prog_13_method_14_code 81 = .ok (.iconst 4, 1) := by decide +kernel
theorem d_Model_number_82 : decode prog_13_method_14_code 82 = .ok (.if_icmp .ne 14, 3) := by decide +kernel
theorem d_Model_number_96 : decode prog_13_method_14_code 96 = .ok (.bipush 10, 2) := by decide +kernel
theorem d_Model_number_98 : decode prog_13_method_14_code 98 = .ok (.iload 4, 2) := by decide +kernel
theorem d_Model_number_100 : decode prog_13_method_14_code 100 = .ok (.imul, 1) := by decide +kernel
theorem d_Model_number_101 : decode prog_13_method_14_code 101 = .ok (.aload_n 0, 1) := by decide +kernel
theorem d_Model_number_102 : decode prog_13_method_14_code 102 = .ok (.getfield 7, 3) := by decide +kernel
theorem d_Model_number_105 : decode prog_13_method_14_code 105 = .ok (.aload_n 0, 1) := by decide +kernel
theorem d_Model_number_106 : decode prog_13_method_14_code 106 = .ok (.getfield 207, 3) := by decide +kernel
theorem d_Model_number_109 : decode prog_13_method_14_code 109 = .ok (.iaload, 1) := by decide +kernel
theorem d_Model_number_110 : decode prog_13_method_14_code 110 = .ok (.iadd, 1) := by decide +kernel
theorem d_Model_number_111 : decode prog_13_method_14_code 111 = .ok (.bipush 48, 2) := by decide +kernel
theorem d_Model_number_113 : decode prog_13_method_14_code 113 = .ok (.isub, 1) := by decide +kernel
theorem d_Model_number_114 : decode prog_13_method_14_code 114 = .ok (.istore 4, 2) := by decide +kernel
theorem d_Model_number_116 : decode prog_13_method_14_code 116 = .ok (.aload_n 0, 1) := by decide +kernel
theorem d_Model_number_117 : decode prog_13_method_14_code 117 = .ok (.dup, 1) := by decide +kernel
theorem d_Model_number_118 : decode prog_13_method_14_code 118 = .ok (.getfield 207, 3) := by decide +kernel
theorem d_Model_number_121 : decode prog_13_method_14_code 121 = .ok (.iconst 1, 1) := by decide +kernel
theorem d_Model_number_122 : decode prog_13_method_14_code 122 = .ok (.iadd, 1) := by decide +kernel
theorem d_Model_number_123 : decode prog_13_method_14_code 123 = .ok (.putfield 207, 3) := by decide +kernel
theorem d_Model_number_126 : decode prog_13_method_14_code 126 = .ok (.goto (-77), 3) := by decide +kernel
theorem d_Model_number_85 : decode prog_13_method_14_code 85 = .ok (.aload_n 0, 1) := by decide +kernel
theorem d_Model_number_86 : decode prog_13_method_14_code 86 = .ok (.iconst 1, 1) := by decide +kernel
theorem d_Model_number_87 : decode prog_13_method_14_code 87 = .ok (.aload_n 0, 1) := by decide +kernel
theorem d_Model_number_88 : decode prog_13_method_14_code 88 = .ok (.getfield 207, 3) := by decide +kernel
theorem d_Model_number_91 : decode prog_13_method_14_code 91 = .ok (.invokevirtual 230, 3) := by decide +kernel
theorem d_Model_number_94 : decode prog_13_method_14_code 94 = .ok (.iconst 0, 1) := by decide +kernel
theorem d_Model_number_95 : decode prog_13_method_14_code 95 = .ok (.ireturn, 1) := by decide +kernel
theorem d_Model_number_7 : decode prog_13_method_14_code 7 = .ok (.iconst 0, 1) := by decide +kernel
theorem d_Model_number_8 : decode prog_13_method_14_code 8 = .ok (.ireturn, 1) := by decide +kernel
set_option maxHeartbeats 4000000 in
set_option maxRecDepth 100000 in
theorem c_M_number (l : Launch) (D : va_G) (y : Nat → ClassId) (mo : Nat) (ma : Nat → Nat) (t1 : Nat) (t2 : Nat) (t3 : Nat) (i4 : Int32) (i5 : Int32) (i6 : Int32) (i7 : Int32) (i8 : Int32) (i42 : Int32) (i49 : Int32) (i51 : Int32) (i53 : Int32) (i54 : Int32) (i59 : Int32) (i61 : Int32) (i64 : Int32) (i66 : Int32) (t67 : Nat) (i76 : Int64) (i78 : Int32) (tx : Nat → Nat) (lo : Nat) (hi : Nat) (gs : PS) (ha : t2 ≤ t3) (he : t3 ≤ 1600) (hB : ∀ j, tx j < 256) (hx : RR tx t3 gs t2 i4 i5 i6) (hz9 : lo ≤ 9999) (hz8 : hi ≤ 9999) : CT l D y ⟨"NineBoardsModel", "number", "(II)I"⟩ prog_13_method_14_code 5 (some .int) ({ frames := 1, cells := 0, slots := 0, locals := 25 } : Room) [.ref mo, .int (nI lo), .int (nI hi)] [MB mo ma (nI t1) (nI t2) (nI t3) i4 i5 i6 i7 i8 i42 i49 i51 i53 i54 i59 i61 i64 i66 (nI t67) i76 i78, (ma 0, .inl (y 0, 1600, .inl (tby tx)))] (QI D [MB mo ma (nI t1) (nI t2) (nI t3) i4 i5 i6 i7 i8 i42 i49 i51 i53 i54 i59 i61 i64 i66 (nI t67) i76 i78, (ma 0, .inl (y 0, 1600, .inl (tby tx)))] (fun (r : Int32) (u : Nat × Int32 × Int32 × Int32) => t2 ≤ u.1 ∧ u.1 ≤ t3 ∧ (u.2.2.1 = 0 → i5 = 0 ∧ t2 < u.1) ∧ RR tx t3 (rnS tx t3 lo hi gs) u.1 u.2.1 u.2.2.1 u.2.2.2 ∧ (∃ q, q ≤ 9999 ∧ r = nI q ∧ (u.2.2.1 = 0 → q = rnV tx t3 lo hi gs ∧ lo ≤ q ∧ q ≤ hi))) (fun u => [MB mo ma (nI t1) (nI u.1) (nI t3) u.2.1 u.2.2.1 u.2.2.2 i7 i8 i42 i49 i51 i53 i54 i59 i61 i64 i66 (nI t67) i76 i78, (ma 0, .inl (y 0, 1600, .inl (tby tx)))])) := by
  refine CT.of (by decide) (nb rfl) ?_
  intro p e s m args below meth c C hr
  refine j_lv (lv' := [(0, .ref mo), (1, .int (nI lo)), (2, .int (nI hi))]) rfl ?_
  refine j_aload_n (pc := 0) C d_Model_number_0 rfl 0 rfl ?_
  refine j_get (pc := 1) C gf_Model_201 0 rfl rfl d_Model_number_1 ?_
  refine j_if_eq (pc := 4) C (tgt := 9) d_Model_number_4 (by decide) (fun c1 => ?_) (fun c1 => ?_)
  · refine j_aload_n (pc := 9) C d_Model_number_9 rfl 0 rfl ?_
    refine j_callVi (pc := 10) C (c_M_look l D y mo ma t1 t2 t3 i4 i5 i6 i7 i8 i42 i49 i51 i53 i54 i59 i61 i64 i66 t67 i76 i78 tx gs ha he hB hx c1) kw_Model_213 kv_Model_look 0 10 rfl rfl ⟨by decide, by decide⟩ ⟨by decide, by decide⟩ (wr := []) [0, 1] [] rfl rfl (by decide) (by decide) (by decide) (As := []) (rest := []) rfl (nb rfl) rfl d_Model_number_10 (fun r2 u3 hr2 => ?_)
    refine j_ws (ws' := [MB mo ma (nI t1) (nI u3) (nI t3) i4 i5 i6 i7 i8 i42 i49 i51 i53 i54 i59 i61 i64 i66 (nI t67) i76 i78, (ma 0, .inl (y 0, 1600, .inl (tby tx)))]) rfl ?_
    obtain ⟨xh4, xh5, xh6, xh7, xh8⟩ := hr2
    rcases xh8 with ⟨rfl, xh9⟩ | ⟨rfl, xh10⟩
    · refine j_callSi (pc := 13) C (c_M_isDigit_m l D y ) kw_Model_237 ks_Model_isDigit ⟨by decide, by decide⟩ ⟨by decide, by decide⟩ (wr := [MB mo ma (nI t1) (nI u3) (nI t3) i4 i5 i6 i7 i8 i42 i49 i51 i53 i54 i59 i61 i64 i66 (nI t67) i76 i78, (ma 0, .inl (y 0, 1600, .inl (tby tx)))]) [] [0, 1] rfl rfl (by decide) (by decide) (by decide) (As := [.int (-1)]) (rest := []) rfl (nb rfl) rfl d_Model_number_13 (fun r11 _ hr11 => ?_)
      subst hr11
      refine j_ws (ws' := [MB mo ma (nI t1) (nI u3) (nI t3) i4 i5 i6 i7 i8 i42 i49 i51 i53 i54 i59 i61 i64 i66 (nI t67) i76 i78, (ma 0, .inl (y 0, 1600, .inl (tby tx)))]) rfl ?_
      refine j_st (st' := [.int 0]) rfl ?_
      refine j_if_eqT (pc := 16) C (tgt := 30) d_Model_number_16 (by decide) (by decide) ?_
      have xh12 : ¬ srS tx t3 gs = 2 := (by rw [rl_end ((rr_z xh7).mp c1) xh6 xh9]; decide)
      refine j_aload_n (pc := 30) C d_Model_number_30 rfl 0 rfl ?_
      refine j_iconst (pc := 31) C (v := 1) d_Model_number_31 (by decide) ?_
      refine j_aload_n (pc := 32) C d_Model_number_32 rfl 0 rfl ?_
      refine j_get (pc := 33) C gf_Model_207 0 rfl rfl d_Model_number_33 ?_
      refine j_callVv (pc := 36) C (c_M_fail_1 l D y mo ma t1 u3 t3 i4 i5 i6 i7 i8 i42 i49 i51 i53 i54 i59 i61 i64 i66 t67 i76 i78 u3 gs tx ((rr_z xh7).mp c1) (by omega) c1) kw_Model_230 kv_Model_fail 0 10 rfl rfl ⟨by decide, by decide⟩ ⟨by decide, by decide⟩ (wr := [(ma 0, .inl (y 0, 1600, .inl (tby tx)))]) [0] [1] rfl rfl (by decide) (by decide) (by decide) (As := [.int 1, .int (nI u3)]) (rest := []) rfl (nb rfl) rfl d_Model_number_36 (fun u13 hu14 => ?_)
      obtain ⟨xh15, xh16⟩ := hu14
      refine j_ws (ws' := [(ma 0, .inl (y 0, 1600, .inl (tby tx))), MB mo ma (nI t1) (nI u3) (nI t3) i4 u13.1 u13.2 i7 i8 i42 i49 i51 i53 i54 i59 i61 i64 i66 (nI t67) i76 i78]) rfl ?_
      refine j_iconst (pc := 39) C (v := 0) d_Model_number_39 (by decide) ?_
      exact j_iret (pc := 40) C hr rfl (u3, i4, u13.1, u13.2) ⟨(show t2 ≤ u3 by omega), (show u3 ≤ t3 by omega), (fun e => absurd e xh15), (rr_of xh16 (by rw [rnS_n (isn_no xh12), ← xh6])), ⟨0, by omega, rfl, fun e => absurd e xh15⟩⟩ [1, 0] rfl (by decide) (by decide) (by decide) d_Model_number_40
    · have hb17 : tx u3 < 256 := hB u3
      refine j_callSi (pc := 13) C (c_M_isDigit_n l D y (tx u3) (by omega)) kw_Model_237 ks_Model_isDigit ⟨by decide, by decide⟩ ⟨by decide, by decide⟩ (wr := [MB mo ma (nI t1) (nI u3) (nI t3) i4 i5 i6 i7 i8 i42 i49 i51 i53 i54 i59 i61 i64 i66 (nI t67) i76 i78, (ma 0, .inl (y 0, 1600, .inl (tby tx)))]) [] [0, 1] rfl rfl (by decide) (by decide) (by decide) (As := [.int (nI (tx u3))]) (rest := []) rfl (nb rfl) rfl d_Model_number_13 (fun r18 _ hr18 => ?_)
      refine j_ws (ws' := [MB mo ma (nI t1) (nI u3) (nI t3) i4 i5 i6 i7 i8 i42 i49 i51 i53 i54 i59 i61 i64 i66 (nI t67) i76 i78, (ma 0, .inl (y 0, 1600, .inl (tby tx)))]) rfl ?_
      rcases hr18 with ⟨rfl, xh20⟩ | ⟨rfl, xh21⟩
      · refine j_if_eqT (pc := 16) C (tgt := 30) d_Model_number_16 (by decide) (by decide) ?_
        have xh22 : ¬ srS tx t3 gs = 2 := (rl_ns xh6 xh20 (by decide) (by decide))
        refine j_aload_n (pc := 30) C d_Model_number_30 rfl 0 rfl ?_
        refine j_iconst (pc := 31) C (v := 1) d_Model_number_31 (by decide) ?_
        refine j_aload_n (pc := 32) C d_Model_number_32 rfl 0 rfl ?_
        refine j_get (pc := 33) C gf_Model_207 0 rfl rfl d_Model_number_33 ?_
        refine j_callVv (pc := 36) C (c_M_fail_1 l D y mo ma t1 u3 t3 i4 i5 i6 i7 i8 i42 i49 i51 i53 i54 i59 i61 i64 i66 t67 i76 i78 u3 gs tx ((rr_z xh7).mp c1) (by omega) c1) kw_Model_230 kv_Model_fail 0 10 rfl rfl ⟨by decide, by decide⟩ ⟨by decide, by decide⟩ (wr := [(ma 0, .inl (y 0, 1600, .inl (tby tx)))]) [0] [1] rfl rfl (by decide) (by decide) (by decide) (As := [.int 1, .int (nI u3)]) (rest := []) rfl (nb rfl) rfl d_Model_number_36 (fun u23 hu24 => ?_)
        obtain ⟨xh25, xh26⟩ := hu24
        refine j_ws (ws' := [(ma 0, .inl (y 0, 1600, .inl (tby tx))), MB mo ma (nI t1) (nI u3) (nI t3) i4 u23.1 u23.2 i7 i8 i42 i49 i51 i53 i54 i59 i61 i64 i66 (nI t67) i76 i78]) rfl ?_
        refine j_iconst (pc := 39) C (v := 0) d_Model_number_39 (by decide) ?_
        exact j_iret (pc := 40) C hr rfl (u3, i4, u23.1, u23.2) ⟨(show t2 ≤ u3 by omega), (show u3 ≤ t3 by omega), (fun e => absurd e xh25), (rr_of xh26 (by rw [rnS_n (isn_no xh22), ← xh6])), ⟨0, by omega, rfl, fun e => absurd e xh25⟩⟩ [1, 0] rfl (by decide) (by decide) (by decide) d_Model_number_40
      · refine j_if_eqF (pc := 16) C (tgt := 30) d_Model_number_16 (by decide) (by decide) ?_
        refine j_aload_n (pc := 19) C d_Model_number_19 rfl 0 rfl ?_
        refine j_get (pc := 20) C gf_Model_207 0 rfl rfl d_Model_number_20 ?_
        refine j_aload_n (pc := 23) C d_Model_number_23 rfl 0 rfl ?_
        refine j_get (pc := 24) C gf_Model_221 0 rfl rfl d_Model_number_24 ?_
        refine j_icmp_ne (pc := 27) C (tgt := 41) d_Model_number_27 (by decide) (fun c27 => ?_) (fun c27 => ?_)
        · have xh28 : srS tx t3 gs = 2 := (rl_yes xh7 ((rr_z xh7).mp c1) he xh6 xh10 xh21 c27)
          refine j_aload_n (pc := 41) C d_Model_number_41 rfl 0 rfl ?_
          refine j_get (pc := 42) C gf_Model_207 0 rfl rfl d_Model_number_42 ?_
          refine j_istore_n (pc := 45) C (lv' := [(3, .int (nI u3)), (0, .ref mo), (1, .int (nI lo)), (2, .int (nI hi))]) d_Model_number_45 rfl (by decide) rfl ?_
          refine j_iconst (pc := 46) C (v := 0) d_Model_number_46 (by decide) ?_
          refine j_istore (pc := 47) C (lv' := [(4, .int 0), (3, .int (nI u3)), (0, .ref mo), (1, .int (nI lo)), (2, .int (nI hi))]) d_Model_number_47 (by decide) rfl ?_
          refine j_loop (α := Nat × Nat) (fun a => t3 - a.1) (fun a => (a.1 ≤ t3) ∧ (u3 ≤ a.1) ∧ (a.1 ≤ u3 + 4) ∧ ((∀ i, u3 ≤ i → i < a.1 → srt (tx i) = 2)) ∧ (a.2 = tvn tx u3 (a.1 - u3))) (fun a => [MB mo ma (nI t1) (nI a.1) (nI t3) i4 i5 i6 i7 i8 i42 i49 i51 i53 i54 i59 i61 i64 i66 (nI t67) i76 i78, (ma 0, .inl (y 0, 1600, .inl (tby tx)))]) (fun a => [(4, .int (nI a.2)), (3, .int (nI u3)), (0, .ref mo), (1, .int (nI lo)), (2, .int (nI hi))]) (u3, 0) rfl rfl ⟨xh5, (show u3 ≤ u3 by omega), (show u3 ≤ u3 + 4 by omega), (fun i h1 h2 => absurd h1 (by omega)), (show 0 = tvn tx u3 (u3 - u3) by rw [Nat.sub_self]; rfl)⟩ ?_
          rintro ⟨az, vz⟩ hP65 ih66
          obtain ⟨hz__, hy__, h4__, hl__, hv__⟩ := hP65
          have hz_ : az ≤ t3 := hz__
          have hy_ : u3 ≤ az := hy__
          have h4_ : az ≤ u3 + 4 := h4__
          have hl_ : (∀ i, u3 ≤ i → i < az → srt (tx i) = 2) := hl__
          have hv_ : vz = tvn tx u3 (az - u3) := hv__
          refine j_ws (ws' := [MB mo ma (nI t1) (nI az) (nI t3) i4 i5 i6 i7 i8 i42 i49 i51 i53 i54 i59 i61 i64 i66 (nI t67) i76 i78, (ma 0, .inl (y 0, 1600, .inl (tby tx)))]) rfl ?_
          refine j_lv (lv' := [(4, .int (nI vz)), (3, .int (nI u3)), (0, .ref mo), (1, .int (nI lo)), (2, .int (nI hi))]) rfl ?_
          have htv : vz < 10000 := by rw [hv_]; exact Nat.lt_of_lt_of_le (tvn_lt (j := az - u3) (fun i h1 h2 => (srt_2' (hl_ i h1 (by omega))).2)) (Nat.le_trans (Nat.pow_le_pow_right (by decide) (show az - u3 ≤ 4 by omega)) (by decide))
          refine j_aload_n (pc := 49) C d_Model_number_49 rfl 2 rfl ?_
          refine j_get (pc := 50) C gf_Model_207 0 rfl rfl d_Model_number_50 ?_
          refine j_aload_n (pc := 53) C d_Model_number_53 rfl 2 rfl ?_
          refine j_get (pc := 54) C gf_Model_210 0 rfl rfl d_Model_number_54 ?_
          by_cases c67 : t3 ≤ az
          · refine j_icmp_geT (pc := 57) C (tgt := 129) d_Model_number_57 (by decide) (show nI t3 ≤ nI az from nI_le (by omega) (by omega)) ?_
            have xh68 : az = enS tx t3 gs := en_of xh28 (by decide) (by decide) xh6 hl_ (by omega) (fun h => absurd h.1 (by omega)) (by omega)
            have xh69 : vz = tvS tx t3 gs := hv_.trans (tvS_of xh6 xh68)
            have xh70 : ¬ 4 < enS tx t3 gs - stS tx t3 gs := by have := xh6; omega
            have hlt9 : u3 < az := by have := (sr_all xh28 (by decide) (by decide)).1; have := xh6; omega
            refine j_aload_n (pc := 129) C d_Model_number_129 rfl 2 rfl ?_
            refine j_aload_n (pc := 130) C d_Model_number_130 rfl 2 rfl ?_
            refine j_get (pc := 131) C gf_Model_207 0 rfl rfl d_Model_number_131 ?_
            refine j_put (pc := 134) C pf_Model_221 0 (ws' := [MB mo ma (nI t1) (nI az) (nI t3) (nI az) i5 i6 i7 i8 i42 i49 i51 i53 i54 i59 i61 i64 i66 (nI t67) i76 i78, (ma 0, .inl (y 0, 1600, .inl (tby tx)))]) rfl rfl rfl (nl rfl) rfl d_Model_number_134 ?_
            refine j_iload (pc := 137) C d_Model_number_137 0 rfl ?_
            refine j_i2l (pc := 139) C (v := (nI vz).toInt64) d_Model_number_139 rfl ?_
            refine j_iload_n (pc := 140) C d_Model_number_140 rfl 3 rfl ?_
            refine j_i2l (pc := 141) C (v := (nI lo).toInt64) d_Model_number_141 rfl ?_
            refine j_iload_n (pc := 142) C d_Model_number_142 rfl 4 rfl ?_
            refine j_i2l (pc := 143) C (v := (nI hi).toInt64) d_Model_number_143 rfl ?_
            refine j_callSi (pc := 144) C (c_M_isIn_n l D y vz lo hi (by omega) (by omega) (by omega)) kw_Model_240 ks_Model_isIn ⟨by decide, by decide⟩ ⟨by decide, by decide⟩ (wr := [MB mo ma (nI t1) (nI az) (nI t3) (nI az) i5 i6 i7 i8 i42 i49 i51 i53 i54 i59 i61 i64 i66 (nI t67) i76 i78, (ma 0, .inl (y 0, 1600, .inl (tby tx)))]) [] [0, 1] rfl rfl (by decide) (by decide) (by decide) (As := [.long ((nI vz).toInt64), .long ((nI lo).toInt64), .long ((nI hi).toInt64)]) (rest := []) rfl (nb rfl) rfl d_Model_number_144 (fun r71 _ hr71 => ?_)
            refine j_ws (ws' := [MB mo ma (nI t1) (nI az) (nI t3) (nI az) i5 i6 i7 i8 i42 i49 i51 i53 i54 i59 i61 i64 i66 (nI t67) i76 i78, (ma 0, .inl (y 0, 1600, .inl (tby tx)))]) rfl ?_
            rcases hr71 with ⟨rfl, xh73⟩ | ⟨rfl, xh74⟩
            · refine j_if_neF (pc := 147) C (tgt := 156) d_Model_number_147 (by decide) (by decide) ?_
              refine j_aload_n (pc := 150) C d_Model_number_150 rfl 2 rfl ?_
              refine j_iconst (pc := 151) C (v := 2) d_Model_number_151 (by decide) ?_
              refine j_iload_n (pc := 152) C d_Model_number_152 rfl 1 rfl ?_
              refine j_callVv (pc := 153) C (c_M_fail_2 l D y mo ma t1 az t3 (nI az) i5 i6 i7 i8 i42 i49 i51 i53 i54 i59 i61 i64 i66 t67 i76 i78 u3 gs tx ((rr_z xh7).mp c1) (by omega) c1) kw_Model_230 kv_Model_fail 0 10 rfl rfl ⟨by decide, by decide⟩ ⟨by decide, by decide⟩ (wr := [(ma 0, .inl (y 0, 1600, .inl (tby tx)))]) [0] [1] rfl rfl (by decide) (by decide) (by decide) (As := [.int 2, .int (nI u3)]) (rest := []) rfl (nb rfl) rfl d_Model_number_153 (fun u75 hu76 => ?_)
              obtain ⟨xh77, xh78⟩ := hu76
              refine j_ws (ws' := [(ma 0, .inl (y 0, 1600, .inl (tby tx))), MB mo ma (nI t1) (nI az) (nI t3) (nI az) u75.1 u75.2 i7 i8 i42 i49 i51 i53 i54 i59 i61 i64 i66 (nI t67) i76 i78]) rfl ?_
              refine j_iload (pc := 156) C d_Model_number_156 0 rfl ?_
              exact j_iret (pc := 158) C hr rfl (az, nI az, u75.1, u75.2) ⟨(show t2 ≤ az by omega), (show az ≤ t3 by omega), (fun e => absurd e xh77), (rr_of xh78 (by rw [rnS_o (isn_yes xh28) xh70 (by rw [← xh69]; exact xh73), ← xh6])), ⟨vz, by omega, rfl, fun e => absurd e xh77⟩⟩ [1, 0] rfl (by decide) (by decide) (by decide) d_Model_number_158
            · refine j_if_neT (pc := 147) C (tgt := 156) d_Model_number_147 (by decide) (by decide) ?_
              refine j_iload (pc := 156) C d_Model_number_156 0 rfl ?_
              exact j_iret (pc := 158) C hr rfl (az, nI az, i5, i6) ⟨(show t2 ≤ az by omega), (show az ≤ t3 by omega), (fun e => by exact ⟨e, by omega⟩), (rr_of (rr_adv xh7 he xh28 (by decide) xh68 (Or.inr ⟨by decide, rfl⟩)) (rnS_k (isn_yes xh28) xh70 (by rw [← xh69]; exact xh74))), ⟨vz, by omega, rfl, fun _ => ⟨by rw [rnV_k (isn_yes xh28) xh70 (by rw [← xh69]; exact xh74), xh69], by omega, by omega⟩⟩⟩ [0, 1] rfl (by decide) (by decide) (by decide) d_Model_number_158
          · refine j_icmp_geF (pc := 57) C (tgt := 129) d_Model_number_57 (by decide) (show ¬ nI t3 ≤ nI az from nI_ge (by omega) (by omega)) ?_
            refine j_aload_n (pc := 60) C d_Model_number_60 rfl 2 rfl ?_
            refine j_get (pc := 61) C gf_Model_7 0 rfl rfl d_Model_number_61 ?_
            refine j_aload_n (pc := 64) C d_Model_number_64 rfl 2 rfl ?_
            refine j_get (pc := 65) C gf_Model_207 0 rfl rfl d_Model_number_65 ?_
            have hb79 : tx az < 256 := hB az
            refine j_iald (pc := 68) C 1 rfl (v := nI (tx az)) (vp_in_nI (by omega) (by decide)) (by rw [nI_clamp (by omega)]; rfl) d_Model_number_68 ?_
            refine j_callSi (pc := 69) C (c_M_isDigit_n l D y (tx az) (by omega)) kw_Model_237 ks_Model_isDigit ⟨by decide, by decide⟩ ⟨by decide, by decide⟩ (wr := [MB mo ma (nI t1) (nI az) (nI t3) i4 i5 i6 i7 i8 i42 i49 i51 i53 i54 i59 i61 i64 i66 (nI t67) i76 i78, (ma 0, .inl (y 0, 1600, .inl (tby tx)))]) [] [0, 1] rfl rfl (by decide) (by decide) (by decide) (As := [.int (nI (tx az))]) (rest := []) rfl (nb rfl) rfl d_Model_number_69 (fun r80 _ hr80 => ?_)
            refine j_ws (ws' := [MB mo ma (nI t1) (nI az) (nI t3) i4 i5 i6 i7 i8 i42 i49 i51 i53 i54 i59 i61 i64 i66 (nI t67) i76 i78, (ma 0, .inl (y 0, 1600, .inl (tby tx)))]) rfl ?_
            rcases hr80 with ⟨rfl, xh82⟩ | ⟨rfl, xh83⟩
            · refine j_if_eqT (pc := 72) C (tgt := 129) d_Model_number_72 (by decide) (by decide) ?_
              have xh84 : az = enS tx t3 gs := en_of xh28 (by decide) (by decide) xh6 hl_ (by omega) (fun h => absurd h.2 xh82) (by omega)
              have xh85 : vz = tvS tx t3 gs := hv_.trans (tvS_of xh6 xh84)
              have xh86 : ¬ 4 < enS tx t3 gs - stS tx t3 gs := by have := xh6; omega
              have hlt9 : u3 < az := by have := (sr_all xh28 (by decide) (by decide)).1; have := xh6; omega
              refine j_aload_n (pc := 129) C d_Model_number_129 rfl 2 rfl ?_
              refine j_aload_n (pc := 130) C d_Model_number_130 rfl 2 rfl ?_
              refine j_get (pc := 131) C gf_Model_207 0 rfl rfl d_Model_number_131 ?_
              refine j_put (pc := 134) C pf_Model_221 0 (ws' := [MB mo ma (nI t1) (nI az) (nI t3) (nI az) i5 i6 i7 i8 i42 i49 i51 i53 i54 i59 i61 i64 i66 (nI t67) i76 i78, (ma 0, .inl (y 0, 1600, .inl (tby tx)))]) rfl rfl rfl (nl rfl) rfl d_Model_number_134 ?_
              refine j_iload (pc := 137) C d_Model_number_137 0 rfl ?_
              refine j_i2l (pc := 139) C (v := (nI vz).toInt64) d_Model_number_139 rfl ?_
              refine j_iload_n (pc := 140) C d_Model_number_140 rfl 3 rfl ?_
              refine j_i2l (pc := 141) C (v := (nI lo).toInt64) d_Model_number_141 rfl ?_
              refine j_iload_n (pc := 142) C d_Model_number_142 rfl 4 rfl ?_
              refine j_i2l (pc := 143) C (v := (nI hi).toInt64) d_Model_number_143 rfl ?_
              refine j_callSi (pc := 144) C (c_M_isIn_n l D y vz lo hi (by omega) (by omega) (by omega)) kw_Model_240 ks_Model_isIn ⟨by decide, by decide⟩ ⟨by decide, by decide⟩ (wr := [MB mo ma (nI t1) (nI az) (nI t3) (nI az) i5 i6 i7 i8 i42 i49 i51 i53 i54 i59 i61 i64 i66 (nI t67) i76 i78, (ma 0, .inl (y 0, 1600, .inl (tby tx)))]) [] [0, 1] rfl rfl (by decide) (by decide) (by decide) (As := [.long ((nI vz).toInt64), .long ((nI lo).toInt64), .long ((nI hi).toInt64)]) (rest := []) rfl (nb rfl) rfl d_Model_number_144 (fun r87 _ hr87 => ?_)
              refine j_ws (ws' := [MB mo ma (nI t1) (nI az) (nI t3) (nI az) i5 i6 i7 i8 i42 i49 i51 i53 i54 i59 i61 i64 i66 (nI t67) i76 i78, (ma 0, .inl (y 0, 1600, .inl (tby tx)))]) rfl ?_
              rcases hr87 with ⟨rfl, xh89⟩ | ⟨rfl, xh90⟩
              · refine j_if_neF (pc := 147) C (tgt := 156) d_Model_number_147 (by decide) (by decide) ?_
                refine j_aload_n (pc := 150) C d_Model_number_150 rfl 2 rfl ?_
                refine j_iconst (pc := 151) C (v := 2) d_Model_number_151 (by decide) ?_
                refine j_iload_n (pc := 152) C d_Model_number_152 rfl 1 rfl ?_
                refine j_callVv (pc := 153) C (c_M_fail_2 l D y mo ma t1 az t3 (nI az) i5 i6 i7 i8 i42 i49 i51 i53 i54 i59 i61 i64 i66 t67 i76 i78 u3 gs tx ((rr_z xh7).mp c1) (by omega) c1) kw_Model_230 kv_Model_fail 0 10 rfl rfl ⟨by decide, by decide⟩ ⟨by decide, by decide⟩ (wr := [(ma 0, .inl (y 0, 1600, .inl (tby tx)))]) [0] [1] rfl rfl (by decide) (by decide) (by decide) (As := [.int 2, .int (nI u3)]) (rest := []) rfl (nb rfl) rfl d_Model_number_153 (fun u91 hu92 => ?_)
                obtain ⟨xh93, xh94⟩ := hu92
                refine j_ws (ws' := [(ma 0, .inl (y 0, 1600, .inl (tby tx))), MB mo ma (nI t1) (nI az) (nI t3) (nI az) u91.1 u91.2 i7 i8 i42 i49 i51 i53 i54 i59 i61 i64 i66 (nI t67) i76 i78]) rfl ?_
                refine j_iload (pc := 156) C d_Model_number_156 0 rfl ?_
                exact j_iret (pc := 158) C hr rfl (az, nI az, u91.1, u91.2) ⟨(show t2 ≤ az by omega), (show az ≤ t3 by omega), (fun e => absurd e xh93), (rr_of xh94 (by rw [rnS_o (isn_yes xh28) xh86 (by rw [← xh85]; exact xh89), ← xh6])), ⟨vz, by omega, rfl, fun e => absurd e xh93⟩⟩ [1, 0] rfl (by decide) (by decide) (by decide) d_Model_number_158
              · refine j_if_neT (pc := 147) C (tgt := 156) d_Model_number_147 (by decide) (by decide) ?_
                refine j_iload (pc := 156) C d_Model_number_156 0 rfl ?_
                exact j_iret (pc := 158) C hr rfl (az, nI az, i5, i6) ⟨(show t2 ≤ az by omega), (show az ≤ t3 by omega), (fun e => by exact ⟨e, by omega⟩), (rr_of (rr_adv xh7 he xh28 (by decide) xh84 (Or.inr ⟨by decide, rfl⟩)) (rnS_k (isn_yes xh28) xh86 (by rw [← xh85]; exact xh90))), ⟨vz, by omega, rfl, fun _ => ⟨by rw [rnV_k (isn_yes xh28) xh86 (by rw [← xh85]; exact xh90), xh85], by omega, by omega⟩⟩⟩ [0, 1] rfl (by decide) (by decide) (by decide) d_Model_number_158
            · refine j_if_eqF (pc := 72) C (tgt := 129) d_Model_number_72 (by decide) (by decide) ?_
              refine j_aload_n (pc := 75) C d_Model_number_75 rfl 2 rfl ?_
              refine j_get (pc := 76) C gf_Model_207 0 rfl rfl d_Model_number_76 ?_
              refine j_iload_n (pc := 79) C d_Model_number_79 rfl 1 rfl ?_
              refine j_isub (pc := 80) C (v := nI (az - u3)) d_Model_number_80 (pk_sub (by omega)) ?_
              refine j_iconst (pc := 81) C (v := 4) d_Model_number_81 (by decide) ?_
              by_cases c95 : ¬ (az - u3) = 4
              · refine j_icmp_neT (pc := 82) C (tgt := 96) d_Model_number_82 (by decide) (show ¬ nI (az - u3) = nI 4 from fun e => absurd ((nI_eq (by omega) (by omega)).mp e) (by omega)) ?_
                have hb96 := srt_2' xh83
                refine j_bipush (pc := 96) C (v := 10) d_Model_number_96 (by decide) ?_
                refine j_iload (pc := 98) C d_Model_number_98 0 rfl ?_
                refine j_imul (pc := 100) C (v := nI (10 * vz)) d_Model_number_100 (pk_mul _ _) ?_
                refine j_aload_n (pc := 101) C d_Model_number_101 rfl 2 rfl ?_
                refine j_get (pc := 102) C gf_Model_7 0 rfl rfl d_Model_number_102 ?_
                refine j_aload_n (pc := 105) C d_Model_number_105 rfl 2 rfl ?_
                refine j_get (pc := 106) C gf_Model_207 0 rfl rfl d_Model_number_106 ?_
                refine j_iald (pc := 109) C 1 rfl (v := nI (tx az)) (vp_in_nI (by omega) (by decide)) (by rw [nI_clamp (by omega)]; rfl) d_Model_number_109 ?_
                refine j_iadd (pc := 110) C (v := nI ((10 * vz) + (tx az))) d_Model_number_110 (nI_add _ _) ?_
                refine j_bipush (pc := 111) C (v := 48) d_Model_number_111 (by decide) ?_
                refine j_isub (pc := 113) C (v := nI (((10 * vz) + (tx az)) - 48)) d_Model_number_113 (pk_sub (a := ((10 * vz) + (tx az))) (b := 48) (by omega)) ?_
                refine j_istore (pc := 114) C (lv' := [(4, .int (nI (((10 * vz) + (tx az)) - 48))), (3, .int (nI u3)), (0, .ref mo), (1, .int (nI lo)), (2, .int (nI hi))]) d_Model_number_114 (by decide) rfl ?_
                refine j_aload_n (pc := 116) C d_Model_number_116 rfl 2 rfl ?_
                refine j_dup (pc := 117) C d_Model_number_117 rfl ?_
                refine j_get (pc := 118) C gf_Model_207 0 rfl rfl d_Model_number_118 ?_
                refine j_iconst (pc := 121) C (v := 1) d_Model_number_121 (by decide) ?_
                refine j_iadd (pc := 122) C (v := nI (az + 1)) d_Model_number_122 (nI_add _ _) ?_
                refine j_put (pc := 123) C pf_Model_207 0 (ws' := [MB mo ma (nI t1) (nI (az + 1)) (nI t3) i4 i5 i6 i7 i8 i42 i49 i51 i53 i54 i59 i61 i64 i66 (nI t67) i76 i78, (ma 0, .inl (y 0, 1600, .inl (tby tx)))]) rfl rfl rfl (nl rfl) rfl d_Model_number_123 ?_
                refine j_goto (pc := 126) C (tgt := 49) d_Model_number_126 (by decide) ?_
                exact ih66 ((az + 1), (((10 * vz) + (tx az)) - 48)) ⟨(show (az + 1) ≤ t3 by omega), (show u3 ≤ (az + 1) by omega), (show (az + 1) ≤ u3 + 4 by omega), (fun i h1 h2 => by
                        by_cases e : i = az
                        · rw [e]; exact xh83
                        · exact hl_ i h1 (by omega)), (show (((10 * vz) + (tx az)) - 48) = tvn tx u3 ((az + 1) - u3) by rw [show az + 1 - u3 = (az - u3) + 1 by omega, tvn, ← hv_, show u3 + (az - u3) = az by omega]; omega)⟩ (show t3 - (az + 1) < t3 - az by omega)
              · refine j_icmp_neF (pc := 82) C (tgt := 96) d_Model_number_82 (by decide) (show nI (az - u3) = nI 4 from (nI_eq (by omega) (by omega)).mpr (by omega)) ?_
                have xh97 : az < enS tx t3 gs := en_gt xh28 (by decide) (by decide) xh6 hl_ (by omega) (by omega) xh83
                have xh98 : 4 < enS tx t3 gs - stS tx t3 gs := by have := xh6; omega
                refine j_aload_n (pc := 85) C d_Model_number_85 rfl 2 rfl ?_
                refine j_iconst (pc := 86) C (v := 1) d_Model_number_86 (by decide) ?_
                refine j_aload_n (pc := 87) C d_Model_number_87 rfl 2 rfl ?_
                refine j_get (pc := 88) C gf_Model_207 0 rfl rfl d_Model_number_88 ?_
                refine j_callVv (pc := 91) C (c_M_fail_1 l D y mo ma t1 az t3 i4 i5 i6 i7 i8 i42 i49 i51 i53 i54 i59 i61 i64 i66 t67 i76 i78 az gs tx ((rr_z xh7).mp c1) (by omega) c1) kw_Model_230 kv_Model_fail 0 10 rfl rfl ⟨by decide, by decide⟩ ⟨by decide, by decide⟩ (wr := [(ma 0, .inl (y 0, 1600, .inl (tby tx)))]) [0] [1] rfl rfl (by decide) (by decide) (by decide) (As := [.int 1, .int (nI az)]) (rest := []) rfl (nb rfl) rfl d_Model_number_91 (fun u99 hu100 => ?_)
                obtain ⟨xh101, xh102⟩ := hu100
                refine j_ws (ws' := [(ma 0, .inl (y 0, 1600, .inl (tby tx))), MB mo ma (nI t1) (nI az) (nI t3) i4 u99.1 u99.2 i7 i8 i42 i49 i51 i53 i54 i59 i61 i64 i66 (nI t67) i76 i78]) rfl ?_
                refine j_iconst (pc := 94) C (v := 0) d_Model_number_94 (by decide) ?_
                exact j_iret (pc := 95) C hr rfl (az, i4, u99.1, u99.2) ⟨(show t2 ≤ az by omega), (show az ≤ t3 by omega), (fun e => absurd e xh101), (rr_of xh102 (by rw [rnS_l (isn_yes xh28) xh98, ← xh6, show u3 + 4 = az by omega])), ⟨0, by omega, rfl, fun e => absurd e xh101⟩⟩ [1, 0] rfl (by decide) (by decide) (by decide) d_Model_number_95
        · have xh103 : ¬ srS tx t3 gs = 2 := (rl_ad xh7 ((rr_z xh7).mp c1) he xh6 c27 (by decide) (by decide))
          refine j_aload_n (pc := 30) C d_Model_number_30 rfl 0 rfl ?_
          refine j_iconst (pc := 31) C (v := 1) d_Model_number_31 (by decide) ?_
          refine j_aload_n (pc := 32) C d_Model_number_32 rfl 0 rfl ?_
          refine j_get (pc := 33) C gf_Model_207 0 rfl rfl d_Model_number_33 ?_
          refine j_callVv (pc := 36) C (c_M_fail_1 l D y mo ma t1 u3 t3 i4 i5 i6 i7 i8 i42 i49 i51 i53 i54 i59 i61 i64 i66 t67 i76 i78 u3 gs tx ((rr_z xh7).mp c1) (by omega) c1) kw_Model_230 kv_Model_fail 0 10 rfl rfl ⟨by decide, by decide⟩ ⟨by decide, by decide⟩ (wr := [(ma 0, .inl (y 0, 1600, .inl (tby tx)))]) [0] [1] rfl rfl (by decide) (by decide) (by decide) (As := [.int 1, .int (nI u3)]) (rest := []) rfl (nb rfl) rfl d_Model_number_36 (fun u104 hu105 => ?_)
          obtain ⟨xh106, xh107⟩ := hu105
          refine j_ws (ws' := [(ma 0, .inl (y 0, 1600, .inl (tby tx))), MB mo ma (nI t1) (nI u3) (nI t3) i4 u104.1 u104.2 i7 i8 i42 i49 i51 i53 i54 i59 i61 i64 i66 (nI t67) i76 i78]) rfl ?_
          refine j_iconst (pc := 39) C (v := 0) d_Model_number_39 (by decide) ?_
          exact j_iret (pc := 40) C hr rfl (u3, i4, u104.1, u104.2) ⟨(show t2 ≤ u3 by omega), (show u3 ≤ t3 by omega), (fun e => absurd e xh106), (rr_of xh107 (by rw [rnS_n (isn_no xh103), ← xh6])), ⟨0, by omega, rfl, fun e => absurd e xh106⟩⟩ [1, 0] rfl (by decide) (by decide) (by decide) d_Model_number_40
  · refine j_iconst (pc := 7) C (v := 0) d_Model_number_7 (by decide) ?_
    exact j_iret (pc := 8) C hr rfl (t2, i4, i5, i6) ⟨(show t2 ≤ t2 by omega), (show t2 ≤ t3 by omega), (fun e => absurd e c1), (rr_of hx (rn_d (fun e => c1 ((rr_z hx).mpr e)))), ⟨0, by omega, rfl, (fun e => absurd e c1)⟩⟩ [0, 1] rfl (by decide) (by decide) (by decide) d_Model_number_8
