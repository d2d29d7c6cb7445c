/-! what is always within bounds of how it stands -/
def BND (t : LA_) (S : ST_) : Prop := ST_.dy S ≤ 999 ∧ ST_.wa S ≤ 9999 ∧ ST_.la S ≤ 2 ∧ BN (t.s 9) (ST_.bd S) 20 ∧ BN (t.s 9) (ST_.st S) (9999 * ST_.dy S) ∧ BN 5 (ST_.su S) (9999 + 20000 * ST_.dy S)
theorem bnd_st {t : LA_} {S : ST_} (h : BND t S) : BN (t.s 9) (ST_.st S) 2000000000 := fun j hj => by
  have := h.2.2.2.2.1 j hj
  have := h.1
  omega
theorem bnd_su {t : LA_} {S : ST_} (h : BND t S) : BN 5 (ST_.su S) 2000000000 := fun j hj => by
  have := h.2.2.2.2.2 j hj
  have := h.1
  omega
theorem bnd_day {t : LA_} {d : LD} {S : ST_} {a : Nat} (h : BND t S) (hk : LKR t d) (hd : ST_.dy S < 999) (ha : a ≤ 2) (hm : mayT t (ST_.bd S) (ST_.la S) (ST_.dy S) 0 a) : BND t (dayT t (actT t S a) 0) := by
  obtain ⟨h1, h2, h3, h4, h5, h6⟩ := h
  obtain ⟨k1, k2, k3, k4, k5, _⟩ := lk_n hk
  have hw1 : w1T t (actT t S a) 0 ≤ 9999 := by
    show wdT t (actT t S a) 0 - (wdT t (actT t S a) 0 - t.s 2) ≤ 9999
    omega
  have hlw : lwT t (actT t S a) ≤ ST_.wa S := left_le
  have hra : raT t (actT t S a) 0 ≤ 9999 := by
    have : amF t 0 (ST_.dy (actT t S a)) (lwT t (actT t S a)) ≤ 9999 := am_le
    show amF t 0 (ST_.dy (actT t S a)) (lwT t (actT t S a)) + 0 ≤ 9999
    omega
  have hsp : spT t (actT t S a) 0 ≤ 19998 := by
    show lwT t (actT t S a) + raT t (actT t S a) 0 - t.s 2 ≤ 19998
    omega
  have hai : aiT t (actT t S a) 0 ≤ 9999 := by
    show min (w1T t (actT t S a) 0) _ ≤ 9999
    omega
  refine ⟨?_, ?_, ?_, ?_, ?_, ?_⟩
  · show ST_.dy S + 1 ≤ 999
    omega
  · show w1T t (actT t S a) 0 - aiT t (actT t S a) 0 ≤ 9999
    omega
  · show actL (ST_.la S) a ≤ 2
    unfold actL
    split
    · exact h3
    · exact ha
  · exact act_bn h4 ha (may_pass hm) (lk_ja hk)
  · intro j hj
    have q := h5 j hj
    have hf : flowT t (ST_.bd (actT t S a)) (ST_.wa S / t.s 1) (ST_.dy S) (ST_.wa S) j ≤ ST_.wa S := flow_w
    show (if j < t.s 9 then ST_.st S j + flowT t (ST_.bd (actT t S a)) (ST_.wa S / t.s 1) (ST_.dy S) (ST_.wa S) j else ST_.st S j) ≤ 9999 * (ST_.dy S + 1)
    rw [if_pos hj]
    omega
  · intro j hj
    have q := h6 j hj
    have q1 := h6 1 (by omega)
    have q2 := h6 2 (by omega)
    have q3 := h6 3 (by omega)
    have q4 := h6 4 (by omega)
    show suT (ST_.su S) (raT t (actT t S a) 0) (spT t (actT t S a) 0) (ST_.wa S - lwT t (actT t S a)) (aiT t (actT t S a) 0) j ≤ 9999 + 20000 * (ST_.dy S + 1)
    unfold suT
    by_cases e4 : j = 4
    · rw [e4, upN_s]
      omega
    · rw [upN_n e4]
      by_cases e2 : j = 2
      · rw [e2, upN_s]
        omega
      · rw [upN_n e2]
        by_cases e1 : j = 1
        · rw [e1, upN_s]
          omega
        · rw [upN_n e1]
          by_cases e3 : j = 3
          · rw [e3, upN_s]
            omega
          · rw [upN_n e3]
            omega
theorem bnd_rest {t : LA_} {d : LD} {S : ST_} (h : BND t S) (hk : LKR t d) (hd : ST_.dy S < 999) : BND t (dayT t S 0) := bnd_day (a := 0) h hk hd (by omega) (Or.inl rfl)
theorem pb_push {t : LA_} {S : ST_} {P : Nat → ST_} {cn : Nat} (h : BND t S) (hp : ∀ i, i < cn → BND t (P i)) : ∀ i, i < min 30 (cn + 1) → BND t (pushP S P i) := by
  intro i hi
  by_cases e : i = 0
  · rw [show pushP S P i = S from if_pos e]
    exact h
  · rw [show pushP S P i = P (i - 1) from if_neg e]
    exact hp (i - 1) (by omega)
theorem bnd_rs {t : LA_} {d : LD} {S : ST_} {P : Nat → ST_} {cn : Nat} (h : BND t S) (hk : LKR t d) (hp : ∀ i, i < cn → BND t (P i)) (hc : cn ≤ 30) : ∀ k, k ≤ 999 - ST_.dy S → BND t (rsT t k (S, P)).1 ∧ ∀ i, i < min 30 (cn + k) → BND t ((rsT t k (S, P)).2 i)
  | 0, _ => ⟨h, fun i hi => hp i (by omega)⟩
  | k + 1, hk2 => by
    obtain ⟨a, b⟩ := bnd_rs h hk hp hc k (by omega)
    have e : ST_.dy (rsT t k (S, P)).1 = ST_.dy S + k := rs_dy k
    refine ⟨bnd_rest a hk (by omega), fun i hi => pb_push a b i (by omega)⟩
theorem bnd_lake {t : LA_} {d : LD} (hk : LKR t d) : BND t (st0T 0 (t.s 3) 0 (bgT t (t.s 9))) := by
  obtain ⟨k1, k2, k3, k4, k5, _⟩ := lk_n hk
  refine ⟨(show 0 ≤ 999 by omega), (show t.s 3 ≤ 9999 by omega), (show 0 ≤ 2 by omega), ?_, fun j _ => Nat.zero_le _, ?_⟩
  · intro j hj
    have g := lk_gb hk j hj
    show (if j < t.s 9 then t.r 4 j else 0) ≤ 20
    rw [if_pos hj]
    unfold GB at g
    omega
  · intro j hj
    show upN (fun _ => 0) 0 (t.s 3) j ≤ 9999 + 20000 * 0
    by_cases e : j = 0
    · rw [e, upN_s]
      omega
    · rw [upN_n e]
      omega
theorem bnd_on {t : LA_} {d : LD} {tx : Nat → Nat} {k : Nat} (hk : LKR t d) (h : onB tx k (t.s 9) (t.s 2)) : BND t (onT tx (t.s 9)) := by
  obtain ⟨k1, k2, k3, k4, k5, _⟩ := lk_n hk
  obtain ⟨_, _, hb, hd, hw, hl⟩ := h
  refine ⟨hd, (show 256 * tx 2 + tx 3 ≤ 9999 by omega), hl, ?_, fun j _ => Nat.zero_le _, ?_⟩
  · intro j hj
    show (if j < t.s 9 then tx (5 + j) else 0) ≤ 20
    rw [if_pos hj]
    exact hb j hj
  · intro j hj
    show upN (fun _ => 0) 0 (256 * tx 2 + tx 3) j ≤ 9999 + 20000 * (256 * tx 0 + tx 1)
    by_cases e : j = 0
    · rw [e, upN_s]
      omega
    · rw [upN_n e]
      omega
theorem bnd_steal {t : LA_} {d : LD} {S : ST_} {g : Nat} (h : BND t S) (hk : LKR t d) (hg : g < t.s 9) : BND t ((S.1, mvB t (ST_.bd S) g 1, S.2.2)) := ⟨h.1, h.2.1, h.2.2.1, lose_bn h.2.2.2.1 (lk_j hk g hg).2, h.2.2.2.2.1, h.2.2.2.2.2⟩
