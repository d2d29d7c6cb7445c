theorem lk2c {tx : Nat → Nat} {k : Nat} {x : PS} : (lakeT tx k (x, t0)).2 = setS (setS (setS t0 1 (rnV tx k 1 999 (rwS tx k 1 (rwS tx k 0 x)))) 2 (rnV tx k 1 9999 (rwS tx k 2 (rnS tx k 1 999 (rwS tx k 1 (rwS tx k 0 x)))))) 3 (rnV tx k 0 (rnV tx k 1 9999 (rwS tx k 2 (rnS tx k 1 999 (rwS tx k 1 (rwS tx k 0 x))))) (rwS tx k 3 (rnS tx k 1 9999 (rwS tx k 2 (rnS tx k 1 999 (rwS tx k 1 (rwS tx k 0 x))))))) := rfl
/-! what a lake that is told is bounded by -/
theorem rv_ge {tx : Nat → Nat} {k lo hi : Nat} {x : PS} : lo ≤ rnV tx k lo hi x := by
  unfold rnV
  split
  · rename_i q
    have := q.2.2
    omega
  · exact Nat.le_refl _
theorem rv_le {tx : Nat → Nat} {k lo hi : Nat} {x : PS} (h : lo ≤ hi) : rnV tx k lo hi x ≤ hi := by
  unfold rnV
  split
  · rename_i q
    have := q.2.2
    omega
  · exact h
def TBs (t : LA_) : Prop := 1 ≤ t.s 1 ∧ t.s 1 ≤ 999 ∧ 1 ≤ t.s 2 ∧ t.s 2 ≤ 9999 ∧ t.s 3 ≤ t.s 2 ∧ t.s 5 ≤ 9999 ∧ t.s 6 ≤ 99 ∧ t.s 7 ≤ 9999 ∧ t.s 8 ≤ 99
def GB (kd a b bd wd : Nat) : Prop := kd ≤ 3 ∧ a ≤ 999 ∧ (kd = 1 → a ≤ 99) ∧ (kd = 2 → 1 ≤ a ∧ a ≤ 9) ∧ b ≤ 999 ∧ bd ≤ 20 ∧ 1 ≤ wd ∧ wd ≤ 99
def TBg (t : LA_) : Prop := ∀ j, j < t.s 9 → GB (t.r 1 j) (t.r 2 j) (t.r 3 j) (t.r 4 j) (t.r 5 j)
def HB_ (v11 v12 v13 v14 v15 : Nat) : Prop := v11 ≤ 9999 ∧ v12 ≤ 9999 ∧ v13 ≤ 999 ∧ v14 ≤ 999 ∧ v15 ≤ 99
def TBt (t : LA_) : Prop := ∀ j, j < t.s 10 → HB_ (t.r 11 j) (t.r 12 j) (t.r 13 j) (t.r 14 j) (t.r 15 j)
def TBk (t : LA_) : Prop := ∀ j, j < t.s 11 → t.r 16 j ≤ 1
def TBo (t : LA_) : Prop := TBs t ∧ TBg t ∧ TBt t ∧ TBk t
theorem tb_gx {t : LA_} {n kd a b bd wd : Nat} {w : List Nat} (h : TBo t) (hn : n = t.s 9) (hb : GB kd a b bd wd) : TBo (setS (setR (setR (setR (setR (setR (setR (setN t 0 n w) 1 n kd) 2 n a) 3 n b) 4 n bd) 5 n wd) 6 n 0) 9 (n + 1)) := by
  obtain ⟨hs, hg, ht, hk⟩ := h
  refine ⟨hs, ?_, ht, hk⟩
  intro j hj
  have hj' : j < n + 1 := hj
  by_cases c : j = n
  · rw [c]
    have q1 : LA_.r (setS (setR (setR (setR (setR (setR (setR (setN t 0 n w) 1 n kd) 2 n a) 3 n b) 4 n bd) 5 n wd) 6 n 0) 9 (n + 1)) 1 n = kd := by simp [LA_.s, LA_.r, LA_.nm, LA_.cs, setC, setS, setR, setN]
    have q2 : LA_.r (setS (setR (setR (setR (setR (setR (setR (setN t 0 n w) 1 n kd) 2 n a) 3 n b) 4 n bd) 5 n wd) 6 n 0) 9 (n + 1)) 2 n = a := by simp [LA_.s, LA_.r, LA_.nm, LA_.cs, setC, setS, setR, setN]
    have q3 : LA_.r (setS (setR (setR (setR (setR (setR (setR (setN t 0 n w) 1 n kd) 2 n a) 3 n b) 4 n bd) 5 n wd) 6 n 0) 9 (n + 1)) 3 n = b := by simp [LA_.s, LA_.r, LA_.nm, LA_.cs, setC, setS, setR, setN]
    have q4 : LA_.r (setS (setR (setR (setR (setR (setR (setR (setN t 0 n w) 1 n kd) 2 n a) 3 n b) 4 n bd) 5 n wd) 6 n 0) 9 (n + 1)) 4 n = bd := by simp [LA_.s, LA_.r, LA_.nm, LA_.cs, setC, setS, setR, setN]
    have q5 : LA_.r (setS (setR (setR (setR (setR (setR (setR (setN t 0 n w) 1 n kd) 2 n a) 3 n b) 4 n bd) 5 n wd) 6 n 0) 9 (n + 1)) 5 n = wd := by simp [LA_.s, LA_.r, LA_.nm, LA_.cs, setC, setS, setR, setN]
    rw [q1, q2, q3, q4, q5]
    exact hb
  · have q : ∀ i, LA_.r (setS (setR (setR (setR (setR (setR (setR (setN t 0 n w) 1 n kd) 2 n a) 3 n b) 4 n bd) 5 n wd) 6 n 0) 9 (n + 1)) i j = t.r i j := by
      intro i
      simp [LA_.s, LA_.r, LA_.nm, LA_.cs, setC, setS, setR, setN, c]
    rw [q, q, q, q, q]
    exact hg j (by omega)
theorem tb_tx {t : LA_} {n v9 v10 v11 v12 v13 v14 v15 : Nat} (h : TBo t) (hn : n = t.s 10) (hb : HB_ v11 v12 v13 v14 v15) : TBo (setS (setR (setR (setR (setR (setR (setR (setR t 9 n v9) 10 n v10) 11 n v11) 12 n v12) 13 n v13) 14 n v14) 15 n v15) 10 (n + 1)) := by
  obtain ⟨hs, hg, ht, hk⟩ := h
  refine ⟨hs, hg, ?_, hk⟩
  intro j hj
  have hj' : j < n + 1 := hj
  by_cases c : j = n
  · rw [c]
    have q11 : LA_.r (setS (setR (setR (setR (setR (setR (setR (setR t 9 n v9) 10 n v10) 11 n v11) 12 n v12) 13 n v13) 14 n v14) 15 n v15) 10 (n + 1)) 11 n = v11 := by simp [LA_.s, LA_.r, LA_.nm, LA_.cs, setC, setS, setR, setN]
    have q12 : LA_.r (setS (setR (setR (setR (setR (setR (setR (setR t 9 n v9) 10 n v10) 11 n v11) 12 n v12) 13 n v13) 14 n v14) 15 n v15) 10 (n + 1)) 12 n = v12 := by simp [LA_.s, LA_.r, LA_.nm, LA_.cs, setC, setS, setR, setN]
    have q13 : LA_.r (setS (setR (setR (setR (setR (setR (setR (setR t 9 n v9) 10 n v10) 11 n v11) 12 n v12) 13 n v13) 14 n v14) 15 n v15) 10 (n + 1)) 13 n = v13 := by simp [LA_.s, LA_.r, LA_.nm, LA_.cs, setC, setS, setR, setN]
    have q14 : LA_.r (setS (setR (setR (setR (setR (setR (setR (setR t 9 n v9) 10 n v10) 11 n v11) 12 n v12) 13 n v13) 14 n v14) 15 n v15) 10 (n + 1)) 14 n = v14 := by simp [LA_.s, LA_.r, LA_.nm, LA_.cs, setC, setS, setR, setN]
    have q15 : LA_.r (setS (setR (setR (setR (setR (setR (setR (setR t 9 n v9) 10 n v10) 11 n v11) 12 n v12) 13 n v13) 14 n v14) 15 n v15) 10 (n + 1)) 15 n = v15 := by simp [LA_.s, LA_.r, LA_.nm, LA_.cs, setC, setS, setR, setN]
    rw [q11, q12, q13, q14, q15]
    exact hb
  · have q : ∀ i, LA_.r (setS (setR (setR (setR (setR (setR (setR (setR t 9 n v9) 10 n v10) 11 n v11) 12 n v12) 13 n v13) 14 n v14) 15 n v15) 10 (n + 1)) i j = t.r i j := by
      intro i
      simp [LA_.s, LA_.r, LA_.nm, LA_.cs, setC, setS, setR, setN, c]
    rw [q, q, q, q, q]
    exact ht j (by omega)
theorem tb_kx {t : LA_} {n kd a b c : Nat} {cs : List Nat} (h : TBo t) (hn : n = t.s 11) (hb : kd ≤ 1) : TBo (setC (setS (setR (setR (setR (setR t 16 n kd) 17 n a) 18 n b) 19 n c) 11 (n + 1)) cs) := by
  obtain ⟨hs, hg, ht, hk⟩ := h
  refine ⟨hs, hg, ht, ?_⟩
  intro j hj
  have hj' : j < n + 1 := hj
  by_cases cj : j = n
  · rw [cj]
    have q : LA_.r (setC (setS (setR (setR (setR (setR t 16 n kd) 17 n a) 18 n b) 19 n c) 11 (n + 1)) cs) 16 n = kd := by simp [LA_.s, LA_.r, LA_.nm, LA_.cs, setC, setS, setR, setN]
    rw [q]
    exact hb
  · have q : LA_.r (setC (setS (setR (setR (setR (setR t 16 n kd) 17 n a) 18 n b) 19 n c) 11 (n + 1)) cs) 16 j = t.r 16 j := by
      simp [LA_.s, LA_.r, LA_.nm, LA_.cs, setC, setS, setR, setN, cj]
    rw [q]
    exact hk j (by omega)
section TBO
variable {tx : Nat → Nat} {k : Nat}
theorem gk_b {x : PS} : (gkT tx k x).2.1 ≤ 3 ∧ (gkT tx k x).2.2.1 ≤ 999 ∧ ((gkT tx k x).2.1 = 1 → (gkT tx k x).2.2.1 ≤ 99) ∧ ((gkT tx k x).2.1 = 2 → 1 ≤ (gkT tx k x).2.2.1 ∧ (gkT tx k x).2.2.1 ≤ 9) ∧ (gkT tx k x).2.2.2 ≤ 999 := by
  unfold gkT
  split
  · exact ⟨show (0 : Nat) ≤ 3 by decide, show (0 : Nat) ≤ 999 by decide, fun h => absurd h (show ¬ (0 : Nat) = 1 by decide), fun h => absurd h (show ¬ (0 : Nat) = 2 by decide), show (0 : Nat) ≤ 999 by decide⟩
  · split
    · have a : rnV tx k 1 99 (advS tx k x) ≤ 99 := rv_le (by decide)
      exact ⟨show (1 : Nat) ≤ 3 by decide, Nat.le_trans a (by decide), fun _ => a, fun h => absurd h (show ¬ (1 : Nat) = 2 by decide), show (0 : Nat) ≤ 999 by decide⟩
    · split
      · have a : rnV tx k 1 9 (advS tx k x) ≤ 9 := rv_le (by decide)
        exact ⟨show (2 : Nat) ≤ 3 by decide, Nat.le_trans a (by decide), fun h => absurd h (show ¬ (2 : Nat) = 1 by decide), fun _ => ⟨rv_ge, a⟩, show (0 : Nat) ≤ 999 by decide⟩
      · split
        · exact ⟨show (3 : Nat) ≤ 3 by decide, rv_le (by decide), fun h => absurd h (show ¬ (3 : Nat) = 1 by decide), fun h => absurd h (show ¬ (3 : Nat) = 2 by decide), rv_le (rv_le (by decide))⟩
        · exact ⟨show (0 : Nat) ≤ 3 by decide, show (0 : Nat) ≤ 999 by decide, fun h => absurd h (show ¬ (0 : Nat) = 1 by decide), fun h => absurd h (show ¬ (0 : Nat) = 2 by decide), show (0 : Nat) ≤ 999 by decide⟩
theorem tb_gate {x : TX} (h : TBo x.2) : TBo (gateT tx k x).2 := by
  obtain ⟨x, t⟩ := x
  by_cases c : t.s 9 < 9
  · rw [gateT_1 c]
    obtain ⟨a1, a2, a3, a4, a5⟩ := gk_b (tx := tx) (k := k) (x := nwS tx k (advS tx k x) t)
    exact tb_gx h rfl ⟨a1, a2, a3, a4, a5, rv_le (by decide), rv_ge, rv_le (by decide)⟩
  · rw [gateT_0 c]
    exact h
theorem tb_join {x : TX} (h : TBo x.2) : TBo (joinT tx k x).2 := by
  unfold joinT
  show TBo (if _ then _ else _)
  split
  · exact h
  · exact h
theorem tb_vill {x : TX} (h : TBo x.2) : TBo (villT tx k x).2 := by
  obtain ⟨x, t⟩ := x
  by_cases c : t.s 4 < 6
  · rw [villT_1 c]
    exact h
  · rw [villT_0 c]
    exact h
theorem tb_thing {x : TX} (h : TBo x.2) : TBo (thingT tx k x).2 := by
  unfold thingT
  split
  · exact tb_tx h rfl ⟨rv_le (by decide), rv_le (rv_le (by decide)), rv_le (by decide), rv_le (rv_le (by decide)), rv_le (by decide)⟩
  · exact h
theorem tb_loss {i : Nat} {x : TX} (hi : i = 5 ∨ i = 7) (h : TBo x.2) : TBo (lossT tx k i x).2 := by
  obtain ⟨x, t⟩ := x
  obtain ⟨⟨a1, a2, a3, a4, a5, a6, a7, a8, a9⟩, hg, ht, hk⟩ := h
  rw [lossT_1]
  rcases hi with rfl | rfl
  · exact ⟨⟨a1, a2, a3, a4, a5, rv_le (by decide), rv_le (by decide), a8, a9⟩, hg, ht, hk⟩
  · exact ⟨⟨a1, a2, a3, a4, a5, a6, a7, rv_le (by decide), rv_le (by decide)⟩, hg, ht, hk⟩
theorem tb_rule {kd : Nat} {x : TX} (hd : kd ≤ 1) (h : TBo x.2) : TBo (ruleT tx k kd x).2 := by
  obtain ⟨x, t⟩ := x
  by_cases c : t.s 11 < 8
  · rw [ruleT_1 c]
    exact tb_kx h rfl hd
  · rw [ruleT_0 c]
    exact h
theorem tb_end {x : TX} (h : TBo x.2) : TBo (endT tx k x).2 := by
  show TBo (if _ then _ else _)
  split
  · exact h
  · exact h
theorem tb_stmt {x : TX} (h : TBo x.2) : TBo (stmtT tx k x).2 := by
  unfold stmtT
  split
  · exact tb_gate h
  · split
    · exact tb_join h
    · split
      · exact tb_vill h
      · split
        · exact tb_thing h
        · split
          · exact tb_loss (Or.inl rfl) h
          · split
            · exact tb_loss (Or.inr rfl) h
            · exact h
theorem tb_one {x : TX} (h : TBo x.2) : TBo (oneT tx k x).2 := by
  unfold oneT
  refine tb_end ?_
  split
  · exact h
  · split
    · exact tb_rule (by decide) h
    · split
      · exact tb_rule (by decide) h
      · exact tb_stmt h
theorem tb_all (n : Nat) : ∀ {x : TX}, TBo x.2 → TBo (allT tx k n x).2 := by
  induction n with
  | zero => exact fun h => h
  | succ n ih =>
    intro x h
    show TBo (if _ then _ else _ : TX).2
    split
    · exact h
    · exact ih (tb_one h)
theorem tb_t0 : TBo t0 := ⟨⟨by decide, by decide, by decide, by decide, by decide, by decide, by decide, by decide, by decide⟩, fun j hj => absurd hj (Nat.not_lt_zero _), fun j hj => absurd hj (Nat.not_lt_zero _), fun j hj => absurd hj (Nat.not_lt_zero _)⟩
theorem tb_l3 {a b c : Nat} (h1 : 1 ≤ a) (h2 : a ≤ 999) (h3 : 1 ≤ b) (h4 : b ≤ 9999) (h5 : c ≤ b) : TBo (setS (setS (setS t0 1 a) 2 b) 3 c) := ⟨⟨h1, h2, h3, h4, h5, show (0 : Nat) ≤ 9999 by decide, show (0 : Nat) ≤ 99 by decide, show (9999 : Nat) ≤ 9999 by decide, show (0 : Nat) ≤ 99 by decide⟩, fun j hj => absurd hj (Nat.not_lt_zero _), fun j hj => absurd hj (Nat.not_lt_zero _), fun j hj => absurd hj (Nat.not_lt_zero _)⟩
theorem tb_lake {x : PS} : TBo (lakeT tx k (x, t0)).2 := by
  rw [lk2c]
  exact tb_l3 rv_ge (rv_le (by decide)) rv_ge (rv_le (by decide)) (rv_le (Nat.zero_le _))
theorem tb_read : TBo (readT tx k).2 := by
  unfold readT
  exact tb_all _ (tb_end tb_lake)
end TBO
