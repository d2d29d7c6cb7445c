/-! the reference: how a lake stands, and what stands told, in its rows -/
def NW (F : Nat → Int32) (o dy wa la : Nat) (bd fl st : Nat → Nat) (wo ly : Nat → Int) (se su : Nat → Nat) : Prop := F o = nI dy ∧ F (o + 1) = nI wa ∧ F (o + 2) = nI la ∧ (∀ j, j < 9 → F (o + (3 + j)) = nI (bd j)) ∧ (∀ j, j < 9 → F (o + (12 + j)) = nI (fl j)) ∧ (∀ j, j < 9 → F (o + (21 + j)) = nI (st j)) ∧ (∀ j, j < 5 → F (o + (30 + j)) = nI (su j)) ∧ (∀ j, j < 6 → F (o + (35 + j)) = zI (wo j)) ∧ (∀ j, j < 6 → F (o + (41 + j)) = zI (ly j)) ∧ (∀ j, j < 16 → F (o + (47 + j)) = nI (se j))
section NWS
variable {F F' : Nat → Int32} {o dy wa la : Nat} {bd fl st : Nat → Nat} {wo ly : Nat → Int} {se su : Nat → Nat}
theorem nw_cp {o' : Nat} (h : NW F o dy wa la bd fl st wo ly se su) (k : ∀ j, j < 63 → F' (o' + j) = F (o + j)) : NW F' o' dy wa la bd fl st wo ly se su := by
  obtain ⟨h0, h1, h2, h3, h4, h5, h6, h7, h8, h9⟩ := h
  refine ⟨(k 0 (by decide)).trans h0, (k 1 (by decide)).trans h1, (k 2 (by decide)).trans h2, ?_, ?_, ?_, ?_, ?_, ?_, ?_⟩
  · exact fun j hj => (k _ (by omega)).trans (h3 j hj)
  · exact fun j hj => (k _ (by omega)).trans (h4 j hj)
  · exact fun j hj => (k _ (by omega)).trans (h5 j hj)
  · exact fun j hj => (k _ (by omega)).trans (h6 j hj)
  · exact fun j hj => (k _ (by omega)).trans (h7 j hj)
  · exact fun j hj => (k _ (by omega)).trans (h8 j hj)
  · exact fun j hj => (k _ (by omega)).trans (h9 j hj)
theorem nw_dy (h : NW F 0 dy wa la bd fl st wo ly se su) : F 0 = nI dy := h.1
theorem nw_wa (h : NW F 0 dy wa la bd fl st wo ly se su) : F 1 = nI wa := h.2.1
theorem nw_la (h : NW F 0 dy wa la bd fl st wo ly se su) : F 2 = nI la := h.2.2.1
theorem nw_bd (h : NW F 0 dy wa la bd fl st wo ly se su) (j : Nat) (hj : j < 9) : F (3 + j) = nI (bd j) := by
  have := h.2.2.2.1 j hj
  rw [Nat.zero_add] at this
  exact this
theorem nw_fl (h : NW F 0 dy wa la bd fl st wo ly se su) (j : Nat) (hj : j < 9) : F (12 + j) = nI (fl j) := by
  have := h.2.2.2.2.1 j hj
  rw [Nat.zero_add] at this
  exact this
theorem nw_st (h : NW F 0 dy wa la bd fl st wo ly se su) (j : Nat) (hj : j < 9) : F (21 + j) = nI (st j) := by
  have := h.2.2.2.2.2.1 j hj
  rw [Nat.zero_add] at this
  exact this
theorem nw_su (h : NW F 0 dy wa la bd fl st wo ly se su) (j : Nat) (hj : j < 5) : F (30 + j) = nI (su j) := by
  have := h.2.2.2.2.2.2.1 j hj
  rw [Nat.zero_add] at this
  exact this
theorem nw_wo (h : NW F 0 dy wa la bd fl st wo ly se su) (j : Nat) (hj : j < 6) : F (35 + j) = zI (wo j) := by
  have := h.2.2.2.2.2.2.2.1 j hj
  rw [Nat.zero_add] at this
  exact this
theorem nw_ly (h : NW F 0 dy wa la bd fl st wo ly se su) (j : Nat) (hj : j < 6) : F (41 + j) = zI (ly j) := by
  have := h.2.2.2.2.2.2.2.2.1 j hj
  rw [Nat.zero_add] at this
  exact this
theorem nw_se (h : NW F 0 dy wa la bd fl st wo ly se su) (j : Nat) (hj : j < 16) : F (47 + j) = nI (se j) := by
  have := h.2.2.2.2.2.2.2.2.2 j hj
  rw [Nat.zero_add] at this
  exact this
/-- the same numbers told by other functions -/
theorem nw_e {bd' fl' st' se' su' : Nat → Nat} {wo' ly' : Nat → Int} (h : NW F o dy wa la bd fl st wo ly se su) (e1 : ∀ j, j < 9 → bd j = bd' j) (e2 : ∀ j, j < 9 → fl j = fl' j) (e3 : ∀ j, j < 9 → st j = st' j) (e4 : ∀ j, j < 6 → wo j = wo' j) (e5 : ∀ j, j < 6 → ly j = ly' j) (e6 : ∀ j, j < 16 → se j = se' j) (e7 : ∀ j, j < 5 → su j = su' j) : NW F o dy wa la bd' fl' st' wo' ly' se' su' := by
  obtain ⟨h0, h1, h2, h3, h4, h5, h6, h7, h8, h9⟩ := h
  refine ⟨h0, h1, h2, ?_, ?_, ?_, ?_, ?_, ?_, ?_⟩
  · exact fun j hj => by rw [← e1 j hj]; exact h3 j hj
  · exact fun j hj => by rw [← e2 j hj]; exact h4 j hj
  · exact fun j hj => by rw [← e3 j hj]; exact h5 j hj
  · exact fun j hj => by rw [← e7 j hj]; exact h6 j hj
  · exact fun j hj => by rw [← e4 j hj]; exact h7 j hj
  · exact fun j hj => by rw [← e5 j hj]; exact h8 j hj
  · exact fun j hj => by rw [← e6 j hj]; exact h9 j hj
theorem nu_dy {v : Nat} (h : NW F 0 dy wa la bd fl st wo ly se su) : NW (upd F 0 (nI v)) 0 v wa la bd fl st wo ly se su := by
  obtain ⟨h0, h1, h2, h3, h4, h5, h6, h7, h8, h9⟩ := h
  refine ⟨?_, ?_, ?_, ?_, ?_, ?_, ?_, ?_, ?_, ?_⟩
  · exact pk_us
  · rw [pk_un (by omega)]
    exact h1
  · rw [pk_un (by omega)]
    exact h2
  · intro j hj
    rw [pk_un (by omega)]
    exact h3 j hj
  · intro j hj
    rw [pk_un (by omega)]
    exact h4 j hj
  · intro j hj
    rw [pk_un (by omega)]
    exact h5 j hj
  · intro j hj
    rw [pk_un (by omega)]
    exact h6 j hj
  · intro j hj
    rw [pk_un (by omega)]
    exact h7 j hj
  · intro j hj
    rw [pk_un (by omega)]
    exact h8 j hj
  · intro j hj
    rw [pk_un (by omega)]
    exact h9 j hj
theorem nu_wa {v : Nat} (h : NW F 0 dy wa la bd fl st wo ly se su) : NW (upd F 1 (nI v)) 0 dy v la bd fl st wo ly se su := by
  obtain ⟨h0, h1, h2, h3, h4, h5, h6, h7, h8, h9⟩ := h
  refine ⟨?_, ?_, ?_, ?_, ?_, ?_, ?_, ?_, ?_, ?_⟩
  · rw [pk_un (by omega)]
    exact h0
  · exact pk_us
  · rw [pk_un (by omega)]
    exact h2
  · intro j hj
    rw [pk_un (by omega)]
    exact h3 j hj
  · intro j hj
    rw [pk_un (by omega)]
    exact h4 j hj
  · intro j hj
    rw [pk_un (by omega)]
    exact h5 j hj
  · intro j hj
    rw [pk_un (by omega)]
    exact h6 j hj
  · intro j hj
    rw [pk_un (by omega)]
    exact h7 j hj
  · intro j hj
    rw [pk_un (by omega)]
    exact h8 j hj
  · intro j hj
    rw [pk_un (by omega)]
    exact h9 j hj
theorem nu_la {v : Nat} (h : NW F 0 dy wa la bd fl st wo ly se su) : NW (upd F 2 (nI v)) 0 dy wa v bd fl st wo ly se su := by
  obtain ⟨h0, h1, h2, h3, h4, h5, h6, h7, h8, h9⟩ := h
  refine ⟨?_, ?_, ?_, ?_, ?_, ?_, ?_, ?_, ?_, ?_⟩
  · rw [pk_un (by omega)]
    exact h0
  · rw [pk_un (by omega)]
    exact h1
  · exact pk_us
  · intro j hj
    rw [pk_un (by omega)]
    exact h3 j hj
  · intro j hj
    rw [pk_un (by omega)]
    exact h4 j hj
  · intro j hj
    rw [pk_un (by omega)]
    exact h5 j hj
  · intro j hj
    rw [pk_un (by omega)]
    exact h6 j hj
  · intro j hj
    rw [pk_un (by omega)]
    exact h7 j hj
  · intro j hj
    rw [pk_un (by omega)]
    exact h8 j hj
  · intro j hj
    rw [pk_un (by omega)]
    exact h9 j hj
theorem nu_bd {k : Nat} {v : Nat} (h : NW F 0 dy wa la bd fl st wo ly se su) (hk : k < 9) : NW (upd F (3 + k) (nI v)) 0 dy wa la (upN bd k v) fl st wo ly se su := by
  obtain ⟨h0, h1, h2, h3, h4, h5, h6, h7, h8, h9⟩ := h
  refine ⟨?_, ?_, ?_, ?_, ?_, ?_, ?_, ?_, ?_, ?_⟩
  · rw [pk_un (by omega)]
    exact h0
  · rw [pk_un (by omega)]
    exact h1
  · rw [pk_un (by omega)]
    exact h2
  · intro j hj
    by_cases e : j = k
    · rw [e, Nat.zero_add, pk_us, upN_s]
    · rw [pk_un (by omega), upN_n e]
      exact h3 j hj
  · intro j hj
    rw [pk_un (by omega)]
    exact h4 j hj
  · intro j hj
    rw [pk_un (by omega)]
    exact h5 j hj
  · intro j hj
    rw [pk_un (by omega)]
    exact h6 j hj
  · intro j hj
    rw [pk_un (by omega)]
    exact h7 j hj
  · intro j hj
    rw [pk_un (by omega)]
    exact h8 j hj
  · intro j hj
    rw [pk_un (by omega)]
    exact h9 j hj
theorem nu_fl {k : Nat} {v : Nat} (h : NW F 0 dy wa la bd fl st wo ly se su) (hk : k < 9) : NW (upd F (12 + k) (nI v)) 0 dy wa la bd (upN fl k v) st wo ly se su := by
  obtain ⟨h0, h1, h2, h3, h4, h5, h6, h7, h8, h9⟩ := h
  refine ⟨?_, ?_, ?_, ?_, ?_, ?_, ?_, ?_, ?_, ?_⟩
  · rw [pk_un (by omega)]
    exact h0
  · rw [pk_un (by omega)]
    exact h1
  · rw [pk_un (by omega)]
    exact h2
  · intro j hj
    rw [pk_un (by omega)]
    exact h3 j hj
  · intro j hj
    by_cases e : j = k
    · rw [e, Nat.zero_add, pk_us, upN_s]
    · rw [pk_un (by omega), upN_n e]
      exact h4 j hj
  · intro j hj
    rw [pk_un (by omega)]
    exact h5 j hj
  · intro j hj
    rw [pk_un (by omega)]
    exact h6 j hj
  · intro j hj
    rw [pk_un (by omega)]
    exact h7 j hj
  · intro j hj
    rw [pk_un (by omega)]
    exact h8 j hj
  · intro j hj
    rw [pk_un (by omega)]
    exact h9 j hj
theorem nu_st {k : Nat} {v : Nat} (h : NW F 0 dy wa la bd fl st wo ly se su) (hk : k < 9) : NW (upd F (21 + k) (nI v)) 0 dy wa la bd fl (upN st k v) wo ly se su := by
  obtain ⟨h0, h1, h2, h3, h4, h5, h6, h7, h8, h9⟩ := h
  refine ⟨?_, ?_, ?_, ?_, ?_, ?_, ?_, ?_, ?_, ?_⟩
  · rw [pk_un (by omega)]
    exact h0
  · rw [pk_un (by omega)]
    exact h1
  · rw [pk_un (by omega)]
    exact h2
  · intro j hj
    rw [pk_un (by omega)]
    exact h3 j hj
  · intro j hj
    rw [pk_un (by omega)]
    exact h4 j hj
  · intro j hj
    by_cases e : j = k
    · rw [e, Nat.zero_add, pk_us, upN_s]
    · rw [pk_un (by omega), upN_n e]
      exact h5 j hj
  · intro j hj
    rw [pk_un (by omega)]
    exact h6 j hj
  · intro j hj
    rw [pk_un (by omega)]
    exact h7 j hj
  · intro j hj
    rw [pk_un (by omega)]
    exact h8 j hj
  · intro j hj
    rw [pk_un (by omega)]
    exact h9 j hj
theorem nu_su {k : Nat} {v : Nat} (h : NW F 0 dy wa la bd fl st wo ly se su) (hk : k < 5) : NW (upd F (30 + k) (nI v)) 0 dy wa la bd fl st wo ly se (upN su k v) := by
  obtain ⟨h0, h1, h2, h3, h4, h5, h6, h7, h8, h9⟩ := h
  refine ⟨?_, ?_, ?_, ?_, ?_, ?_, ?_, ?_, ?_, ?_⟩
  · rw [pk_un (by omega)]
    exact h0
  · rw [pk_un (by omega)]
    exact h1
  · rw [pk_un (by omega)]
    exact h2
  · intro j hj
    rw [pk_un (by omega)]
    exact h3 j hj
  · intro j hj
    rw [pk_un (by omega)]
    exact h4 j hj
  · intro j hj
    rw [pk_un (by omega)]
    exact h5 j hj
  · intro j hj
    by_cases e : j = k
    · rw [e, Nat.zero_add, pk_us, upN_s]
    · rw [pk_un (by omega), upN_n e]
      exact h6 j hj
  · intro j hj
    rw [pk_un (by omega)]
    exact h7 j hj
  · intro j hj
    rw [pk_un (by omega)]
    exact h8 j hj
  · intro j hj
    rw [pk_un (by omega)]
    exact h9 j hj
theorem nu_wo {k : Nat} {v : Int} (h : NW F 0 dy wa la bd fl st wo ly se su) (hk : k < 6) : NW (upd F (35 + k) (zI v)) 0 dy wa la bd fl st (upZ wo k v) ly se su := by
  obtain ⟨h0, h1, h2, h3, h4, h5, h6, h7, h8, h9⟩ := h
  refine ⟨?_, ?_, ?_, ?_, ?_, ?_, ?_, ?_, ?_, ?_⟩
  · rw [pk_un (by omega)]
    exact h0
  · rw [pk_un (by omega)]
    exact h1
  · rw [pk_un (by omega)]
    exact h2
  · intro j hj
    rw [pk_un (by omega)]
    exact h3 j hj
  · intro j hj
    rw [pk_un (by omega)]
    exact h4 j hj
  · intro j hj
    rw [pk_un (by omega)]
    exact h5 j hj
  · intro j hj
    rw [pk_un (by omega)]
    exact h6 j hj
  · intro j hj
    by_cases e : j = k
    · rw [e, Nat.zero_add, pk_us, upZ_s]
    · rw [pk_un (by omega), upZ_n e]
      exact h7 j hj
  · intro j hj
    rw [pk_un (by omega)]
    exact h8 j hj
  · intro j hj
    rw [pk_un (by omega)]
    exact h9 j hj
theorem nu_ly {k : Nat} {v : Int} (h : NW F 0 dy wa la bd fl st wo ly se su) (hk : k < 6) : NW (upd F (41 + k) (zI v)) 0 dy wa la bd fl st wo (upZ ly k v) se su := by
  obtain ⟨h0, h1, h2, h3, h4, h5, h6, h7, h8, h9⟩ := h
  refine ⟨?_, ?_, ?_, ?_, ?_, ?_, ?_, ?_, ?_, ?_⟩
  · rw [pk_un (by omega)]
    exact h0
  · rw [pk_un (by omega)]
    exact h1
  · rw [pk_un (by omega)]
    exact h2
  · intro j hj
    rw [pk_un (by omega)]
    exact h3 j hj
  · intro j hj
    rw [pk_un (by omega)]
    exact h4 j hj
  · intro j hj
    rw [pk_un (by omega)]
    exact h5 j hj
  · intro j hj
    rw [pk_un (by omega)]
    exact h6 j hj
  · intro j hj
    rw [pk_un (by omega)]
    exact h7 j hj
  · intro j hj
    by_cases e : j = k
    · rw [e, Nat.zero_add, pk_us, upZ_s]
    · rw [pk_un (by omega), upZ_n e]
      exact h8 j hj
  · intro j hj
    rw [pk_un (by omega)]
    exact h9 j hj
theorem nu_se {k : Nat} {v : Nat} (h : NW F 0 dy wa la bd fl st wo ly se su) (hk : k < 16) : NW (upd F (47 + k) (nI v)) 0 dy wa la bd fl st wo ly (upN se k v) su := by
  obtain ⟨h0, h1, h2, h3, h4, h5, h6, h7, h8, h9⟩ := h
  refine ⟨?_, ?_, ?_, ?_, ?_, ?_, ?_, ?_, ?_, ?_⟩
  · rw [pk_un (by omega)]
    exact h0
  · rw [pk_un (by omega)]
    exact h1
  · rw [pk_un (by omega)]
    exact h2
  · intro j hj
    rw [pk_un (by omega)]
    exact h3 j hj
  · intro j hj
    rw [pk_un (by omega)]
    exact h4 j hj
  · intro j hj
    rw [pk_un (by omega)]
    exact h5 j hj
  · intro j hj
    rw [pk_un (by omega)]
    exact h6 j hj
  · intro j hj
    rw [pk_un (by omega)]
    exact h7 j hj
  · intro j hj
    rw [pk_un (by omega)]
    exact h8 j hj
  · intro j hj
    by_cases e : j = k
    · rw [e, Nat.zero_add, pk_us, upN_s]
    · rw [pk_un (by omega), upN_n e]
      exact h9 j hj
end NWS
/-- what stands told -/
def SLM (t : LA_) (M L G O T A SF SE TE F : Nat → Int32) : Prop := MC t (fun j => M (4 + j)) ∧ LR t (fun j => L (7 + j)) ∧ GR t (fun j => G (54 + j)) ∧ OR_ t (fun j => O (6 + j)) ∧ TR t (fun j => T (112 + j)) ∧ SLR t A SF SE TE ∧ CD t.cs (fun j => F (1600 + j)) t.cs.length
theorem slm_of {t : LA_} {M L G O T A SF SE TE F : Nat → Int32} {N : Nat → Int64} (h : SLA t M L G O T A SF SE TE F N) : SLM t M L G O T A SF SE TE F := ⟨h.1, h.2.1, h.2.2.2.1, h.2.2.2.2.1, h.2.2.2.2.2.1, h.2.2.2.2.2.2.1, h.2.2.2.2.2.2.2⟩
/-- a lake as it can be told -/
def TOQ (t : LA_) : Prop := TBo t ∧ WFA t ∧ TJ t ∧ t.cs.length ≤ 1600
theorem tok_of {t : LA_} {d : LD} (h : LKR t d) : TOQ t := ⟨h.2.2.1, h.2.2.2.1, h.2.2.2.2, h.1.2.2.2.1⟩
section TOQS
variable {t : LA_}
theorem to_n (h : TOQ t) : 1 ≤ t.s 1 ∧ t.s 1 ≤ 999 ∧ 1 ≤ t.s 2 ∧ t.s 2 ≤ 9999 ∧ t.s 3 ≤ t.s 2 ∧ t.s 5 ≤ 9999 ∧ t.s 6 ≤ 99 ∧ t.s 7 ≤ 9999 ∧ t.s 8 ≤ 99 := h.1.1
theorem to_g (h : TOQ t) (j : Nat) (hj : j < t.s 9) : GB (t.r 1 j) (t.r 2 j) (t.r 3 j) (t.r 4 j) (t.r 5 j) := h.1.2.1 j hj
theorem to_t (h : TOQ t) (j : Nat) (hj : j < t.s 10) : HB_ (t.r 11 j) (t.r 12 j) (t.r 13 j) (t.r 14 j) (t.r 15 j) := h.1.2.2.1 j hj
theorem to_k (h : TOQ t) (j : Nat) (hj : j < t.s 11) : t.r 16 j ≤ 1 := h.1.2.2.2 j hj
theorem to_w (h : TOQ t) (j : Nat) (hj : j < t.s 11) : WFR t j := h.2.1 j hj
theorem to_j (h : TOQ t) (j : Nat) (hj : j < t.s 9) : t.r 6 j ≤ t.s 9 ∧ ¬ t.r 6 j = j + 1 := h.2.2.1 j hj
end TOQS
theorem nI_zL {n : Nat} (h : n < 2 ^ 31) : (nI n).toInt64 = zL (n : Int) := (nId_L h).trans rfl
theorem zc_ge {a b : Int} (a1 : -10000000000000 ≤ a) (a2 : a ≤ 10000000000000) (b1 : -10000000000000 ≤ b) (b2 : b ≤ 10000000000000) : 0 ≤ lg_cmp (zL a) (zL b) ↔ b ≤ a := by
  rw [← Int32.not_lt, lg_cmp_lt, Int64.lt_iff_toInt_lt, zL_b a1 a2, zL_b b1 b2]
  omega
theorem zc_le {a b : Int} (a1 : -10000000000000 ≤ a) (a2 : a ≤ 10000000000000) (b1 : -10000000000000 ≤ b) (b2 : b ≤ 10000000000000) : lg_cmp (zL a) (zL b) ≤ 0 ↔ a ≤ b := by
  rw [← Int32.not_lt, lg_cmp_gt, Int64.lt_iff_toInt_lt, zL_b a1 a2, zL_b b1 b2]
  omega
theorem zc_eq {a b : Int} (a1 : -10000000000000 ≤ a) (a2 : a ≤ 10000000000000) (b1 : -10000000000000 ≤ b) (b2 : b ≤ 10000000000000) : lg_cmp (zL a) (zL b) = 0 ↔ a = b := by
  rw [lg_cmp_eq, ← Int64.toInt_inj, zL_b a1 a2, zL_b b1 b2]
theorem nL_b {n : Nat} (h : n < 2 ^ 31) : (nL n).toInt = (n : Int) := Int64.toInt_ofNat_of_lt (by omega)
/-- what a day costs, by the water behind it and whether the bank is flooded -/
def woL (t : LA_) (w f : Nat) : Nat := (if w / t.s 1 < t.s 5 then t.s 6 else 0) + (if f = 1 then t.s 8 else 0)
theorem gd_0 {s : Nat → Nat} {w j : Nat} : s j = upN s 3 (s 3 + (w - w)) j := by
  unfold upN
  split
  · rename_i e
    rw [e, Nat.sub_self]
    rfl
  · rfl
theorem gd_up {t : LA_} {b : Nat → Nat} {l d w i : Nat} {s : Nat → Nat} (j : Nat) : upN (upN s 3 (s 3 + (w - leftT t b l d w i))) 3 (upN s 3 (s 3 + (w - leftT t b l d w i)) 3 + flowT t b l d w i) j = upN s 3 (s 3 + (w - leftT t b l d w (i + 1))) j := by
  by_cases e : j = 3
  · subst e
    rw [upN_s, upN_s, upN_s, left_s]
    have a : flowT t b l d w i ≤ leftT t b l d w i := flow_le
    have c : leftT t b l d w i ≤ w := left_le
    omega
  · rw [upN_n e, upN_n e, upN_n e]
/-- a row copied so far -/
def CPR (F' F : Nat → Int32) (o : Nat) (n : Nat) : Prop := ∀ j, j < n → F' (o + j) = F j
theorem cpr_0 {F F' : Nat → Int32} {o : Nat} : CPR F' F o 0 := fun j hj => absurd hj (Nat.not_lt_zero _)
theorem cpr_up {F F' : Nat → Int32} {o n : Nat} (h : CPR F' F o n) : CPR (upd F' (o + n) (F n)) F o (n + 1) := by
  intro j hj
  by_cases e : j = n
  · rw [e, pk_us]
  · rw [pk_un (by omega)]
    exact h j (by omega)
theorem cpr_u0 {F F' : Nat → Int32} {n : Nat} (h : CPR F' F 0 n) : CPR (upd F' n (F n)) F 0 (n + 1) := by
  have := cpr_up h
  rw [Nat.zero_add] at this
  exact this
theorem nc_lt {a b : Nat} (ha : a < 2 ^ 31) (hb : b < 2 ^ 31) : lg_cmp (nL a) (nL b) < 0 ↔ a < b := by
  rw [lg_cmp_lt, Int64.lt_iff_toInt_lt, nL_b ha, nL_b hb]
  omega
theorem nc_gt {a b : Nat} (ha : a < 2 ^ 31) (hb : b < 2 ^ 31) : 0 < lg_cmp (nL a) (nL b) ↔ b < a := by
  rw [lg_cmp_gt, Int64.lt_iff_toInt_lt, nL_b ha, nL_b hb]
  omega
theorem fq_up {f g : Nat → Nat} {i : Nat} (j : Nat) : upN (fuT i f g) i (f i) j = fuT (i + 1) f g j := by
  by_cases e : j = i
  · subst e
    rw [upN_s]
    exact (if_pos (Nat.lt_succ_self _)).symm
  · rw [upN_n e]
    by_cases c : j < i
    · exact (if_pos c).trans (if_pos (by omega)).symm
    · exact (if_neg c).trans (if_neg (by omega)).symm
