section JU
variable {p : Program} {l : Launch} {e : Env} {R : Room} {s : State} {m : MethodId} {args : Array Value} {below : List Frame} {meth : Method} {c : Code} {Q : State → Prop} {D : va_G} {A : Nat → Prop} {nL : Nat} {ws : va_W} {lv : List (Nat × Value)} {kc ks pc : Nat} {st : List Value}
theorem j_lv {lv' : List (Nat × Value)} (h : lv = lv') (kk : J p l e R s m args below meth c Q D A nL ws lv' kc ks pc st) : J p l e R s m args below meth c Q D A nL ws lv kc ks pc st := h ▸ kk
end JU
theorem nb {a b : Nat} (h : Nat.ble a b = true) : a ≤ b := Nat.le_of_ble_eq_true h
theorem nl {a b : Nat} (h : Nat.ble (a + 1) b = true) : a < b := Nat.le_of_ble_eq_true h
theorem vin {i : Int32} {n : Nat} (h : (decide (i < 0) || Nat.ble n i.toNatClampNeg) = false) : vp_in i n := by
  simp only [Bool.or_eq_false_iff, decide_eq_false_iff_not] at h
  intro q
  rcases q with q | q
  · exact h.1 q
  · rw [Nat.ble_eq_true_of_le q] at h
    exact absurd h.2 (by decide)
theorem up_z0 (k : Nat) : upd (fun _ => (0 : Int32)) k 0 = fun _ => 0 := by
  funext j
  simp [upd]
theorem nI_ofT {x : Int32} {n : Nat} (h0 : 0 ≤ x.toInt) (h : x.toInt ≤ n) (hn : n < 2 ^ 31) : ∃ j : Nat, j ≤ n ∧ x = nI j := ⟨x.toInt.toNat, by omega, Int32.toInt_inj.mp (by rw [nI_toInt (by omega)]; omega)⟩
theorem nI_lt2 {x : Int32} {n : Nat} (h0 : ¬ x < 0) (h : ¬ nI n ≤ x) (hn : n < 2 ^ 31) : ∃ j : Nat, j < n ∧ x = nI j := by
  obtain ⟨j, hj, rfl⟩ := nI_of h0
  refine ⟨j, ?_, rfl⟩
  rcases Nat.lt_or_ge j n with q | q
  · exact q
  · exact absurd (nI_le q (by omega)) h
theorem fm_sgn {r z : Int32} (hz : 0 < z.toInt) : (r ^^^ z).toInt < 0 ↔ r.toInt < 0 := by
  have hx : ∀ q : Int32, q.toInt < 0 ↔ q.toBitVec.msb = true := fun q => by
    rw [BitVec.msb_eq_toInt, decide_eq_true_iff]
    exact Iff.rfl
  have hm : z.toBitVec.msb = false := by
    rw [← Bool.not_eq_true, ← hx]
    omega
  rw [hx, hx, Int32.toBitVec_xor, BitVec.msb_xor, hm, Bool.xor_false]
theorem fm_pos {z : Int32} (hp : ¬ z ≤ 0) : 0 < z.toInt := by
  have := Int32.lt_iff_toInt_lt.mp (Int32.not_le.mp hp)
  simpa using this
theorem fm_b {x z : Int32} (hp : ¬ z ≤ 0) : -z.toInt < (x - x / z * z).toInt ∧ (x - x / z * z).toInt < z.toInt := by
  rw [rem_toInt]
  exact tmod_bounds (fm_pos hp)
theorem fm_T {x z : Int32} (hp : ¬ z ≤ 0) (c : 0 ≤ (x ^^^ z)) : 0 ≤ (x - x / z * z).toInt ∧ (x - x / z * z).toInt < z.toInt := by
  refine ⟨?_, (fm_b hp).2⟩
  have h2 := Int32.le_iff_toInt_le.mp c
  rw [(by decide : Int32.toInt 0 = 0)] at h2
  have hx : 0 ≤ x.toInt := by
    by_cases q : x.toInt < 0
    · have h1 := (fm_sgn (fm_pos hp)).mpr q
      omega
    · omega
  rw [rem_toInt]
  exact Int.tmod_nonneg _ hx
theorem fm_0 {x z : Int32} (hp : ¬ z ≤ 0) (c : x - x / z * z = 0) : 0 ≤ (x - x / z * z).toInt ∧ (x - x / z * z).toInt < z.toInt := by
  have := fm_pos hp
  rw [c, (by decide : Int32.toInt 0 = 0)]
  omega
theorem fm_F {x z : Int32} (hp : ¬ z ≤ 0) (c : ¬ 0 ≤ (x ^^^ z)) (c2 : ¬ x - x / z * z = 0) : 0 ≤ (x - x / z * z + z).toInt ∧ (x - x / z * z + z).toInt < z.toInt := by
  have h0 := fm_pos hp
  have hb := fm_b (x := x) hp
  have h1 := Int32.lt_iff_toInt_lt.mp (Int32.not_le.mp c)
  rw [(by decide : Int32.toInt 0 = 0), fm_sgn h0] at h1
  have hn : (x - x / z * z).toInt ≤ 0 := by
    rw [rem_toInt]
    have h3 := Int.tmod_nonneg (a := -x.toInt) z.toInt (by omega)
    rw [Int.neg_tmod] at h3
    omega
  have hne : (x - x / z * z).toInt ≠ 0 := fun e => c2 (Int32.toInt_inj.mp (e.trans (by decide)))
  have hz := z.toInt_lt
  rw [Jvm.Kit.i32_add (by omega) (by omega)]
  omega
theorem vo_of {r c : Int32} {n : Nat} (h : 0 ≤ r.toInt ∧ r.toInt < c.toInt) (hc : c = nI n) (hn : n < 2 ^ 31) : ∃ j : Nat, j < n ∧ r = nI j := by
  rw [hc, nI_toInt hn] at h
  exact ⟨r.toInt.toNat, by omega, Int32.toInt_inj.mp (by rw [nI_toInt (by omega)]; omega)⟩
abbrev LD : Type := (Nat → Int32) × (Nat → Nat → Int32)
abbrev SD : Type := (Nat → Int32) × (Nat → Nat → Int32) × (Nat → Nat → Int64)
section JS
variable {p : Program} {l : Launch} {e : Env} {R : Room} {s : State} {m : MethodId} {args : Array Value} {below : List Frame} {meth : Method} {c : Code} {Q : State → Prop} {D : va_G} {A : Nat → Prop} {nL : Nat} {ws : va_W} {lv : List (Nat × Value)} {kc ks pc : Nat} {st : List Value}
theorem j_subT {X X' T : va_W} (is : List Nat) (hs : is.map (fun i => X[i]?) = X'.map some) (hn : va_nd is = true) (kk : J p l e R s m args below meth c Q D A nL (X' ++ T) lv kc ks pc st) : J p l e R s m args below meth c Q D A nL (X ++ T) lv kc ks pc st := fun H L ls a b d f => kk H L ls (a.part is hs) (b.part is hn hs) d f
end JS
