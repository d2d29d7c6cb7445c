/-! tests by a pile of what waits, against tests by depth -/
def isN (v : Nat) : Bool := decide (v = 14)
def isDO (v : Nat) : Bool := decide (v = 14 ∨ v = 15)
def nSq (v : Nat) : Bool := decide (¬ v = 25)
/-- what is denied is behind: (pile, codes, open) -/
def dnN : List Nat → List Nat → Nat → List Nat × List Nat × Nat
  | [], cs, o => ([], cs, o)
  | v :: W, cs, o => if v = 16 then dnN W (putS 16 cs) (o - 1) else (v :: W, cs, o)
section MB_
variable (tx : Nat → Nat) (k : Nat)
/-- a fact without what opens ahead of it -/
def fact0 (e : Nat) (x : SX) : SX :=
  if iswS tx k 27 x.1 = true then (advS tx k x.1, putS 17 x.2)
  else ((sumE tx k e (rsS tx k (cmpG tx k (sumE tx k e x).1) (sumE tx k e x).1, (sumE tx k e x).2)).1, putS (cmpC tx k (sumE tx k e x).1) (sumE tx k e (rsS tx k (cmpG tx k (sumE tx k e x).1) (sumE tx k e x).1, (sumE tx k e x).2)).2)
def stepT (x : PS) (cs W : List Nat) (o : Nat) : Nat × MX :=
  if ¬ x.1 = 0 then (2, (x, cs, W, o))
  else if issS tx k 91 x = true then (if o = 6 then (2, (failS 4 (stS tx k x) x, cs, W, o)) else (0, (advS tx k x, cs, 25 :: W, o + 1)))
  else if iswS tx k 26 x = true then (if o = 6 then (2, (failS 4 (stS tx k x) x, cs, W, o)) else (0, (advS tx k x, cs, 16 :: W, o + 1)))
  else if ¬ (fact0 tx k (6 - o) (x, cs)).1.1 = 0 then (2, ((fact0 tx k (6 - o) (x, cs)).1, cs, W, o))
  else (1, ((fact0 tx k (6 - o) (x, cs)).1, (dnN W (fact0 tx k (6 - o) (x, cs)).2 o).2.1, (dnN W (fact0 tx k (6 - o) (x, cs)).2 o).1, (dnN W (fact0 tx k (6 - o) (x, cs)).2 o).2.2))
def stepG (x : PS) (cs W : List Nat) (o : Nat) : Nat × MX :=
  if ¬ x.1 = 0 then (2, (x, cs, W, o))
  else if issS tx k 93 x = true ∧ 25 ∈ W then
    (1, (advS tx k x, (dnN (drp nSq W cs).1.tail (drp nSq W cs).2 (o - 1)).2.1, (dnN (drp nSq W cs).1.tail (drp nSq W cs).2 (o - 1)).1, (dnN (drp nSq W cs).1.tail (drp nSq W cs).2 (o - 1)).2.2))
  else if iswS tx k 25 x = true then (0, (advS tx k x, (drp isN W cs).2, 14 :: (drp isN W cs).1, o))
  else if iswS tx k 24 x = true then (0, (advS tx k x, (drp isDO W cs).2, 15 :: (drp isDO W cs).1, o))
  else if 25 ∈ W then (2, (failS 1 (stS tx k x) x, cs, W, o))
  else (2, (x, cs, W, o))
def stepB (c : Nat × MX) : Nat × MX := if c.1 = 0 then stepT tx k c.2.1 c.2.2.1 c.2.2.2.1 c.2.2.2.2 else if c.1 = 1 then stepG tx k c.2.1 c.2.2.1 c.2.2.2.1 c.2.2.2.2 else c
def itB : Nat → Nat × MX → Nat × MX
  | 0, c => c
  | n + 1, c => itB n (stepB tx k c)
def Rcb (c d : Nat × MX) : Prop := ∃ n, itB tx k n c = d
end MB_
section MBL
variable {tx : Nat → Nat} {k : Nat}
theorem itB_add (m n : Nat) (c : Nat × MX) : itB tx k (m + n) c = itB tx k n (itB tx k m c) := by
  induction m generalizing c with
  | zero => rw [Nat.zero_add]; rfl
  | succ m ih =>
    rw [Nat.succ_add]
    exact ih _
theorem Rcb.rf (c : Nat × MX) : Rcb tx k c c := ⟨0, rfl⟩
theorem Rcb.tr {a b c : Nat × MX} (h : Rcb tx k a b) (g : Rcb tx k b c) : Rcb tx k a c := by
  obtain ⟨m, rfl⟩ := h
  obtain ⟨n, rfl⟩ := g
  exact ⟨m + n, itB_add m n a⟩
theorem Rcb.st {a b c : Nat × MX} (h : stepB tx k a = b) (g : Rcb tx k b c) : Rcb tx k a c := by
  obtain ⟨n, rfl⟩ := g
  exact ⟨n + 1, by rw [← h]; rfl⟩
theorem itB_2 (n : Nat) {c : Nat × MX} (h : c.1 = 2) : itB tx k n c = c := by
  induction n with
  | zero => rfl
  | succ n ih =>
    have : stepB tx k c = c := by
      unfold stepB
      rw [if_neg (by omega), if_neg (by omega)]
    show itB tx k n (stepB tx k c) = c
    rw [this, ih]
theorem Rcb.un {a b c : Nat × MX} (h : Rcb tx k a b) (g : Rcb tx k a c) (hb : b.1 = 2) (hc : c.1 = 2) : b = c := by
  obtain ⟨m, hm⟩ := h
  obtain ⟨n, hn⟩ := g
  have e1 : itB tx k (m + n) a = b := by rw [itB_add, hm, itB_2 n hb]
  have e2 : itB tx k (m + n) a = c := by rw [Nat.add_comm, itB_add, hn, itB_2 m hc]
  exact e1.symm.trans e2
theorem stT (x : PS) (cs W : List Nat) (o : Nat) : stepB tx k (0, (x, cs, W, o)) = stepT tx k x cs W o := rfl
theorem stG (x : PS) (cs W : List Nat) (o : Nat) : stepB tx k (1, (x, cs, W, o)) = stepG tx k x cs W o := rfl
theorem dn_no {W : List Nat} (h : ∀ v, W.head? = some v → ¬ v = 16) (cs : List Nat) (o : Nat) : dnN W cs o = (W, cs, o) := by
  cases W with
  | nil => rfl
  | cons a W => exact if_neg (h a rfl)
/-! places -/
theorem fact_d (e : Nat) : DOK (factE tx k e) := by
  have f : ∀ e dp, DOK (factF tx k e dp) := by
    intro e dp x cs h
    unfold factF
    dsimp only
    rw [if_neg (no_w h _), if_neg (no_s h _), if_neg (no_w h _)]
    dsimp only
    rw [sumE_d e x cs h, rs_d h, sumE_d e x _ h]
  cases e with
  | zero => exact f 0 none
  | succ e => exact f (e + 1) _
theorem opD_d (x : PS) (h : ¬ x.1 = 0) : opD tx k x = 0 := opD_0 (no_w h _)
theorem opO_d (x : PS) (h : ¬ x.1 = 0) : opO tx k x = 0 := opO_0 (no_w h _)
theorem both_d {f : SX → SX} (h : DOK f) : DOK (bothF tx k f) := fun x cs hx => bin_d opD_d 1600 h x cs hx
theorem test_d {f : SX → SX} (h : DOK f) : DOK (testF tx k f) := fun x cs hx => bin_d opO_d 1600 (both_d h) x cs hx
theorem sum_pos (hk : k ≤ 1600) {e : Nat} (he : e ≤ 6) {x : PS} {cs : List Nat} (hx : x.1 = 0) (hp : x.2.2.1 ≤ k) (h : (sumE tx k e (x, cs)).1.1 = 0) : x.2.2.1 < (sumE tx k e (x, cs)).1.2.2.1 ∧ (sumE tx k e (x, cs)).1.2.2.1 ≤ k := by
  obtain ⟨_, _, _, _, _, _, _, a, b⟩ := (sumE_ok hk e (6 - e) (by omega) x cs [] hx hp (fun v hv => by cases hv)).1 h
  exact ⟨a, b⟩
theorem fact0_pos (hk : k ≤ 1600) {e : Nat} (he : e ≤ 6) {x : PS} {cs : List Nat} (hx : x.1 = 0) (hp : x.2.2.1 ≤ k) (h : (fact0 tx k e (x, cs)).1.1 = 0) : x.2.2.1 < (fact0 tx k e (x, cs)).1.2.2.1 ∧ (fact0 tx k e (x, cs)).1.2.2.1 ≤ k := by
  by_cases w : iswS tx k 27 x = true
  · have e1 : fact0 tx k e (x, cs) = (advS tx k x, putS 17 cs) := if_pos w
    rw [e1]
    exact adv_pos hx (sw_ne w) hp
  · have e1 : (fact0 tx k e (x, cs)).1 = (sumE tx k e (rsS tx k (cmpG tx k (sumE tx k e (x, cs)).1) (sumE tx k e (x, cs)).1, (sumE tx k e (x, cs)).2)).1 := by
      unfold fact0
      dsimp only
      rw [if_neg w]
    rw [e1] at h ⊢
    have z1 : (rsS tx k (cmpG tx k (sumE tx k e (x, cs)).1) (sumE tx k e (x, cs)).1).1 = 0 := by
      by_cases q : (rsS tx k (cmpG tx k (sumE tx k e (x, cs)).1) (sumE tx k e (x, cs)).1).1 = 0
      · exact q
      · rw [sumE_d e _ _ q] at h
        exact absurd h q
    obtain ⟨g, e2⟩ := rs_ok z1
    have z0 := iss_al g
    obtain ⟨a, b⟩ := sum_pos hk he hx hp z0
    obtain ⟨c, d⟩ := adv_pos z0 (ss_ne g) b
    rw [← e2] at c d
    obtain ⟨f1, f2⟩ := sum_pos hk he z1 d h
    exact ⟨by omega, f2⟩
def FOK (tx : Nat → Nat) (k : Nat) (f : SX → SX) (o : Nat) : Prop := ∀ x cs W, x.1 = 0 → x.2.2.1 ≤ k →
  ((f (x, cs)).1.1 = 0 → Rcb tx k (0, (x, cs, W, o)) (1, ((f (x, cs)).1, (dnN W (f (x, cs)).2 o).2.1, (dnN W (f (x, cs)).2 o).1, (dnN W (f (x, cs)).2 o).2.2)) ∧ x.2.2.1 < (f (x, cs)).1.2.2.1 ∧ (f (x, cs)).1.2.2.1 ≤ k) ∧
  (¬ (f (x, cs)).1.1 = 0 → ∃ cs' S' o', Rcb tx k (0, (x, cs, W, o)) (2, ((f (x, cs)).1, cs', S', o')))
/-- a test: the pile C below it stays -/
def TOK (tx : Nat → Nat) (k : Nat) (f : SX → SX) (o : Nat) (p : Nat → Bool) (ends : PS → Prop) : Prop := ∀ x cs C, x.1 = 0 → x.2.2.1 ≤ k → (∀ v, C.head? = some v → ¬ p v = true ∧ ¬ v = 16) →
  ((f (x, cs)).1.1 = 0 → ∃ cs' P, Rcb tx k (0, (x, cs, C, o)) (1, ((f (x, cs)).1, cs', P ++ C, o)) ∧ (∀ v ∈ P, p v = true) ∧ (f (x, cs)).2 = emt P cs' ∧ ends (f (x, cs)).1 ∧ x.2.2.1 < (f (x, cs)).1.2.2.1 ∧ (f (x, cs)).1.2.2.1 ≤ k) ∧
  (¬ (f (x, cs)).1.1 = 0 → ∃ cs' S' o', Rcb tx k (0, (x, cs, C, o)) (2, ((f (x, cs)).1, cs', S', o')))
theorem opD_v {x : PS} (h : ¬ opD tx k x = 0) : iswS tx k 25 x = true ∧ opD tx k x = 14 := by
  by_cases a : iswS tx k 25 x = true
  · exact ⟨a, opD_1 a⟩
  · exact absurd (opD_0 a) h
theorem opO_v {x : PS} (h : ¬ opO tx k x = 0) : iswS tx k 24 x = true ∧ opO tx k x = 15 := by
  by_cases a : iswS tx k 24 x = true
  · exact ⟨a, opO_1 a⟩
  · exact absurd (opO_0 a) h
theorem sG_25 {x : PS} {cs W : List Nat} {o : Nat} (n : iswS tx k 25 x = true) : stepG tx k x cs W o = (0, (advS tx k x, (drp isN W cs).2, 14 :: (drp isN W cs).1, o)) := by
  unfold stepG
  rw [if_neg (nn (isw_al n)), if_neg (fun g => iss_w g.1 n), if_pos n]
theorem sG_24 {x : PS} {cs W : List Nat} {o : Nat} (n : iswS tx k 24 x = true) : stepG tx k x cs W o = (0, (advS tx k x, (drp isDO W cs).2, 15 :: (drp isDO W cs).1, o)) := by
  unfold stepG
  rw [if_neg (nn (isw_al n)), if_neg (fun g => iss_w g.1 n), if_neg (fun g => isw_w g (by decide) (by decide) (by decide) n), if_pos n]
/-- facts joined by and -/
theorem bothL_ok {f0 : SX → SX} {o : Nat} (hP : FOK tx k f0 o) (hD : DOK f0) (f : Nat) : ∀ x cs' P C, x.1 = 0 → x.2.2.1 ≤ k → k - x.2.2.1 < f → (∀ v ∈ P, isN v = true) → (∀ v, C.head? = some v → ¬ isN v = true ∧ ¬ v = 16) →
    ((binL tx k (opD tx k) f0 f (x, emt P cs')).1.1 = 0 → ∃ cs'' P', Rcb tx k (1, (x, cs', P ++ C, o)) (1, ((binL tx k (opD tx k) f0 f (x, emt P cs')).1, cs'', P' ++ C, o)) ∧ (∀ v ∈ P', isN v = true) ∧ (binL tx k (opD tx k) f0 f (x, emt P cs')).2 = emt P' cs'' ∧ opD tx k (binL tx k (opD tx k) f0 f (x, emt P cs')).1 = 0 ∧ x.2.2.1 ≤ (binL tx k (opD tx k) f0 f (x, emt P cs')).1.2.2.1 ∧ (binL tx k (opD tx k) f0 f (x, emt P cs')).1.2.2.1 ≤ k) ∧
    (¬ (binL tx k (opD tx k) f0 f (x, emt P cs')).1.1 = 0 → ∃ a S' o', Rcb tx k (1, (x, cs', P ++ C, o)) (2, ((binL tx k (opD tx k) f0 f (x, emt P cs')).1, a, S', o'))) := by
  induction f with
  | zero => exact fun x _ _ _ _ _ h => absurd h (by omega)
  | succ f ih =>
    intro x cs' P C hx hp hf hPm hC
    by_cases op : opD tx k x = 0
    · rw [binL_st op]
      exact ⟨fun _ => ⟨cs', P, Rcb.rf _, hPm, rfl, op, Nat.le_refl _, hp⟩, fun h => absurd hx h⟩
    · obtain ⟨g, ev⟩ := opD_v op
      obtain ⟨q1, q2⟩ := adv_pos hx (sw_ne g) hp
      rw [binL_1 op, ev]
      have st : Rcb tx k (1, (x, cs', P ++ C, o)) (0, (advS tx k x, emt P cs', 14 :: C, o)) := by
        refine Rcb.st ((stG _ _ _ _).trans (sG_25 g)) ?_
        rw [drp_app hPm, drp_stop (fun v hv => (hC v hv).1)]
        exact Rcb.rf _
      obtain ⟨a, b⟩ := hP (advS tx k x) (emt P cs') (14 :: C) (adv_ok hx) q2
      by_cases z : (f0 (advS tx k x, emt P cs')).1.1 = 0
      · obtain ⟨a1, a2, a3⟩ := a z
        rw [dn_no (fun v hv => by rw [← Option.some.inj hv]; decide)] at a1
        obtain ⟨u, v⟩ := ih (f0 (advS tx k x, emt P cs')).1 (f0 (advS tx k x, emt P cs')).2 [14] C z a3 (by omega) (fun v hv => by rw [List.mem_singleton.mp hv]; decide) hC
        refine ⟨fun h => ?_, fun h => ?_⟩
        · obtain ⟨c1, c2, c3, c4, c5, c6, c7, c8⟩ := u h
          exact ⟨c1, c2, st.tr (a1.tr c3), c4, c5, c6, Nat.le_trans (Nat.le_of_lt (Nat.lt_trans q1 a2)) c7, c8⟩
        · obtain ⟨c1, c2, c3, c4⟩ := v h
          exact ⟨c1, c2, c3, st.tr (a1.tr c4)⟩
      · have e : binL tx k (opD tx k) f0 f ((f0 (advS tx k x, emt P cs')).1, putS 14 (f0 (advS tx k x, emt P cs')).2) = ((f0 (advS tx k x, emt P cs')).1, putS 14 (f0 (advS tx k x, emt P cs')).2) := binL_st (opD_d _ z)
        rw [e]
        refine ⟨fun h => absurd h z, fun _ => ?_⟩
        obtain ⟨c1, c2, c3, c4⟩ := b z
        exact ⟨c1, c2, c3, st.tr c4⟩
theorem both_ok {f0 : SX → SX} {o : Nat} (hk : k ≤ 1600) (hP : FOK tx k f0 o) (hD : DOK f0) : TOK tx k (bothF tx k f0) o isN (fun y => opD tx k y = 0) := by
  intro x cs C hx hp hC
  obtain ⟨a, b⟩ := hP x cs C hx hp
  by_cases z : (f0 (x, cs)).1.1 = 0
  · obtain ⟨a1, a2, a3⟩ := a z
    rw [dn_no (fun v hv => (hC v hv).2)] at a1
    obtain ⟨u, v⟩ := bothL_ok hP hD 1600 (f0 (x, cs)).1 (f0 (x, cs)).2 [] C z a3 (by omega) (fun v hv => absurd hv (by simp)) hC
    refine ⟨fun h => ?_, fun h => ?_⟩
    · obtain ⟨c1, c2, c3, c4, c5, c6, c7, c8⟩ := u h
      exact ⟨c1, c2, a1.tr c3, c4, c5, c6, Nat.lt_of_lt_of_le a2 c7, c8⟩
    · obtain ⟨c1, c2, c3, c4⟩ := v h
      exact ⟨c1, c2, c3, a1.tr c4⟩
  · have e : bothF tx k f0 (x, cs) = ((f0 (x, cs)).1, (f0 (x, cs)).2) := binL_st (opD_d _ z)
    rw [e]
    exact ⟨fun h => absurd h z, fun _ => b z⟩
theorem n_do {P : List Nat} (h : ∀ v ∈ P, isN v = true) : ∀ v ∈ P, isDO v = true := fun v hv => by
  have := of_decide_eq_true (h v hv)
  exact decide_eq_true (Or.inl this)
theorem testL_ok {f0 : SX → SX} {o : Nat} (hk : k ≤ 1600) (hP : FOK tx k f0 o) (hD : DOK f0) (f : Nat) : ∀ x cs' P C, x.1 = 0 → x.2.2.1 ≤ k → k - x.2.2.1 < f → opD tx k x = 0 → (∀ v ∈ P, isDO v = true) → (∀ v, C.head? = some v → ¬ isDO v = true ∧ ¬ v = 16) →
    ((binL tx k (opO tx k) (bothF tx k f0) f (x, emt P cs')).1.1 = 0 → ∃ cs'' P', Rcb tx k (1, (x, cs', P ++ C, o)) (1, ((binL tx k (opO tx k) (bothF tx k f0) f (x, emt P cs')).1, cs'', P' ++ C, o)) ∧ (∀ v ∈ P', isDO v = true) ∧ (binL tx k (opO tx k) (bothF tx k f0) f (x, emt P cs')).2 = emt P' cs'' ∧ opD tx k (binL tx k (opO tx k) (bothF tx k f0) f (x, emt P cs')).1 = 0 ∧ opO tx k (binL tx k (opO tx k) (bothF tx k f0) f (x, emt P cs')).1 = 0 ∧ x.2.2.1 ≤ (binL tx k (opO tx k) (bothF tx k f0) f (x, emt P cs')).1.2.2.1 ∧ (binL tx k (opO tx k) (bothF tx k f0) f (x, emt P cs')).1.2.2.1 ≤ k) ∧
    (¬ (binL tx k (opO tx k) (bothF tx k f0) f (x, emt P cs')).1.1 = 0 → ∃ a S' o', Rcb tx k (1, (x, cs', P ++ C, o)) (2, ((binL tx k (opO tx k) (bothF tx k f0) f (x, emt P cs')).1, a, S', o'))) := by
  induction f with
  | zero => exact fun x _ _ _ _ _ h => absurd h (by omega)
  | succ f ih =>
    intro x cs' P C hx hp hf hm hPm hC
    by_cases op : opO tx k x = 0
    · rw [binL_st op]
      exact ⟨fun _ => ⟨cs', P, Rcb.rf _, hPm, rfl, hm, op, Nat.le_refl _, hp⟩, fun h => absurd hx h⟩
    · obtain ⟨g, ev⟩ := opO_v op
      obtain ⟨q1, q2⟩ := adv_pos hx (sw_ne g) hp
      rw [binL_1 op, ev]
      have st : Rcb tx k (1, (x, cs', P ++ C, o)) (0, (advS tx k x, emt P cs', 15 :: C, o)) := by
        refine Rcb.st ((stG _ _ _ _).trans (sG_24 g)) ?_
        rw [drp_app hPm, drp_stop (fun v hv => (hC v hv).1)]
        exact Rcb.rf _
      obtain ⟨a, b⟩ := both_ok hk hP hD (advS tx k x) (emt P cs') (15 :: C) (adv_ok hx) q2 (fun v hv => by rw [← Option.some.inj hv]; decide)
      by_cases z : (bothF tx k f0 (advS tx k x, emt P cs')).1.1 = 0
      · obtain ⟨cs2, P2, a1, a4, a5, a6, a2, a3⟩ := a z
        have e2 : putS 15 (bothF tx k f0 (advS tx k x, emt P cs')).2 = emt (P2 ++ [15]) cs2 := by
          rw [emt_app, ← a5]
          rfl
        rw [e2]
        obtain ⟨u, v⟩ := ih (bothF tx k f0 (advS tx k x, emt P cs')).1 cs2 (P2 ++ [15]) C z a3 (by omega) a6 (fun v hv' => by
          rcases List.mem_append.mp hv' with q | q
          · exact n_do a4 v q
          · rw [List.mem_singleton.mp q]
            decide) hC
        have a1' : Rcb tx k (1, (x, cs', P ++ C, o)) (1, ((bothF tx k f0 (advS tx k x, emt P cs')).1, cs2, (P2 ++ [15]) ++ C, o)) := by
          rw [List.append_assoc]
          exact st.tr a1
        refine ⟨fun h => ?_, fun h => ?_⟩
        · obtain ⟨c1, c2, c3, c4, c5, c6, c6', c7, c8⟩ := u h
          exact ⟨c1, c2, a1'.tr c3, c4, c5, c6, c6', Nat.le_trans (Nat.le_of_lt (Nat.lt_trans q1 a2)) c7, c8⟩
        · obtain ⟨c1, c2, c3, c4⟩ := v h
          exact ⟨c1, c2, c3, a1'.tr c4⟩
      · have e : binL tx k (opO tx k) (bothF tx k f0) f ((bothF tx k f0 (advS tx k x, emt P cs')).1, putS 15 (bothF tx k f0 (advS tx k x, emt P cs')).2) = ((bothF tx k f0 (advS tx k x, emt P cs')).1, putS 15 (bothF tx k f0 (advS tx k x, emt P cs')).2) := binL_st (opO_d _ z)
        rw [e]
        refine ⟨fun h => absurd h z, fun _ => ?_⟩
        obtain ⟨c1, c2, c3, c4⟩ := b z
        exact ⟨c1, c2, c3, st.tr c4⟩
theorem test_ok {f0 : SX → SX} {o : Nat} (hk : k ≤ 1600) (hP : FOK tx k f0 o) (hD : DOK f0) : TOK tx k (testF tx k f0) o isDO (fun y => opD tx k y = 0 ∧ opO tx k y = 0) := by
  intro x cs C hx hp hC
  obtain ⟨a, b⟩ := both_ok hk hP hD x cs C hx hp (fun v hv => ⟨fun q => (hC v hv).1 (by
    have := of_decide_eq_true q
    exact decide_eq_true (Or.inl this)), (hC v hv).2⟩)
  by_cases z : (bothF tx k f0 (x, cs)).1.1 = 0
  · obtain ⟨cs2, P2, a1, a4, a5, a6, a2, a3⟩ := a z
    have e : testF tx k f0 (x, cs) = binL tx k (opO tx k) (bothF tx k f0) 1600 ((bothF tx k f0 (x, cs)).1, emt P2 cs2) := by
      rw [← a5]
      rfl
    rw [e]
    obtain ⟨u, v⟩ := testL_ok hk hP hD 1600 (bothF tx k f0 (x, cs)).1 cs2 P2 C z a3 (by omega) a6 (n_do a4) hC
    refine ⟨fun h => ?_, fun h => ?_⟩
    · obtain ⟨c1, c2, c3, c4, c5, c6, c6', c7, c8⟩ := u h
      exact ⟨c1, c2, a1.tr c3, c4, c5, ⟨c6, c6'⟩, Nat.lt_of_lt_of_le a2 c7, c8⟩
    · obtain ⟨c1, c2, c3, c4⟩ := v h
      exact ⟨c1, c2, c3, a1.tr c4⟩
  · have e : testF tx k f0 (x, cs) = ((bothF tx k f0 (x, cs)).1, (bothF tx k f0 (x, cs)).2) := binL_st (opO_d _ z)
    rw [e]
    exact ⟨fun h => absurd h z, fun _ => b z⟩
/-- a fact, whatever opens ahead of it -/
theorem fact_ok (hk : k ≤ 1600) (e : Nat) : ∀ o, o + e = 6 → FOK tx k (factE tx k e) o := by
  have plain : ∀ e o dp, o + e = 6 → ∀ x cs W, x.1 = 0 → x.2.2.1 ≤ k → ¬ iswS tx k 26 x = true → ¬ issS tx k 91 x = true →
      ((factF tx k e dp (x, cs)).1.1 = 0 → Rcb tx k (0, (x, cs, W, o)) (1, ((factF tx k e dp (x, cs)).1, (dnN W (factF tx k e dp (x, cs)).2 o).2.1, (dnN W (factF tx k e dp (x, cs)).2 o).1, (dnN W (factF tx k e dp (x, cs)).2 o).2.2)) ∧ x.2.2.1 < (factF tx k e dp (x, cs)).1.2.2.1 ∧ (factF tx k e dp (x, cs)).1.2.2.1 ≤ k) ∧
      (¬ (factF tx k e dp (x, cs)).1.1 = 0 → ∃ cs' S' o', Rcb tx k (0, (x, cs, W, o)) (2, ((factF tx k e dp (x, cs)).1, cs', S', o'))) := by
    intro e o dp he x cs W hx hp h1 h2
    have e1 : factF tx k e dp (x, cs) = fact0 tx k e (x, cs) := by
      unfold factF fact0
      dsimp only
      rw [if_neg h1, if_neg h2]
    have e6 : 6 - o = e := by omega
    rw [e1]
    refine ⟨fun h => ⟨Rcb.st ((stT _ _ _ _).trans ?_) (Rcb.rf _), fact0_pos hk (by omega) hx hp h⟩, fun h => ⟨cs, W, o, Rcb.st ((stT _ _ _ _).trans ?_) (Rcb.rf _)⟩⟩
    · unfold stepT
      rw [if_neg (nn hx), if_neg h2, if_neg h1, e6, if_neg (nn h)]
    · unfold stepT
      rw [if_neg (nn hx), if_neg h2, if_neg h1, e6, if_pos h]
  induction e with
  | zero =>
    intro o ho x cs W hx hp
    by_cases w : iswS tx k 26 x = true
    · have e1 : factE tx k 0 (x, cs) = (failS 4 (stS tx k x) x, cs) := if_pos w
      rw [e1]
      refine ⟨fun h => absurd h (fail_nz (by decide)), fun _ => ⟨cs, W, o, Rcb.st ((stT _ _ _ _).trans ?_) (Rcb.rf _)⟩⟩
      unfold stepT
      rw [if_neg (nn hx), if_neg (fun g => iss_w g w), if_pos w, if_pos (by omega)]
    · by_cases s : issS tx k 91 x = true
      · have e1 : factE tx k 0 (x, cs) = (failS 4 (stS tx k x) x, cs) := (if_neg w).trans (if_pos s)
        rw [e1]
        refine ⟨fun h => absurd h (fail_nz (by decide)), fun _ => ⟨cs, W, o, Rcb.st ((stT _ _ _ _).trans ?_) (Rcb.rf _)⟩⟩
        unfold stepT
        rw [if_neg (nn hx), if_pos s, if_pos (by omega)]
      · exact plain 0 o none ho x cs W hx hp w s
  | succ e ih =>
    intro o ho x cs W hx hp
    have ih' := ih (o + 1) (by omega)
    by_cases w : iswS tx k 26 x = true
    · have e1 : factE tx k (e + 1) (x, cs) = ((factE tx k e (advS tx k x, cs)).1, putS 16 (factE tx k e (advS tx k x, cs)).2) := if_pos w
      rw [e1]
      obtain ⟨q1, q2⟩ := adv_pos hx (sw_ne w) hp
      have st : Rcb tx k (0, (x, cs, W, o)) (0, (advS tx k x, cs, 16 :: W, o + 1)) := by
        refine Rcb.st ((stT _ _ _ _).trans ?_) (Rcb.rf _)
        unfold stepT
        rw [if_neg (nn hx), if_neg (fun g => iss_w g w), if_pos w, if_neg (by omega)]
      obtain ⟨a, b⟩ := ih' (advS tx k x) cs (16 :: W) (adv_ok hx) q2
      refine ⟨fun h => ?_, fun h => ?_⟩
      · obtain ⟨a1, a2, a3⟩ := a h
        have d : dnN (16 :: W) (factE tx k e (advS tx k x, cs)).2 (o + 1) = dnN W (putS 16 (factE tx k e (advS tx k x, cs)).2) o := if_pos rfl
        rw [d] at a1
        exact ⟨st.tr a1, Nat.lt_trans q1 a2, a3⟩
      · obtain ⟨c1, c2, c3, c4⟩ := b h
        exact ⟨c1, c2, c3, st.tr c4⟩
    · by_cases s : issS tx k 91 x = true
      · have e1 : factE tx k (e + 1) (x, cs) = (rsS tx k 93 (testF tx k (factE tx k e) (advS tx k x, cs)).1, (testF tx k (factE tx k e) (advS tx k x, cs)).2) := (if_neg w).trans (if_pos s)
        rw [e1]
        obtain ⟨q1, q2⟩ := adv_pos hx (ss_ne s) hp
        have st : Rcb tx k (0, (x, cs, W, o)) (0, (advS tx k x, cs, 25 :: W, o + 1)) := by
          refine Rcb.st ((stT _ _ _ _).trans ?_) (Rcb.rf _)
          unfold stepT
          rw [if_neg (nn hx), if_pos s, if_neg (by omega)]
        obtain ⟨a, b⟩ := test_ok hk ih' (fact_d e) (advS tx k x) cs (25 :: W) (adv_ok hx) q2 (fun v hv => by rw [← Option.some.inj hv]; decide)
        by_cases z : (testF tx k (factE tx k e) (advS tx k x, cs)).1.1 = 0
        · obtain ⟨cs2, P2, a1, a4, a5, ⟨a6, a7⟩, a2, a3⟩ := a z
          have dr : drp nSq (P2 ++ 25 :: W) cs2 = (25 :: W, emt P2 cs2) := by
            rw [drp_app (fun v hv => by
              have := of_decide_eq_true (a4 v hv)
              exact decide_eq_true (by omega))]
            exact drp_stop (fun v hv => by rw [← Option.some.inj hv]; decide) _
          have mem : 25 ∈ P2 ++ 25 :: W := List.mem_append_right _ List.mem_cons_self
          by_cases g : issS tx k 93 (testF tx k (factE tx k e) (advS tx k x, cs)).1 = true
          · have e2 : rsS tx k 93 (testF tx k (factE tx k e) (advS tx k x, cs)).1 = advS tx k (testF tx k (factE tx k e) (advS tx k x, cs)).1 := if_pos g
            rw [e2, a5]
            obtain ⟨r1, r2⟩ := adv_pos z (ss_ne g) a3
            refine ⟨fun _ => ⟨st.tr (a1.tr (Rcb.st ((stG _ _ _ _).trans ?_) (Rcb.rf _))), Nat.lt_trans (show x.2.2.1 < (testF tx k (factE tx k e) (advS tx k x, cs)).1.2.2.1 by omega) r1, r2⟩, fun q => absurd (adv_ok z) q⟩
            unfold stepG
            rw [if_neg (nn z), if_pos ⟨g, mem⟩, dr]
            rfl
          · have e2 : rsS tx k 93 (testF tx k (factE tx k e) (advS tx k x, cs)).1 = failS 1 (stS tx k (testF tx k (factE tx k e) (advS tx k x, cs)).1) (testF tx k (factE tx k e) (advS tx k x, cs)).1 := if_neg g
            rw [e2]
            refine ⟨fun q => absurd q (fail_nz (by decide)), fun _ => ⟨cs2, P2 ++ 25 :: W, o + 1, st.tr (a1.tr (Rcb.st ((stG _ _ _ _).trans ?_) (Rcb.rf _)))⟩⟩
            have n25 : ¬ iswS tx k 25 (testF tx k (factE tx k e) (advS tx k x, cs)).1 = true := fun q => absurd ((opD_1 q).symm.trans a6) (by decide)
            have n24 : ¬ iswS tx k 24 (testF tx k (factE tx k e) (advS tx k x, cs)).1 = true := fun q => absurd ((opO_1 q).symm.trans a7) (by decide)
            unfold stepG
            rw [if_neg (nn z), if_neg (fun q => g q.1), if_neg n25, if_neg n24, if_pos mem]
        · rw [rs_d z]
          refine ⟨fun q => absurd q z, fun _ => ?_⟩
          obtain ⟨c1, c2, c3, c4⟩ := b z
          exact ⟨c1, c2, c3, st.tr c4⟩
      · exact plain (e + 1) o _ ho x cs W hx hp w s
end MBL
