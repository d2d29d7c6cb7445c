/-! a text that is read leaves well formed rules -/
def MON (k : Nat) (f : PS → PS) : Prop := ∀ x, (f x).1 = 0 → x.1 = 0 ∧ x.2.2.1 ≤ (f x).2.2.1 ∧ (x.2.2.1 ≤ k → (f x).2.2.1 ≤ k)
theorem mon_c {k : Nat} {f g : PS → PS} (hf : MON k f) (hg : MON k g) : MON k (fun x => g (f x)) := by
  intro x h
  obtain ⟨a, b, c⟩ := hg (f x) h
  obtain ⟨d, e, i⟩ := hf x a
  exact ⟨d, Nat.le_trans e b, fun q => c (i q)⟩
section MN
variable {tx : Nat → Nat} {k : Nat}
theorem mon_adv : MON k (advS tx k) := by
  intro x h
  by_cases e : x.1 = 0
  · by_cases s : srS tx k x = 0
    · have q : advS tx k x = (0, 0, enS tx k x, tgl tx k x.2.2.1 x.2.2.2) := if_pos e
      have t : tsr tx k x.2.2.1 x.2.2.2 = 0 := (if_pos e).symm.trans s
      have r : enS tx k x = tq tx k x.2.2.1 := by
        unfold enS ten
        exact if_pos t
      rw [q]
      refine ⟨e, ?_, fun hk => ?_⟩
      · show x.2.2.1 ≤ enS tx k x
        rw [r]
        exact sq_ge _ _ _
      · show enS tx k x ≤ k
        rw [r]
        exact sq_le hk
    · obtain ⟨_, a, b⟩ := adv_up e s
      exact ⟨e, by omega, fun _ => b⟩
  · rw [adv_dw e] at h
    exact absurd h e
theorem mon_rw {v : Nat} : MON k (rwS tx k v) := by
  intro x h
  obtain ⟨a, b, c⟩ := rw_t h
  rw [c]
  obtain ⟨_, d, e⟩ := adv_up a b
  exact ⟨a, by omega, fun _ => e⟩
theorem mon_rs {c : Nat} : MON k (rsS tx k c) := by
  intro x h
  obtain ⟨a, b, c⟩ := rs_t h
  rw [c]
  obtain ⟨_, d, e⟩ := adv_up a b
  exact ⟨a, by omega, fun _ => e⟩
theorem mon_rn {lo hi : Nat} : MON k (rnS tx k lo hi) := by
  intro x h
  obtain ⟨a, b, c⟩ := rn_t h
  rw [c]
  obtain ⟨_, d, e⟩ := adv_up a b
  exact ⟨a, by omega, fun _ => e⟩
theorem mon_rm : MON k (rmS tx k) := by
  intro x h
  obtain ⟨a, b, c⟩ := rm_ok h
  have e : rmS tx k x = advS tx k x := by
    unfold rmS
    rw [if_pos a, if_neg b]
  rw [e]
  exact mon_adv x (by rw [← e]; exact h)
theorem mon_nw {t : LA_} : MON k (fun x => nwS tx k x t) := by
  intro x h
  have h' : (nwS tx k x t).1 = 0 := h
  have e : nwS tx k x t = rmS tx k x := by
    unfold nwS at h' ⊢
    split at h'
    · exact absurd h' (fl_nz (by decide))
    · rename_i q
      exact if_neg q
  show x.1 = 0 ∧ x.2.2.1 ≤ (nwS tx k x t).2.2.1 ∧ (x.2.2.1 ≤ k → (nwS tx k x t).2.2.1 ≤ k)
  rw [e]
  exact mon_rm x (by rw [← e]; exact h')
theorem mon_ol {f : Nat → List Nat} {n : Nat} : MON k (olS tx k f n) := by
  intro x h
  have e : olS tx k f n x = rmS tx k x := by
    unfold olS at h ⊢
    split at h
    · rename_i q
      exact if_pos q
    · exact absurd h (fl_nz (by decide))
  rw [e]
  exact mon_rm x (by rw [← e]; exact h)
theorem mon_ja {t : LA_} : MON k (jaS tx k t) := by
  intro x h
  have e : jaS tx k t x = olS tx k (t.nm 0) (t.s 9) x := by
    unfold jaS at h ⊢
    split at h
    · exact absurd h (fl_nz (by decide))
    · rename_i q
      exact if_neg q
  rw [e]
  exact mon_ol x (by rw [← e]; exact h)
theorem mon_jc {t : LA_} {g : Nat} : MON k (jcS tx k t g) := by
  intro x h
  have e : jcS tx k t g x = olS tx k (t.nm 0) (t.s 9) x := by
    unfold jcS at h ⊢
    split at h
    · exact absurd h (fl_nz (by decide))
    · rename_i q
      exact if_neg q
  rw [e]
  exact mon_ol x (by rw [← e]; exact h)
theorem mon_gk : MON k (fun x => (gkT tx k x).1) := by
  intro x h
  have h' : (gkT tx k x).1.1 = 0 := h
  show x.1 = 0 ∧ x.2.2.1 ≤ (gkT tx k x).1.2.2.1 ∧ (x.2.2.1 ≤ k → (gkT tx k x).1.2.2.1 ≤ k)
  unfold gkT at h' ⊢
  split at h'
  · rename_i q
    rw [if_pos q]
    exact mon_adv x h'
  · rename_i q1
    rw [if_neg q1]
    split at h'
    · rename_i q
      rw [if_pos q]
      exact mon_c mon_adv mon_rn x h'
    · rename_i q2
      rw [if_neg q2]
      split at h'
      · rename_i q
        rw [if_pos q]
        exact mon_c mon_adv mon_rn x h'
      · rename_i q3
        rw [if_neg q3]
        split at h'
        · rename_i q
          rw [if_pos q]
          exact mon_c (mon_c (mon_c mon_adv mon_rn) mon_rw) mon_rn x h'
        · exact absurd h' (fl_nz (by decide))
end MN
def SEG (cs : List Nat) (a b : Nat) : List Nat := (cs.drop a).take (b - a)
theorem seg_app {cs l : List Nat} {a b : Nat} (h : a ≤ b) (hb : b ≤ cs.length) : SEG (cs ++ l) a b = SEG cs a b := by
  unfold SEG
  rw [List.drop_append_of_le_length (by omega), List.take_append_of_le_length (by rw [List.length_drop]; omega)]
theorem seg_new {cs l l' : List Nat} : SEG (cs ++ (l ++ l')) cs.length (cs.length + l.length) = l := by
  unfold SEG
  rw [List.drop_left, show cs.length + l.length - cs.length = l.length by omega, List.take_left]
def WFR (t : LA_) (j : Nat) : Prop := t.r 17 j ≤ t.r 18 j ∧ t.r 18 j ≤ t.r 19 j ∧ t.r 19 j ≤ t.cs.length ∧ RUN (SEG t.cs (t.r 17 j) (t.r 18 j)) [] [false] 40 ∧ RUN (SEG t.cs (t.r 18 j) (t.r 19 j)) [] [true] 40
def WFA (t : LA_) : Prop := ∀ j, j < t.s 11 → WFR t j
def WFX (k : Nat) (x : TX) : Prop := x.1.1 = 0 → WFA x.2 ∧ x.2.cs.length ≤ x.1.2.2.1 ∧ x.1.2.2.1 ≤ k
theorem wfa_same {t t' : LA_} (h : WFA t) (e : t'.s 11 = t.s 11) (ec : t'.cs = t.cs) (e7 : ∀ j, t'.r 17 j = t.r 17 j) (e8 : ∀ j, t'.r 18 j = t.r 18 j) (e9 : ∀ j, t'.r 19 j = t.r 19 j) : WFA t' := by
  intro j hj
  unfold WFR
  rw [e7, e8, e9, ec]
  exact h j (by rw [← e]; exact hj)
section WFS
variable {tx : Nat → Nat} {k : Nat}
/-- a statement that lays no codes -/
theorem wfx_s {x y : TX} {f : PS → PS} (hf : MON k f) (h : WFX k x) (e : y.1 = f x.1) (a : y.2.s 11 = x.2.s 11) (c : y.2.cs = x.2.cs) (e7 : ∀ j, y.2.r 17 j = x.2.r 17 j) (e8 : ∀ j, y.2.r 18 j = x.2.r 18 j) (e9 : ∀ j, y.2.r 19 j = x.2.r 19 j) : WFX k y := by
  intro h0
  rw [e] at h0 ⊢
  obtain ⟨b, p, q⟩ := hf x.1 h0
  obtain ⟨u, v, w⟩ := h b
  exact ⟨wfa_same u a c e7 e8 e9, by rw [c]; exact Nat.le_trans v p, q w⟩
theorem wfx_d {x : TX} {kd pl : Nat} {t : LA_} (h : ¬ kd = 0) : WFX k (failS kd pl x.1, t) := fun h0 => absurd h0 (fl_nz h)
/-- a reading goes on -/
def ML (k : Nat) (x y : PS) : Prop := y.1 = 0 → x.1 = 0 ∧ x.2.2.1 ≤ y.2.2.1 ∧ (x.2.2.1 ≤ k → y.2.2.1 ≤ k)
theorem ml_t {k : Nat} {x y z : PS} (h : ML k x y) (g : ML k y z) : ML k x z := by
  intro e
  obtain ⟨a, b, c⟩ := g e
  obtain ⟨d, f, i⟩ := h a
  exact ⟨d, Nat.le_trans f b, fun q => c (i q)⟩
section MLS
variable {tx : Nat → Nat} {k : Nat} {x y : PS}
theorem ml_0 : ML k x x := fun h => ⟨h, Nat.le_refl _, fun q => q⟩
theorem ml_adv (h : ML k x y) : ML k x (advS tx k y) := ml_t h (mon_adv y)
theorem ml_rw {v : Nat} (h : ML k x y) : ML k x (rwS tx k v y) := ml_t h (mon_rw y)
theorem ml_rn {lo hi : Nat} (h : ML k x y) : ML k x (rnS tx k lo hi y) := ml_t h (mon_rn y)
theorem ml_nw {t : LA_} (h : ML k x y) : ML k x (nwS tx k y t) := ml_t h (mon_nw y)
theorem ml_ol {f : Nat → List Nat} {n : Nat} (h : ML k x y) : ML k x (olS tx k f n y) := ml_t h (mon_ol y)
theorem ml_ja {t : LA_} (h : ML k x y) : ML k x (jaS tx k t y) := ml_t h (mon_ja y)
theorem ml_jc {t : LA_} {g : Nat} (h : ML k x y) : ML k x (jcS tx k t g y) := ml_t h (mon_jc y)
theorem ml_gk (h : ML k x y) : ML k x (gkT tx k y).1 := ml_t h (mon_gk y)
end MLS
theorem wfx_p {x a : PS} {t b : LA_} (h : WFX k (x, t)) (hm : ML k x a) (e : b.s 11 = t.s 11) (c : b.cs = t.cs) (e7 : ∀ j, b.r 17 j = t.r 17 j) (e8 : ∀ j, b.r 18 j = t.r 18 j) (e9 : ∀ j, b.r 19 j = t.r 19 j) : WFX k (a, b) := by
  intro h0
  obtain ⟨p, q, r⟩ := hm h0
  obtain ⟨u, v, w⟩ := h p
  exact ⟨wfa_same u e c e7 e8 e9, by show b.cs.length ≤ a.2.2.1; rw [c]; exact Nat.le_trans v q, r w⟩
theorem thingC_1 {tx : Nat → Nat} {k : Nat} {x : PS} {t : LA_} (h : t.s 10 < 16) : thingT tx k (x, t) = (rnS tx k 1 99 (rwS tx k 17 (rnS tx k (rnV tx k 0 999 (rwS tx k 16 (rnS tx k (rnV tx k 0 9999 (rwS tx k 15 (olS tx k (t.nm 0) (t.s 9) (rwS tx k 4 (olS tx k (t.nm 1) (t.s 4) (advS tx k x)))))) 9999 (rwS tx k 9 (rnS tx k 0 9999 (rwS tx k 15 (olS tx k (t.nm 0) (t.s 9) (rwS tx k 4 (olS tx k (t.nm 1) (t.s 4) (advS tx k x)))))))))) 999 (rwS tx k 9 (rnS tx k 0 999 (rwS tx k 16 (rnS tx k (rnV tx k 0 9999 (rwS tx k 15 (olS tx k (t.nm 0) (t.s 9) (rwS tx k 4 (olS tx k (t.nm 1) (t.s 4) (advS tx k x)))))) 9999 (rwS tx k 9 (rnS tx k 0 9999 (rwS tx k 15 (olS tx k (t.nm 0) (t.s 9) (rwS tx k 4 (olS tx k (t.nm 1) (t.s 4) (advS tx k x))))))))))))), (thingT tx k (x, t)).2) := by
  unfold thingT
  rw [if_pos h]
theorem wfx_gate {x : TX} (h : WFX k x) : WFX k (gateT tx k x) := by
  obtain ⟨x, t⟩ := x
  by_cases c : t.s 9 < 9
  · rw [gateT_1 c]
    exact wfx_p h (ml_rn (ml_rw (ml_rn (ml_rw (ml_gk (ml_nw (ml_adv ml_0))))))) rfl rfl (fun _ => rfl) (fun _ => rfl) (fun _ => rfl)
  · rw [gateT_0 c]
    exact wfx_d (x := (x, t)) (by decide)
theorem jn_2 {x : PS} {t : LA_} : (joinT tx k (x, t)).2.s 11 = t.s 11 ∧ (joinT tx k (x, t)).2.cs = t.cs ∧ ∀ j, (joinT tx k (x, t)).2.r 17 j = t.r 17 j ∧ (joinT tx k (x, t)).2.r 18 j = t.r 18 j ∧ (joinT tx k (x, t)).2.r 19 j = t.r 19 j := by
  unfold joinT
  dsimp only
  split
  · exact ⟨rfl, rfl, fun j => ⟨rfl, rfl, rfl⟩⟩
  · exact ⟨rfl, rfl, fun j => ⟨rfl, rfl, rfl⟩⟩
theorem jn_1 {x : PS} {t : LA_} : joinT tx k (x, t) = (jcS tx k t (nmF (t.nm 0) (t.s 9) (tlS tx k (advS tx k x))) (jaS tx k t (advS tx k x)), (joinT tx k (x, t)).2) := rfl
theorem wfx_join {x : TX} (h : WFX k x) : WFX k (joinT tx k x) := by
  obtain ⟨x, t⟩ := x
  obtain ⟨a, b, c⟩ := jn_2 (tx := tx) (k := k) (x := x) (t := t)
  rw [jn_1]
  exact wfx_p h (ml_jc (ml_ja (ml_adv ml_0))) a b (fun j => (c j).1) (fun j => (c j).2.1) (fun j => (c j).2.2)
theorem wfx_vill {x : TX} (h : WFX k x) : WFX k (villT tx k x) := by
  obtain ⟨x, t⟩ := x
  by_cases c : t.s 4 < 6
  · rw [villT_1 c]
    exact wfx_p h (ml_ol (ml_rw (ml_nw (ml_adv ml_0)))) rfl rfl (fun _ => rfl) (fun _ => rfl) (fun _ => rfl)
  · rw [villT_0 c]
    exact wfx_d (x := (x, t)) (by decide)
theorem wfx_loss {i : Nat} (hi : i = 5 ∨ i = 7) {x : TX} (h : WFX k x) : WFX k (lossT tx k i x) := by
  obtain ⟨x, t⟩ := x
  rw [lossT_1]
  rcases hi with rfl | rfl
  · exact wfx_p h (ml_rn (ml_rw (ml_rn (ml_adv ml_0)))) rfl rfl (fun _ => rfl) (fun _ => rfl) (fun _ => rfl)
  · exact wfx_p h (ml_rn (ml_rw (ml_rn (ml_adv ml_0)))) rfl rfl (fun _ => rfl) (fun _ => rfl) (fun _ => rfl)
theorem th_2 {x : PS} {t : LA_} (h : t.s 10 < 16) : (thingT tx k (x, t)).2.s 11 = t.s 11 ∧ (thingT tx k (x, t)).2.cs = t.cs ∧ ∀ j, (thingT tx k (x, t)).2.r 17 j = t.r 17 j ∧ (thingT tx k (x, t)).2.r 18 j = t.r 18 j ∧ (thingT tx k (x, t)).2.r 19 j = t.r 19 j := by
  unfold thingT
  rw [if_pos h]
  exact ⟨rfl, rfl, fun j => ⟨rfl, rfl, rfl⟩⟩
theorem wfx_thing {x : TX} (h : WFX k x) : WFX k (thingT tx k x) := by
  obtain ⟨x, t⟩ := x
  by_cases c : t.s 10 < 16
  · obtain ⟨a, b, d⟩ := th_2 (tx := tx) (k := k) (x := x) c
    rw [thingC_1 c]
    exact wfx_p h (ml_rn (ml_rw (ml_rn (ml_rw (ml_rn (ml_rw (ml_rn (ml_rw (ml_rn (ml_rw (ml_ol (ml_rw (ml_ol (ml_adv ml_0)))))))))))))) a b (fun j => (d j).1) (fun j => (d j).2.1) (fun j => (d j).2.2)
  · rw [thingT_0 c]
    exact wfx_d (x := (x, t)) (by decide)
theorem good_p {ty : Bool} {m : Nat} {f : SX → SX} (h : GOOD k ty m f) {a : PS} {cs : List Nat} (h0 : (f (a, cs)).1.1 = 0) : a.1 = 0 ∧ (cs.length ≤ a.2.2.1 → a.2.2.1 ≤ k → (f (a, cs)).2.length ≤ (f (a, cs)).1.2.2.1 ∧ (f (a, cs)).1.2.2.1 ≤ k ∧ ∃ l, (f (a, cs)).2 = cs ++ l ∧ ∀ (ts : List Bool) (M : Nat), ts.length + m ≤ M → RUN l ts (ty :: ts) M) := by
  refine ⟨h.1 (a, cs) h0, fun h1 h2 => ?_⟩
  obtain ⟨_, b, c, d⟩ := h.2 0 (a, cs) h1 h2 h0
  exact ⟨b, c, d⟩
theorem two_good {E F : SX → SX} {mE mF : Nat} (hE : GOOD k false mE E) (hF : GOOD k true mF F) (h1 : mE ≤ 40) (h2 : mF ≤ 40) {y z : PS} {cs : List Nat} (hz : ML k (E (y, cs)).1 z) (h0 : (F (z, (E (y, cs)).2)).1.1 = 0) (hy : y.1 = 0 → cs.length ≤ y.2.2.1 ∧ y.2.2.1 ≤ k) : y.1 = 0 ∧ ∃ l1 l2, (E (y, cs)).2 = cs ++ l1 ∧ (F (z, (E (y, cs)).2)).2 = cs ++ (l1 ++ l2) ∧ RUN l1 [] [false] 40 ∧ RUN l2 [] [true] 40 ∧ (F (z, (E (y, cs)).2)).2.length ≤ (F (z, (E (y, cs)).2)).1.2.2.1 ∧ (F (z, (E (y, cs)).2)).1.2.2.1 ≤ k := by
  obtain ⟨b1, gF⟩ := good_p hF h0
  obtain ⟨b2, b3, b4⟩ := hz b1
  obtain ⟨b5, gE⟩ := good_p hE b2
  obtain ⟨w1, w2⟩ := hy b5
  obtain ⟨e1, e2, l1, e4, e5⟩ := gE w1 w2
  obtain ⟨f1, f2, l2, f4, f5⟩ := gF (Nat.le_trans e1 b3) (b4 e2)
  refine ⟨b5, l1, l2, e4, ?_, e5 [] 40 (by simpa using h1), f5 [] 40 (by simpa using h2), f1, f2⟩
  rw [f4, e4, List.append_assoc]
theorem wfx_mkp {a : PS} {b : LA_} (h : a.1 = 0 → WFA b ∧ b.cs.length ≤ a.2.2.1 ∧ a.2.2.1 ≤ k) : WFX k (a, b) := h
theorem wfx_rule (hk : k ≤ 1600) {kd : Nat} {x : TX} (h : WFX k x) : WFX k (ruleT tx k kd x) := by
  obtain ⟨x, t⟩ := x
  by_cases c : t.s 11 < 8
  · rw [ruleT_1 c]
    refine wfx_mkp (fun h0 => ?_)
    obtain ⟨b5, l1, l2, e4', g4', r1, r2, g2, g3⟩ := two_good (sumE_good (tx := tx) hk 6) (test_good (tx := tx) hk (factE_good (tx := tx) hk 6)) (by decide) (by decide) (ml_rw (tx := tx) ml_0) h0 (fun q => by
      obtain ⟨b6, b7, b8⟩ := mon_adv (tx := tx) (k := k) x q
      obtain ⟨w1, w2, w3⟩ := h b6
      exact ⟨Nat.le_trans w2 b7, b8 w3⟩)
    obtain ⟨b6, _, _⟩ := mon_adv (tx := tx) (k := k) x b5
    obtain ⟨w1, w2, w3⟩ := h b6
    clear h0 b5
    generalize testF tx k (factE tx k 6) (rwS tx k 23 (sumE tx k 6 (advS tx k x, t.cs)).1, (sumE tx k 6 (advS tx k x, t.cs)).2) = Z at g4' g2 g3 ⊢
    generalize sumE tx k 6 (advS tx k x, t.cs) = Y at e4' ⊢
    obtain ⟨Z1, Z2⟩ := Z
    obtain ⟨Y1, Y2⟩ := Y
    simp only at e4' g4' g2 g3 ⊢
    subst e4' g4'
    refine ⟨?_, g2, g3⟩
    clear g2 g3
    generalize hcs : t.cs ++ (l1 ++ l2) = CS
    have q19 : CS.length = t.cs.length + l1.length + l2.length := by
      rw [← hcs]
      simp only [List.length_append]
      omega
    intro j hj
    have hj' : j < t.s 11 + 1 := hj
    by_cases cj : j = t.s 11
    · subst cj
      have z7 : (setC (setS (setR (setR (setR (setR t 16 (t.s 11) kd) 17 (t.s 11) t.cs.length) 18 (t.s 11) (t.cs ++ l1).length) 19 (t.s 11) CS.length) 11 (t.s 11 + 1)) CS).r 17 (t.s 11) = t.cs.length := by simp [LA_.s, LA_.r, LA_.nm, LA_.cs, setC, setS, setR, setN]
      have z8 : (setC (setS (setR (setR (setR (setR t 16 (t.s 11) kd) 17 (t.s 11) t.cs.length) 18 (t.s 11) (t.cs ++ l1).length) 19 (t.s 11) CS.length) 11 (t.s 11 + 1)) CS).r 18 (t.s 11) = t.cs.length + l1.length := by simp [LA_.s, LA_.r, LA_.nm, LA_.cs, setC, setS, setR, setN]
      have z9 : (setC (setS (setR (setR (setR (setR t 16 (t.s 11) kd) 17 (t.s 11) t.cs.length) 18 (t.s 11) (t.cs ++ l1).length) 19 (t.s 11) CS.length) 11 (t.s 11 + 1)) CS).r 19 (t.s 11) = t.cs.length + l1.length + l2.length := by
        rw [← q19]
        simp [LA_.s, LA_.r, LA_.nm, LA_.cs, setC, setS, setR, setN]
      unfold WFR
      rw [z7, z8, z9]
      refine ⟨by omega, by omega, by show _ ≤ CS.length; omega, ?_, ?_⟩
      · show RUN (SEG CS t.cs.length (t.cs.length + l1.length)) [] [false] 40
        rw [← hcs, seg_new]
        exact r1
      · show RUN (SEG CS (t.cs.length + l1.length) (t.cs.length + l1.length + l2.length)) [] [true] 40
        have q : SEG CS (t.cs.length + l1.length) (t.cs.length + l1.length + l2.length) = l2 := by
          have a := seg_new (cs := t.cs ++ l1) (l := l2) (l' := [])
          rw [List.length_append, List.append_nil, List.append_assoc, hcs] at a
          exact a
        rw [q]
        exact r2
    · have z : ∀ i, (setC (setS (setR (setR (setR (setR t 16 (t.s 11) kd) 17 (t.s 11) t.cs.length) 18 (t.s 11) (t.cs ++ l1).length) 19 (t.s 11) CS.length) 11 (t.s 11 + 1)) CS).r i j = t.r i j := by
        intro i
        have cj' : ¬ j = t.1 11 := cj
        simp [LA_.s, LA_.r, LA_.nm, LA_.cs, setC, setS, setR, setN, cj']
      obtain ⟨y1, y2, y3, y4, y5⟩ := w1 j (by show j < t.s 11; omega)
      have y1' : t.r 17 j ≤ t.r 18 j := y1
      have y2' : t.r 18 j ≤ t.r 19 j := y2
      have y3' : t.r 19 j ≤ t.cs.length := y3
      unfold WFR
      rw [z, z, z]
      refine ⟨y1', y2', by show _ ≤ CS.length; omega, ?_, ?_⟩
      · show RUN (SEG CS (t.r 17 j) (t.r 18 j)) [] [false] 40
        rw [← hcs, seg_app y1' (by omega)]
        exact y4
      · show RUN (SEG CS (t.r 18 j) (t.r 19 j)) [] [true] 40
        rw [← hcs, seg_app y2' (by omega)]
        exact y5
  · rw [ruleT_0 c]
    exact wfx_d (x := (x, t)) (by decide)
theorem wfx_end {x : TX} (h : WFX k x) : WFX k (endT tx k x) := by
  refine wfx_s (f := rsS tx k 59) mon_rs h rfl ?_ ?_ ?_ ?_ ?_
  all_goals (unfold endT; dsimp only; split <;> first | rfl | exact fun _ => rfl)
theorem wfx_stmt {x : TX} (h : WFX k x) : WFX k (stmtT tx k x) := by
  unfold stmtT
  split
  · exact wfx_gate h
  · split
    · exact wfx_join h
    · split
      · exact wfx_vill h
      · split
        · exact wfx_thing h
        · split
          · exact wfx_loss (Or.inl rfl) h
          · split
            · exact wfx_loss (Or.inr rfl) h
            · exact wfx_d (by decide)
theorem wfx_one (hk : k ≤ 1600) {x : TX} (h : WFX k x) : WFX k (oneT tx k x) := by
  unfold oneT
  refine wfx_end ?_
  split
  · exact wfx_d (by decide)
  · split
    · exact wfx_rule hk h
    · split
      · exact wfx_rule hk h
      · exact wfx_stmt h
theorem wfx_all (hk : k ≤ 1600) (n : Nat) : ∀ {x : TX}, WFX k x → WFX k (allT tx k n x) := by
  induction n with
  | zero => exact fun h => h
  | succ n ih =>
    intro x h
    show WFX k (if _ then _ else _ : TX)
    split
    · exact h
    · exact ih (wfx_one hk h)
theorem wf_read (hk : k ≤ 1600) (h : (readT tx k).1.1 = 0) : WFA (readT tx k).2 := by
  have g : WFX k (readT tx k) := by
    unfold readT
    refine wfx_all hk _ (wfx_end ?_)
    intro h0
    have e11 : (lakeT tx k ((0, 0, 0, 0), t0)).2.s 11 = 0 := rfl
    have ec : (lakeT tx k ((0, 0, 0, 0), t0)).2.cs = [] := rfl
    refine ⟨fun j hj => absurd hj (by rw [e11]; exact Nat.not_lt_zero _), by rw [ec]; exact Nat.zero_le _, ?_⟩
    rw [lakeT_f] at h0 ⊢
    have hm : ML k (0, 0, 0, 0) (rnS tx k 0 (rnV tx k 1 9999 (rwS tx k 2 (rnS tx k 1 999 (rwS tx k 1 (rwS tx k 0 (0, 0, 0, 0)))))) (rwS tx k 3 (rnS tx k 1 9999 (rwS tx k 2 (rnS tx k 1 999 (rwS tx k 1 (rwS tx k 0 (0, 0, 0, 0)))))))) := ml_rn (ml_rw (ml_rn (ml_rw (ml_rn (ml_rw (ml_rw ml_0))))))
    exact (hm h0).2.2 (Nat.zero_le _)
  exact (g h).1
end WFS
