/-! the lake that is told: numbers by their places (as a Lake's fields and rows), names as letters, codes -/
abbrev LA_ : Type := (Nat → Nat) × (Nat → Nat → Nat) × (Nat → Nat → List Nat) × List Nat
abbrev LA_.s (t : LA_) : Nat → Nat := t.1
abbrev LA_.r (t : LA_) : Nat → Nat → Nat := t.2.1
abbrev LA_.nm (t : LA_) : Nat → Nat → List Nat := t.2.2.1
abbrev LA_.cs (t : LA_) : List Nat := t.2.2.2
def setS (t : LA_) (i v : Nat) : LA_ := (fun j => if j = i then v else t.s j, t.2)
def setR (t : LA_) (i n v : Nat) : LA_ := (t.1, fun j m => if j = i ∧ m = n then v else t.r j m, t.2.2)
def setN (t : LA_) (i n : Nat) (w : List Nat) : LA_ := (t.1, t.2.1, fun j m => if j = i ∧ m = n then w else t.nm j m, t.2.2.2)
def setC (t : LA_) (cs : List Nat) : LA_ := (t.1, t.2.1, t.2.2.1, cs)
/-- the first of n names of a sort that is w, n if none -/
def nmF (f : Nat → List Nat) (n : Nat) (w : List Nat) : Nat := sc (fun i => decide (¬ f i = w)) n 0
abbrev TX : Type := PS × LA_
theorem sc_cs {t : LA_} {c : List Nat} : (setC t c).cs = c := rfl
section ST
variable (tx : Nat → Nat) (k : Nat)
/-- a new name -/
def nwS (x : PS) (t : LA_) : PS := if nmF (t.nm 0) (t.s 9) (tlS tx k x) < t.s 9 ∨ nmF (t.nm 1) (t.s 4) (tlS tx k x) < t.s 4 then failS 3 (stS tx k x) (rmS tx k x) else rmS tx k x
/-- a name of n -/
def olS (f : Nat → List Nat) (n : Nat) (x : PS) : PS := if nmF f n (tlS tx k x) < n then rmS tx k x else failS 3 (stS tx k x) (rmS tx k x)
def endT (x : TX) : TX := (rsS tx k 59 x.1, if (rsS tx k 59 x.1).1 = 0 then setS x.2 0 (x.2.s 0 + 1) else x.2)
def lakeT (x : TX) : TX :=
  let a := rwS tx k 1 (rwS tx k 0 x.1)
  let b := rwS tx k 2 (rnS tx k 1 999 a)
  let v := rnV tx k 1 9999 b
  let c := rwS tx k 3 (rnS tx k 1 9999 b)
  (rnS tx k 0 v c, setS (setS (setS x.2 1 (rnV tx k 1 999 a)) 2 v) 3 (rnV tx k 0 v c))
def lossT (i : Nat) (x : TX) : TX :=
  let a := advS tx k x.1
  let b := rwS tx k 19 (rnS tx k 0 9999 a)
  (rnS tx k 0 99 b, setS (setS x.2 i (rnV tx k 0 9999 a)) (i + 1) (rnV tx k 0 99 b))
/-- a gate's kind: what is read, the kind, its two numbers -/
def gkT (x : PS) : PS × Nat × Nat × Nat :=
  if iswS tx k 5 x = true then (advS tx k x, 0, 0, 0)
  else if iswS tx k 6 x = true then (rnS tx k 1 99 (advS tx k x), 1, rnV tx k 1 99 (advS tx k x), 0)
  else if iswS tx k 7 x = true then (rnS tx k 1 9 (advS tx k x), 2, rnV tx k 1 9 (advS tx k x), 0)
  else if iswS tx k 8 x = true then
    (rnS tx k (rnV tx k 0 999 (advS tx k x)) 999 (rwS tx k 9 (rnS tx k 0 999 (advS tx k x))), 3, rnV tx k 0 999 (advS tx k x), rnV tx k (rnV tx k 0 999 (advS tx k x)) 999 (rwS tx k 9 (rnS tx k 0 999 (advS tx k x))))
  else (failS 1 (stS tx k x) x, 0, 0, 0)
def gateT (x : TX) : TX :=
  if x.2.s 9 < 9 then
    let a := advS tx k x.1
    let w := tlS tx k a
    let g := gkT tx k (nwS tx k a x.2)
    let b := rwS tx k 10 g.1
    let c := rwS tx k 11 (rnS tx k 0 20 b)
    let n := x.2.s 9
    (rnS tx k 1 99 c, setS (setR (setR (setR (setR (setR (setR (setN x.2 0 n w) 1 n g.2.1) 2 n g.2.2.1) 3 n g.2.2.2) 4 n (rnV tx k 0 20 b)) 5 n (rnV tx k 1 99 c)) 6 n 0) 9 (n + 1))
  else (failS 5 (stS tx k x.1) x.1, x.2)
/-- two gates' names, joined: behind the first, behind the second -/
def jaS (t : LA_) (a : PS) : PS := if nmF (t.nm 0) (t.s 9) (tlS tx k a) < t.s 9 ∧ ¬ t.r 6 (nmF (t.nm 0) (t.s 9) (tlS tx k a)) = 0 then failS 3 (stS tx k a) (olS tx k (t.nm 0) (t.s 9) a) else olS tx k (t.nm 0) (t.s 9) a
def jcS (t : LA_) (g : Nat) (b : PS) : PS := if nmF (t.nm 0) (t.s 9) (tlS tx k b) < t.s 9 ∧ (nmF (t.nm 0) (t.s 9) (tlS tx k b) = g ∨ ¬ t.r 6 (nmF (t.nm 0) (t.s 9) (tlS tx k b)) = 0) then failS 3 (stS tx k b) (olS tx k (t.nm 0) (t.s 9) b) else olS tx k (t.nm 0) (t.s 9) b
def joinT (x : TX) : TX :=
  (jcS tx k x.2 (nmF (x.2.nm 0) (x.2.s 9) (tlS tx k (advS tx k x.1))) (jaS tx k x.2 (advS tx k x.1)),
    if (jcS tx k x.2 (nmF (x.2.nm 0) (x.2.s 9) (tlS tx k (advS tx k x.1))) (jaS tx k x.2 (advS tx k x.1))).1 = 0 then setR (setR x.2 6 (nmF (x.2.nm 0) (x.2.s 9) (tlS tx k (advS tx k x.1))) (nmF (x.2.nm 0) (x.2.s 9) (tlS tx k (jaS tx k x.2 (advS tx k x.1))) + 1)) 6 (nmF (x.2.nm 0) (x.2.s 9) (tlS tx k (jaS tx k x.2 (advS tx k x.1)))) (nmF (x.2.nm 0) (x.2.s 9) (tlS tx k (advS tx k x.1)) + 1) else x.2)
def villT (x : TX) : TX :=
  if x.2.s 4 < 6 then
    let t := x.2
    let a := advS tx k x.1
    let b := rwS tx k 4 (nwS tx k a t)
    let n := t.s 4
    (olS tx k (t.nm 0) (t.s 9) b, setS (setR (setN t 1 n (tlS tx k a)) 8 n (nmF (t.nm 0) (t.s 9) (tlS tx k b))) 4 (n + 1))
  else (failS 5 (stS tx k x.1) x.1, x.2)
def thingT (x : TX) : TX :=
  if x.2.s 10 < 16 then
    let t := x.2
    let n := t.s 10
    let a := advS tx k x.1
    let v := nmF (t.nm 1) (t.s 4) (tlS tx k a)
    let b := rwS tx k 4 (olS tx k (t.nm 1) (t.s 4) a)
    let g := nmF (t.nm 0) (t.s 9) (tlS tx k b)
    let c := rwS tx k 15 (olS tx k (t.nm 0) (t.s 9) b)
    let f := rnV tx k 0 9999 c
    let d := rwS tx k 9 (rnS tx k 0 9999 c)
    let u := rnV tx k f 9999 d
    let e := rwS tx k 16 (rnS tx k f 9999 d)
    let p := rnV tx k 0 999 e
    let h := rwS tx k 9 (rnS tx k 0 999 e)
    let q := rnV tx k p 999 h
    let i := rwS tx k 17 (rnS tx k p 999 h)
    (rnS tx k 1 99 i, setS (setR (setR (setR (setR (setR (setR (setR t 9 n v) 10 n g) 11 n f) 12 n u) 13 n p) 14 n q) 15 n (rnV tx k 1 99 i)) 10 (n + 1))
  else (failS 5 (stS tx k x.1) x.1, x.2)
def ruleT (kd : Nat) (x : TX) : TX :=
  if x.2.s 11 < 8 then
    let t := x.2
    let n := t.s 11
    let a := sumE tx k 6 (advS tx k x.1, t.cs)
    let b := rwS tx k 23 a.1
    let c := testF tx k (factE tx k 6) (b, a.2)
    (c.1, setC (setS (setR (setR (setR (setR t 16 n kd) 17 n t.cs.length) 18 n a.2.length) 19 n c.2.length) 11 (n + 1)) c.2)
  else (failS 5 (stS tx k x.1) x.1, x.2)
def stmtT (x : TX) : TX :=
  if iswS tx k 4 x.1 = true then gateT tx k x
  else if iswS tx k 12 x.1 = true then joinT tx k x
  else if iswS tx k 13 x.1 = true then villT tx k x
  else if iswS tx k 14 x.1 = true then thingT tx k x
  else if iswS tx k 18 x.1 = true then lossT tx k 5 x
  else if iswS tx k 20 x.1 = true then lossT tx k 7 x
  else (failS 1 (stS tx k x.1) x.1, x.2)
def oneT (x : TX) : TX :=
  endT tx k (if x.2.s 0 = 60 then (failS 5 (stS tx k x.1) x.1, x.2) else if iswS tx k 21 x.1 = true then ruleT tx k 0 x else if iswS tx k 22 x.1 = true then ruleT tx k 1 x else stmtT tx k x)
def allT : Nat → TX → TX
  | 0, x => x
  | n + 1, x => if srS tx k x.1 = 0 then x else allT n (oneT tx k x)
def t0 : LA_ := (fun i => if i = 1 ∨ i = 2 then 1 else if i = 7 then 9999 else 0, fun _ _ => 0, fun _ _ => [], [])
/-- a text, read -/
def readT : TX := allT tx k 60 (endT tx k (lakeT tx k ((0, 0, 0, 0), t0)))
end ST
section SPL
variable {tx : Nat → Nat} {k : Nat} {x : PS} {t : LA_}
theorem fail_nz {kd pl : Nat} (h : ¬ kd = 0) : ¬ (failS kd pl x).1 = 0 := by
  by_cases e : x.1 = 0
  · rw [failS_0 _ _ e]
    exact h
  · rw [failS_d _ _ e]
    exact e
theorem nw_a (h : (nwS tx k x t).1 = 0) : (rmS tx k x).1 = 0 := by
  unfold nwS at h
  split at h
  · exact absurd h (fail_nz (by decide))
  · exact h
theorem ol_a {f : Nat → List Nat} {n : Nat} (h : (olS tx k f n x).1 = 0) : (rmS tx k x).1 = 0 ∧ nmF f n (tlS tx k x) < n := by
  unfold olS at h
  split at h
  · rename_i q
    exact ⟨h, q⟩
  · exact absurd h (fail_nz (by decide))
theorem ja_n (h : ¬ (olS tx k (t.nm 0) (t.s 9) x).1 = 0) : jaS tx k t x = olS tx k (t.nm 0) (t.s 9) x := by
  unfold jaS
  split
  · exact failS_d _ _ h
  · rfl
theorem ja_k {j : Nat} (hE : (olS tx k (t.nm 0) (t.s 9) x).1 = 0 → nmF (t.nm 0) (t.s 9) (tlS tx k x) = j) (h0 : (olS tx k (t.nm 0) (t.s 9) x).1 = 0 → t.r 6 j = 0) : jaS tx k t x = olS tx k (t.nm 0) (t.s 9) x := by
  by_cases a : (olS tx k (t.nm 0) (t.s 9) x).1 = 0
  · refine if_neg (fun q => q.2 ?_)
    rw [hE a]
    exact h0 a
  · exact ja_n a
theorem ja_f {j : Nat} (hE : (olS tx k (t.nm 0) (t.s 9) x).1 = 0 → nmF (t.nm 0) (t.s 9) (tlS tx k x) = j) (hj : j < t.s 9) (h0 : (olS tx k (t.nm 0) (t.s 9) x).1 = 0 → ¬ t.r 6 j = 0) : jaS tx k t x = failS 3 (stS tx k x) (olS tx k (t.nm 0) (t.s 9) x) := by
  by_cases a : (olS tx k (t.nm 0) (t.s 9) x).1 = 0
  · refine if_pos ?_
    rw [hE a]
    exact ⟨hj, h0 a⟩
  · rw [ja_n a, failS_d _ _ a]
theorem jc_n {g : Nat} (h : ¬ (olS tx k (t.nm 0) (t.s 9) x).1 = 0) : jcS tx k t g x = olS tx k (t.nm 0) (t.s 9) x := by
  unfold jcS
  split
  · exact failS_d _ _ h
  · rfl
theorem jc_d {g pl : Nat} (h : ¬ (olS tx k (t.nm 0) (t.s 9) x).1 = 0) : jcS tx k t g x = failS 3 pl (olS tx k (t.nm 0) (t.s 9) x) := (jc_n h).trans (failS_d _ _ h).symm
theorem jc_k {g j : Nat} (hE : (olS tx k (t.nm 0) (t.s 9) x).1 = 0 → nmF (t.nm 0) (t.s 9) (tlS tx k x) = j) (h0 : (olS tx k (t.nm 0) (t.s 9) x).1 = 0 → ¬ j = g ∧ t.r 6 j = 0) : jcS tx k t g x = olS tx k (t.nm 0) (t.s 9) x := by
  by_cases a : (olS tx k (t.nm 0) (t.s 9) x).1 = 0
  · refine if_neg (fun q => ?_)
    rw [hE a] at q
    rcases q.2 with q | q
    · exact (h0 a).1 q
    · exact q (h0 a).2
  · exact jc_n a
theorem jc_f {g j : Nat} (hE : (olS tx k (t.nm 0) (t.s 9) x).1 = 0 → nmF (t.nm 0) (t.s 9) (tlS tx k x) = j) (hj : j < t.s 9) (h0 : (olS tx k (t.nm 0) (t.s 9) x).1 = 0 → (j = g ∨ ¬ t.r 6 j = 0)) : jcS tx k t g x = failS 3 (stS tx k x) (olS tx k (t.nm 0) (t.s 9) x) := by
  by_cases a : (olS tx k (t.nm 0) (t.s 9) x).1 = 0
  · refine if_pos ?_
    rw [hE a]
    exact ⟨hj, h0 a⟩
  · rw [jc_n a, failS_d _ _ a]
theorem lakeT_1 : lakeT tx k (x, t) = (rnS tx k 0 (rnV tx k 1 9999 (rwS tx k 2 (rnS tx k 1 999 (rwS tx k 1 (rwS tx k 0 x))))) (rwS tx k 3 (rnS tx k 1 9999 (rwS tx k 2 (rnS tx k 1 999 (rwS tx k 1 (rwS tx k 0 x)))))), setS (setS (setS t 1 (rnV tx k 1 999 (rwS tx k 1 (rwS tx k 0 x)))) 2 (rnV tx k 1 9999 (rwS tx k 2 (rnS tx k 1 999 (rwS tx k 1 (rwS tx k 0 x)))))) 3 (rnV tx k 0 (rnV tx k 1 9999 (rwS tx k 2 (rnS tx k 1 999 (rwS tx k 1 (rwS tx k 0 x))))) (rwS tx k 3 (rnS tx k 1 9999 (rwS tx k 2 (rnS tx k 1 999 (rwS tx k 1 (rwS tx k 0 x)))))))) := rfl
theorem lossT_1 {i : Nat} : lossT tx k i (x, t) = (rnS tx k 0 99 (rwS tx k 19 (rnS tx k 0 9999 (advS tx k x))), setS (setS t i (rnV tx k 0 9999 (advS tx k x))) (i + 1) (rnV tx k 0 99 (rwS tx k 19 (rnS tx k 0 9999 (advS tx k x))))) := rfl
theorem lakeT_f : (lakeT tx k (x, t)).1 = rnS tx k 0 (rnV tx k 1 9999 (rwS tx k 2 (rnS tx k 1 999 (rwS tx k 1 (rwS tx k 0 x))))) (rwS tx k 3 (rnS tx k 1 9999 (rwS tx k 2 (rnS tx k 1 999 (rwS tx k 1 (rwS tx k 0 x)))))) := by
  rw [lakeT_1]
theorem end_1 {y : TX} : (endT tx k y).1 = rsS tx k 59 y.1 := rfl
theorem end_2 {y : TX} (h : (endT tx k y).1.1 = 0) : (endT tx k y).2 = setS y.2 0 (y.2.s 0 + 1) := if_pos h
theorem gateT_1 (h : t.s 9 < 9) : gateT tx k (x, t) = (rnS tx k 1 99 (rwS tx k 11 (rnS tx k 0 20 (rwS tx k 10 (gkT tx k (nwS tx k (advS tx k x) t)).1))), setS (setR (setR (setR (setR (setR (setR (setN t 0 (t.s 9) (tlS tx k (advS tx k x))) 1 (t.s 9) (gkT tx k (nwS tx k (advS tx k x) t)).2.1) 2 (t.s 9) (gkT tx k (nwS tx k (advS tx k x) t)).2.2.1) 3 (t.s 9) (gkT tx k (nwS tx k (advS tx k x) t)).2.2.2) 4 (t.s 9) (rnV tx k 0 20 (rwS tx k 10 (gkT tx k (nwS tx k (advS tx k x) t)).1))) 5 (t.s 9) (rnV tx k 1 99 (rwS tx k 11 (rnS tx k 0 20 (rwS tx k 10 (gkT tx k (nwS tx k (advS tx k x) t)).1))))) 6 (t.s 9) 0) 9 (t.s 9 + 1)) := if_pos h
theorem gateT_0 (h : ¬ t.s 9 < 9) : gateT tx k (x, t) = (failS 5 (stS tx k x) x, t) := if_neg h
theorem villT_1 (h : t.s 4 < 6) : villT tx k (x, t) = (olS tx k (t.nm 0) (t.s 9) (rwS tx k 4 (nwS tx k (advS tx k x) t)), setS (setR (setN t 1 (t.s 4) (tlS tx k (advS tx k x))) 8 (t.s 4) (nmF (t.nm 0) (t.s 9) (tlS tx k (rwS tx k 4 (nwS tx k (advS tx k x) t))))) 4 (t.s 4 + 1)) := if_pos h
theorem villT_0 (h : ¬ t.s 4 < 6) : villT tx k (x, t) = (failS 5 (stS tx k x) x, t) := if_neg h
theorem thingT_0 (h : ¬ t.s 10 < 16) : thingT tx k (x, t) = (failS 5 (stS tx k x) x, t) := if_neg h
theorem ruleT_1 {kd : Nat} (h : t.s 11 < 8) : ruleT tx k kd (x, t) = ((testF tx k (factE tx k 6) (rwS tx k 23 (sumE tx k 6 (advS tx k x, t.cs)).1, (sumE tx k 6 (advS tx k x, t.cs)).2)).1, setC (setS (setR (setR (setR (setR t 16 (t.s 11) kd) 17 (t.s 11) t.cs.length) 18 (t.s 11) (sumE tx k 6 (advS tx k x, t.cs)).2.length) 19 (t.s 11) (testF tx k (factE tx k 6) (rwS tx k 23 (sumE tx k 6 (advS tx k x, t.cs)).1, (sumE tx k 6 (advS tx k x, t.cs)).2)).2.length) 11 (t.s 11 + 1)) (testF tx k (factE tx k 6) (rwS tx k 23 (sumE tx k 6 (advS tx k x, t.cs)).1, (sumE tx k 6 (advS tx k x, t.cs)).2)).2) := if_pos h
theorem ruleT_f {kd : Nat} (h : t.s 11 < 8) : (ruleT tx k kd (x, t)).1 = (testF tx k (factE tx k 6) (rwS tx k 23 (sumE tx k 6 (advS tx k x, t.cs)).1, (sumE tx k 6 (advS tx k x, t.cs)).2)).1 := by
  rw [ruleT_1 h]
theorem ruleT_0 {kd : Nat} (h : ¬ t.s 11 < 8) : ruleT tx k kd (x, t) = (failS 5 (stS tx k x) x, t) := if_neg h
end SPL
section RDT
variable {tx : Nat → Nat} {k : Nat}
theorem gate_s (x : TX) : (gateT tx k x).2.s 0 = x.2.s 0 := by
  unfold gateT
  split <;> rfl
theorem join_s (x : TX) : (joinT tx k x).2.s 0 = x.2.s 0 := by
  unfold joinT
  dsimp only
  split <;> rfl
theorem vill_s (x : TX) : (villT tx k x).2.s 0 = x.2.s 0 := by
  unfold villT
  split <;> rfl
theorem thing_s (x : TX) : (thingT tx k x).2.s 0 = x.2.s 0 := by
  unfold thingT
  split <;> rfl
theorem loss_s {i : Nat} (h : i = 5 ∨ i = 7) (x : TX) : (lossT tx k i x).2.s 0 = x.2.s 0 := by
  rcases h with rfl | rfl <;> rfl
theorem rule_s {kd : Nat} (x : TX) : (ruleT tx k kd x).2.s 0 = x.2.s 0 := by
  unfold ruleT
  split <;> rfl
theorem stmt_s (x : TX) : (stmtT tx k x).2.s 0 = x.2.s 0 := by
  unfold stmtT
  split
  · exact gate_s x
  · split
    · exact join_s x
    · split
      · exact vill_s x
      · split
        · exact thing_s x
        · split
          · exact loss_s (Or.inl rfl) x
          · split
            · exact loss_s (Or.inr rfl) x
            · rfl
theorem end_s (x : TX) (h : (endT tx k x).1.1 = 0) : (endT tx k x).2.s 0 = x.2.s 0 + 1 := by
  have e : (endT tx k x).2 = setS x.2 0 (x.2.s 0 + 1) := if_pos h
  rw [e]
  rfl
theorem all_st {x : TX} (n : Nat) (h : srS tx k x.1 = 0) : allT tx k n x = x := by
  cases n with
  | zero => rfl
  | succ n => exact if_pos h
theorem all_go {x : TX} {i : Nat} (h : i < 61) (hs : ¬ srS tx k x.1 = 0) : allT tx k (61 - i) x = allT tx k (61 - (i + 1)) (oneT tx k x) := by
  rw [show 61 - i = (61 - (i + 1)) + 1 by omega]
  exact if_neg hs
theorem one_60 {x : PS} {t : LA_} (h : t.s 0 = 60) : oneT tx k (x, t) = endT tx k (failS 5 (stS tx k x) x, t) := by
  unfold oneT
  rw [if_pos h]
theorem one_r0 {x : PS} {t : LA_} (h : ¬ t.s 0 = 60) (g : iswS tx k 21 x = true) : oneT tx k (x, t) = endT tx k (ruleT tx k 0 (x, t)) := by
  unfold oneT
  rw [if_neg h, if_pos g]
theorem one_r1 {x : PS} {t : LA_} (h : ¬ t.s 0 = 60) (f : ¬ iswS tx k 21 x = true) (g : iswS tx k 22 x = true) : oneT tx k (x, t) = endT tx k (ruleT tx k 1 (x, t)) := by
  unfold oneT
  rw [if_neg h, if_neg f, if_pos g]
theorem one_st {x : PS} {t : LA_} (h : ¬ t.s 0 = 60) (f : ¬ iswS tx k 21 x = true) (g : ¬ iswS tx k 22 x = true) : oneT tx k (x, t) = endT tx k (stmtT tx k (x, t)) := by
  unfold oneT
  rw [if_neg h, if_neg f, if_neg g]
theorem sr_d {x : PS} (h : ¬ x.1 = 0) : srS tx k x = 0 := if_neg h
theorem all_ini {x : TX} : allT tx k (61 - 1) (x.1, x.2) = allT tx k 60 x := rfl
theorem read_ini : allT tx k (61 - 1) ((endT tx k (lakeT tx k ((0, 0, 0, 0), t0))).1, (endT tx k (lakeT tx k ((0, 0, 0, 0), t0))).2) = readT tx k := by
  unfold readT
  exact all_ini
theorem pr_eta {α β : Type} (p : α × β) : (p.1, p.2) = p := rfl
theorem read_in2 : allT tx k (61 - 1) ((endT tx k ((lakeT tx k ((0, 0, 0, 0), t0)).1, (lakeT tx k ((0, 0, 0, 0), t0)).2)).1, (endT tx k ((lakeT tx k ((0, 0, 0, 0), t0)).1, (lakeT tx k ((0, 0, 0, 0), t0)).2)).2) = readT tx k := by
  unfold readT
  rw [pr_eta, pr_eta]
theorem all_0 {x : TX} : allT tx k 0 x = x := rfl
end RDT
/-! a Lake's cells hold what is told -/
def okn (w : List Nat) : Prop := w.length ≤ 6 ∧ ∀ a ∈ w, 0 < a ∧ a < 27
def NR (f : Nat → List Nat) (n : Nat) (row : Nat → Int32) : Prop := ∀ j, j < n → row j = nI (pk5 (f j)) ∧ okn (f j)
def jn (v : Nat) : Int32 := if v = 0 then -1 else nI (v - 1)
def RB_ (t : LA_) : Prop := t.s 9 ≤ 9 ∧ t.s 4 ≤ 6 ∧ t.s 10 ≤ 16 ∧ t.s 11 ≤ 8
def RA (t : LA_) (d : LD) : Prop := (∀ i, i < 12 → d.1 i = nI (t.s i)) ∧ RB_ t ∧ CC t.cs (d.1 12) (d.2 20)
def RGt (t : LA_) (d : LD) : Prop := ∀ j, j < t.s 9 → d.2 1 j = nI (t.r 1 j) ∧ (¬ t.r 1 j = 0 → d.2 2 j = nI (t.r 2 j)) ∧ (t.r 1 j = 3 → d.2 3 j = nI (t.r 3 j)) ∧ d.2 4 j = nI (t.r 4 j) ∧ d.2 5 j = nI (t.r 5 j) ∧ d.2 6 j = jn (t.r 6 j) ∧ t.r 6 j ≤ t.s 9
def RVt (t : LA_) (d : LD) : Prop := ∀ j, j < t.s 4 → d.2 8 j = nI (t.r 8 j) ∧ t.r 8 j < t.s 9
def RTt (t : LA_) (d : LD) : Prop := ∀ j, j < t.s 10 → (∀ i, 9 ≤ i → i < 16 → d.2 i j = nI (t.r i j)) ∧ t.r 9 j < t.s 4 ∧ t.r 10 j < t.s 9
def RRt (t : LA_) (d : LD) : Prop := ∀ j, j < t.s 11 → ∀ i, 16 ≤ i → i < 20 → d.2 i j = nI (t.r i j)
def RC (t : LA_) (d : LD) : Prop := NR (t.nm 0) (t.s 9) (d.2 0) ∧ NR (t.nm 1) (t.s 4) (d.2 7) ∧ RGt t d ∧ RVt t d ∧ RTt t d ∧ RRt t d
theorem c12_all {P : Nat → Prop} (h0 : P 0) (h1 : P 1) (h2 : P 2) (h3 : P 3) (h4 : P 4) (h5 : P 5) (h6 : P 6) (h7 : P 7) (h8 : P 8) (h9 : P 9) (h10 : P 10) (h11 : P 11) : ∀ i, i < 12 → P i := by
  intro i hi
  have : i = 0 ∨ i = 1 ∨ i = 2 ∨ i = 3 ∨ i = 4 ∨ i = 5 ∨ i = 6 ∨ i = 7 ∨ i = 8 ∨ i = 9 ∨ i = 10 ∨ i = 11 := by omega
  rcases this with rfl | rfl | rfl | rfl | rfl | rfl | rfl | rfl | rfl | rfl | rfl | rfl <;> assumption
theorem c12 {i : Nat} (h : i < 12) : i = 0 ∨ i = 1 ∨ i = 2 ∨ i = 3 ∨ i = 4 ∨ i = 5 ∨ i = 6 ∨ i = 7 ∨ i = 8 ∨ i = 9 ∨ i = 10 ∨ i = 11 := by omega
theorem pk5_30 {w : List Nat} (h : okn w) : pk5 w < 2 ^ 31 := by
  have a := pk5_lt (l := w) (fun x hx => ⟨(h.2 x hx).1, by have := (h.2 x hx).2; omega⟩)
  exact Nat.lt_of_lt_of_le a (Nat.le_trans (Nat.pow_le_pow_right (by decide) h.1) (by decide))
theorem okn_inj {v w : List Nat} (hv : okn v) (hw : okn w) (h : nI (pk5 v) = nI (pk5 w)) : v = w :=
  pk5_inj (fun x hx => ⟨(hv.2 x hx).1, by have := (hv.2 x hx).2; omega⟩) (fun x hx => ⟨(hw.2 x hx).1, by have := (hw.2 x hx).2; omega⟩) ((nI_eq (pk5_30 hv) (pk5_30 hw)).mp h)
/-- a name looked up in a row of numbers, or among names -/
theorem nm_lk {f : Nat → List Nat} {n : Nat} {row : Nat → Int32} (h : NR f n row) {w : List Nat} (hw : okn w) : nmI row n (nI (pk5 w)) = if nmF f n w < n then nI (nmF f n w) else -1 := by
  by_cases c : nmF f n w < n
  · rw [if_pos c]
    refine nmI_f c (fun j hj e => ?_) ?_
    · have a : decide (¬ f j = w) = true := sq_all (P := fun i => decide (¬ f i = w)) (Nat.zero_le j) hj
      exact of_decide_eq_true a (okn_inj (h j (by omega)).2 hw ((h j (by omega)).1.symm.trans e))
    · have a := sq_end (fun i => decide (¬ f i = w)) n 0
      have b : ¬ ¬ f (nmF f n w) = w := fun e => a ⟨c, decide_eq_true e⟩
      rw [(h _ c).1, Classical.not_not.mp b]
  · rw [if_neg c]
    refine nmI_n (fun j hj e => ?_)
    have a : decide (¬ f j = w) = true := sq_all (P := fun i => decide (¬ f i = w)) (n := n) (Nat.zero_le j) (by
      have : nmF f n w ≤ n := sq_le (Nat.zero_le n)
      show j < nmF f n w
      omega)
    exact of_decide_eq_true a (okn_inj (h j hj).2 hw ((h j hj).1.symm.trans e))
section RM
variable {tx : Nat → Nat} {k : Nat} {x : PS}
theorem rm_d (h : ¬ x.1 = 0) : rmS tx k x = x := by
  have : ¬ isoS tx k x = true := by
    rw [isoS_iff]
    intro a
    have := a.1
    unfold srS at this
    rw [if_neg h] at this
    omega
  rw [rmS_n this, failS_d _ _ h]
/-- a name that is taken -/
theorem rm_ok (h : (rmS tx k x).1 = 0) : isoS tx k x = true ∧ ¬ 6 < enS tx k x - stS tx k x ∧ x.1 = 0 := by
  have h0 : x.1 = 0 := by
    by_cases e : x.1 = 0
    · exact e
    · rw [rm_d e] at h
      exact absurd h e
  by_cases a : isoS tx k x = true
  · by_cases b : 6 < enS tx k x - stS tx k x
    · rw [rmS_l a b, failS_0 _ _ h0] at h
      exact absurd h (show ¬ (1 : Nat) = 0 by decide)
    · exact ⟨a, b, h0⟩
  · rw [rmS_n a, failS_0 _ _ h0] at h
    exact absurd h (show ¬ (1 : Nat) = 0 by decide)
theorem rm_nm (h : (rmS tx k x).1 = 0) : okn (tlS tx k x) ∧ rmV tx k x = nI (pk5 (tlS tx k x)) := by
  obtain ⟨a, b, h0⟩ := rm_ok h
  have s : srS tx k x = 1 := (isoS_iff.mp a).1
  obtain ⟨_, c⟩ := sr_all s (by decide) (by decide)
  have hlen : (tlS tx k x).length = enS tx k x - stS tx k x := by rw [tlS, tl, List.length_map, List.length_range]
  refine ⟨⟨by rw [hlen]; omega, fun y hy => ?_⟩, ?_⟩
  · obtain ⟨i, hi, rfl⟩ := List.mem_map.mp hy
    have hi := List.mem_range.mp hi
    have := srt_1' (c (stS tx k x + i) (by omega) (by omega))
    omega
  · have e : rmV tx k x = nI (pkn tx (stS tx k x) (enS tx k x - stS tx k x)) := if_pos ⟨a, b⟩
    rw [e, pkn_pk]
    rfl
/-- a new name: not known -/
theorem nw_k {t : LA_} {r0 r7 : Nat → Int32} (hr : x.1 = 0 → NR (t.nm 0) (t.s 9) r0 ∧ NR (t.nm 1) (t.s 4) r7) (h1 : nmI r0 (t.s 9) (rmV tx k x) = -1) (h2 : nmI r7 (t.s 4) (rmV tx k x) = -1) (b9 : t.s 9 ≤ 9) (b4 : t.s 4 ≤ 6) : nwS tx k x t = rmS tx k x := by
  unfold nwS
  by_cases a : (rmS tx k x).1 = 0
  · obtain ⟨o, e⟩ := rm_nm a
    obtain ⟨n0, n7⟩ := hr (rm_ok a).2.2
    rw [e, nm_lk n0 o] at h1
    rw [e, nm_lk n7 o] at h2
    rw [if_neg]
    rintro (c | c)
    · rw [if_pos c] at h1
      exact nI_nm1 (by omega) h1
    · rw [if_pos c] at h2
      exact nI_nm1 (by omega) h2
  · split
    · exact failS_d _ _ a
    · rfl
theorem nw_f {t : LA_} {r0 r7 : Nat → Int32} (hr : x.1 = 0 → NR (t.nm 0) (t.s 9) r0 ∧ NR (t.nm 1) (t.s 4) r7) (h : (∃ j, j < t.s 9 ∧ nmI r0 (t.s 9) (rmV tx k x) = nI j) ∨ (∃ j, j < t.s 4 ∧ nmI r7 (t.s 4) (rmV tx k x) = nI j)) (b9 : t.s 9 ≤ 9) (b4 : t.s 4 ≤ 6) : nwS tx k x t = failS 3 (stS tx k x) (rmS tx k x) := by
  unfold nwS
  by_cases a : (rmS tx k x).1 = 0
  · obtain ⟨o, e⟩ := rm_nm a
    obtain ⟨n0, n7⟩ := hr (rm_ok a).2.2
    rw [e, nm_lk n0 o, nm_lk n7 o] at h
    refine if_pos ?_
    rcases h with ⟨j, hj, h⟩ | ⟨j, hj, h⟩
    · refine Or.inl ?_
      by_cases c : nmF (t.nm 0) (t.s 9) (tlS tx k x) < t.s 9
      · exact c
      · rw [if_neg c] at h
        exact absurd h.symm (nI_nm1 (by omega))
    · refine Or.inr ?_
      by_cases c : nmF (t.nm 1) (t.s 4) (tlS tx k x) < t.s 4
      · exact c
      · rw [if_neg c] at h
        exact absurd h.symm (nI_nm1 (by omega))
  · rw [failS_d _ _ a]
    split <;> rfl
/-- a name of those told -/
theorem ol_f {f : Nat → List Nat} {n j : Nat} {row : Nat → Int32} (hr : x.1 = 0 → NR f n row) (h : nmI row n (rmV tx k x) = nI j) (hj : j < n) (hn : n ≤ 9) : olS tx k f n x = rmS tx k x ∧ ((rmS tx k x).1 = 0 → nmF f n (tlS tx k x) = j) := by
  unfold olS
  by_cases a : (rmS tx k x).1 = 0
  · obtain ⟨o, e⟩ := rm_nm a
    rw [e, nm_lk (hr (rm_ok a).2.2) o] at h
    by_cases c : nmF f n (tlS tx k x) < n
    · rw [if_pos c] at h ⊢
      exact ⟨rfl, fun _ => (nI_eq (by omega) (by omega)).mp h⟩
    · rw [if_neg c] at h
      exact absurd h.symm (nI_nm1 (by omega))
  · refine ⟨?_, fun b => absurd b a⟩
    split
    · rfl
    · exact failS_d _ _ a
theorem ol_n {f : Nat → List Nat} {n : Nat} {row : Nat → Int32} (hr : x.1 = 0 → NR f n row) (h : nmI row n (rmV tx k x) = -1) (hn : n ≤ 9) : olS tx k f n x = failS 3 (stS tx k x) (rmS tx k x) := by
  unfold olS
  by_cases a : (rmS tx k x).1 = 0
  · obtain ⟨o, e⟩ := rm_nm a
    rw [e, nm_lk (hr (rm_ok a).2.2) o] at h
    by_cases c : nmF f n (tlS tx k x) < n
    · rw [if_pos c] at h
      exact absurd h (nI_nm1 (by omega))
    · rw [if_neg c]
  · rw [failS_d _ _ a]
    split <;> rfl
end RM
section RM2
variable {tx : Nat → Nat} {k : Nat} {x : PS} {fa pl : Int32} {ra rs : Nat} {so : Int32} {le : Int64} {wo nu si : Int32}
theorem cr_fl0 (h : CR tx k x fa pl ra rs so le wo nu si) {y : PS} (hy : ¬ x.1 = 0 → ¬ y.1 = 0) (kd : Nat) : failS kd rs y = failS kd (stS tx k x) y := cr_fl h hy kd 0
theorem rm_dd (h : ¬ x.1 = 0) : ¬ (rmS tx k x).1 = 0 := by
  rw [rm_d h]
  exact h
theorem ol_dd {f : Nat → List Nat} {n : Nat} (h : ¬ x.1 = 0) : ¬ (olS tx k f n x).1 = 0 := by
  unfold olS
  split
  · exact rm_dd h
  · exact fail_d (rm_dd h)
end RM2
section GK
variable {tx : Nat → Nat} {k : Nat} {x : PS}
theorem gk_5 (h : iswS tx k 5 x = true) : gkT tx k x = (advS tx k x, 0, 0, 0) := if_pos h
theorem gk_6 (a : ¬ iswS tx k 5 x = true) (h : iswS tx k 6 x = true) : gkT tx k x = (rnS tx k 1 99 (advS tx k x), 1, rnV tx k 1 99 (advS tx k x), 0) := by
  unfold gkT
  rw [if_neg a, if_pos h]
theorem gk_7 (a : ¬ iswS tx k 5 x = true) (b : ¬ iswS tx k 6 x = true) (h : iswS tx k 7 x = true) : gkT tx k x = (rnS tx k 1 9 (advS tx k x), 2, rnV tx k 1 9 (advS tx k x), 0) := by
  unfold gkT
  rw [if_neg a, if_neg b, if_pos h]
theorem gk_8 (a : ¬ iswS tx k 5 x = true) (b : ¬ iswS tx k 6 x = true) (c : ¬ iswS tx k 7 x = true) (h : iswS tx k 8 x = true) : gkT tx k x = (rnS tx k (rnV tx k 0 999 (advS tx k x)) 999 (rwS tx k 9 (rnS tx k 0 999 (advS tx k x))), 3, rnV tx k 0 999 (advS tx k x), rnV tx k (rnV tx k 0 999 (advS tx k x)) 999 (rwS tx k 9 (rnS tx k 0 999 (advS tx k x)))) := by
  unfold gkT
  rw [if_neg a, if_neg b, if_neg c, if_pos h]
theorem gk_0 (a : ¬ iswS tx k 5 x = true) (b : ¬ iswS tx k 6 x = true) (c : ¬ iswS tx k 7 x = true) (h : ¬ iswS tx k 8 x = true) : gkT tx k x = (failS 1 (stS tx k x) x, 0, 0, 0) := by
  unfold gkT
  rw [if_neg a, if_neg b, if_neg c, if_neg h]
end GK
theorem c20 {i : Nat} (h : i < 20) : i = 0 ∨ i = 1 ∨ i = 2 ∨ i = 3 ∨ i = 4 ∨ i = 5 ∨ i = 6 ∨ i = 7 ∨ i = 8 ∨ i = 9 ∨ i = 10 ∨ i = 11 ∨ i = 12 ∨ i = 13 ∨ i = 14 ∨ i = 15 ∨ i = 16 ∨ i = 17 ∨ i = 18 ∨ i = 19 := by omega
theorem c16 {i : Nat} (h : i < 16) : i = 0 ∨ i = 1 ∨ i = 2 ∨ i = 3 ∨ i = 4 ∨ i = 5 ∨ i = 6 ∨ i = 7 ∨ i = 8 ∨ i = 9 ∨ i = 10 ∨ i = 11 ∨ i = 12 ∨ i = 13 ∨ i = 14 ∨ i = 15 := by omega
section RCT
variable {t t' : LA_} {d d' : LD}
/-- numbers alone are told anew -/
theorem rc_sc (h : RC t d) (h2 : t'.2 = t.2) (a : t'.s 9 = t.s 9) (b : t'.s 4 = t.s 4) (c : t'.s 10 = t.s 10) (e : t'.s 11 = t.s 11) (hr : ∀ i, i < 20 → d'.2 i = d.2 i) : RC t' d' := by
  obtain ⟨h0, h7, hg, hv, ht, hq⟩ := h
  have r : t'.r = t.r := congrArg (fun z => z.1) h2
  have m : t'.nm = t.nm := congrArg (fun z => z.2.1) h2
  refine ⟨?_, ?_, ?_, ?_, ?_, ?_⟩
  · rw [m, a, hr 0 (by decide)]
    exact h0
  · rw [m, b, hr 7 (by decide)]
    exact h7
  · intro j hj
    rw [a] at hj ⊢
    rw [r, hr 1 (by decide), hr 2 (by decide), hr 3 (by decide), hr 4 (by decide), hr 5 (by decide), hr 6 (by decide)]
    exact hg j hj
  · intro j hj
    rw [b] at hj
    rw [r, a, hr 8 (by decide)]
    exact hv j hj
  · intro j hj
    rw [c] at hj
    rw [r, a, b]
    exact ⟨fun i h1 h2 => by rw [hr i (by omega)]; exact (ht j hj).1 i h1 h2, (ht j hj).2⟩
  · intro j hj i h1 h2
    rw [e] at hj
    rw [r, hr i (by omega)]
    exact hq j hj i h1 h2
/-- a gate more -/
theorem rc_gate (h : RC t d) {n : Nat} (hn : n = t.s 9) {w : List Nat} {kd a b bd wd : Nat} (x0 : d'.2 0 = upd (d.2 0) n (nI (pk5 w))) (hw : okn w) (x1 : d'.2 1 n = nI kd) (x2 : ¬ kd = 0 → d'.2 2 n = nI a) (x3 : kd = 3 → d'.2 3 n = nI b) (xf : ∀ i, ¬ i = n → d'.2 1 i = d.2 1 i ∧ d'.2 2 i = d.2 2 i ∧ d'.2 3 i = d.2 3 i) (x4 : d'.2 4 = upd (d.2 4) n (nI bd)) (x5 : d'.2 5 = upd (d.2 5) n (nI wd)) (x6 : d'.2 6 = upd (d.2 6) n (-1)) (hr : ∀ i, 7 ≤ i → i < 20 → d'.2 i = d.2 i) :
    RC (setS (setR (setR (setR (setR (setR (setR (setN t 0 n w) 1 n kd) 2 n a) 3 n b) 4 n bd) 5 n wd) 6 n 0) 9 (n + 1)) d' := by
  obtain ⟨h0, h7, hg, hv, ht, hq⟩ := h
  have e9 : ∀ T : LA_, (setS T 9 (n + 1)).s 9 = n + 1 := fun T => rfl
  refine ⟨?_, ?_, ?_, ?_, ?_, ?_⟩
  · intro j hj
    have hj' : j < n + 1 := hj
    by_cases c : j = n
    · subst c
      rw [x0, pk_us]
      have q : (setN t 0 j w).nm 0 j = w := if_pos ⟨rfl, rfl⟩
      exact ⟨congrArg (fun z => nI (pk5 z)) q.symm, by
        show okn ((setN t 0 j w).nm 0 j)
        rw [q]
        exact hw⟩
    · rw [x0, pk_un c]
      have q : (setN t 0 n w).nm 0 j = t.nm 0 j := if_neg (fun z => c z.2)
      have := h0 j (by omega)
      exact ⟨this.1.trans (congrArg (fun z => nI (pk5 z)) q.symm), by
        show okn ((setN t 0 n w).nm 0 j)
        rw [q]
        exact this.2⟩
  · intro j hj
    rw [hr 7 (by decide) (by decide)]
    exact h7 j hj
  · intro j hj
    have hj' : j < n + 1 := hj
    by_cases c : j = n
    · subst c
      have q1 : (setS (setR (setR (setR (setR (setR (setR (setN t 0 j w) 1 j kd) 2 j a) 3 j b) 4 j bd) 5 j wd) 6 j 0) 9 (j + 1)).r 1 j = kd := by simp [LA_.s, LA_.r, LA_.nm, LA_.cs, setS, setR, setN]
      have q2 : (setS (setR (setR (setR (setR (setR (setR (setN t 0 j w) 1 j kd) 2 j a) 3 j b) 4 j bd) 5 j wd) 6 j 0) 9 (j + 1)).r 2 j = a := by simp [LA_.s, LA_.r, LA_.nm, LA_.cs, setS, setR, setN]
      have q3 : (setS (setR (setR (setR (setR (setR (setR (setN t 0 j w) 1 j kd) 2 j a) 3 j b) 4 j bd) 5 j wd) 6 j 0) 9 (j + 1)).r 3 j = b := by simp [LA_.s, LA_.r, LA_.nm, LA_.cs, setS, setR, setN]
      have q4 : (setS (setR (setR (setR (setR (setR (setR (setN t 0 j w) 1 j kd) 2 j a) 3 j b) 4 j bd) 5 j wd) 6 j 0) 9 (j + 1)).r 4 j = bd := by simp [LA_.s, LA_.r, LA_.nm, LA_.cs, setS, setR, setN]
      have q5 : (setS (setR (setR (setR (setR (setR (setR (setN t 0 j w) 1 j kd) 2 j a) 3 j b) 4 j bd) 5 j wd) 6 j 0) 9 (j + 1)).r 5 j = wd := by simp [LA_.s, LA_.r, LA_.nm, LA_.cs, setS, setR, setN]
      have q6 : (setS (setR (setR (setR (setR (setR (setR (setN t 0 j w) 1 j kd) 2 j a) 3 j b) 4 j bd) 5 j wd) 6 j 0) 9 (j + 1)).r 6 j = 0 := by simp [LA_.s, LA_.r, LA_.nm, LA_.cs, setS, setR, setN]
      rw [q1, q2, q3, q4, q5, q6, x4, x5, x6, pk_us, pk_us, pk_us]
      exact ⟨x1, x2, x3, rfl, rfl, rfl, Nat.zero_le _⟩
    · have q : ∀ i, (setS (setR (setR (setR (setR (setR (setR (setN t 0 n w) 1 n kd) 2 n a) 3 n b) 4 n bd) 5 n wd) 6 n 0) 9 (n + 1)).r i j = t.r i j := by
        intro i
        simp [LA_.s, LA_.r, LA_.nm, LA_.cs, setS, setR, setN, c]
      have g := hg j (by omega)
      obtain ⟨f1, f2, f3⟩ := xf j c
      rw [q, q, q, q, q, q, x4, x5, x6, pk_un c, pk_un c, pk_un c, f1, f2, f3]
      exact ⟨g.1, g.2.1, g.2.2.1, g.2.2.2.1, g.2.2.2.2.1, g.2.2.2.2.2.1, Nat.le_trans g.2.2.2.2.2.2 (by rw [e9]; omega)⟩
  · intro j hj
    have q : (setS (setR (setR (setR (setR (setR (setR (setN t 0 n w) 1 n kd) 2 n a) 3 n b) 4 n bd) 5 n wd) 6 n 0) 9 (n + 1)).r 8 j = t.r 8 j := by simp [LA_.s, LA_.r, LA_.nm, LA_.cs, setS, setR, setN]
    rw [q, hr 8 (by decide) (by decide), e9]
    have := hv j hj
    exact ⟨this.1, by omega⟩
  · intro j hj
    have q : ∀ i, 9 ≤ i → (setS (setR (setR (setR (setR (setR (setR (setN t 0 n w) 1 n kd) 2 n a) 3 n b) 4 n bd) 5 n wd) 6 n 0) 9 (n + 1)).r i j = t.r i j := by
      intro i hi
      have : ¬ i = 1 ∧ ¬ i = 2 ∧ ¬ i = 3 ∧ ¬ i = 4 ∧ ¬ i = 5 ∧ ¬ i = 6 := by omega
      simp [LA_.s, LA_.r, LA_.nm, LA_.cs, setS, setR, setN, this]
    have g := ht j hj
    refine ⟨fun i h1 h2 => ?_, ?_⟩
    · rw [q i h1, hr i (by omega) (by omega)]
      exact g.1 i h1 h2
    · rw [q 9 (by decide), q 10 (by decide), e9]
      exact ⟨g.2.1, by omega⟩
  · intro j hj i h1 h2
    have q : (setS (setR (setR (setR (setR (setR (setR (setN t 0 n w) 1 n kd) 2 n a) 3 n b) 4 n bd) 5 n wd) 6 n 0) 9 (n + 1)).r i j = t.r i j := by
      have : ¬ i = 1 ∧ ¬ i = 2 ∧ ¬ i = 3 ∧ ¬ i = 4 ∧ ¬ i = 5 ∧ ¬ i = 6 := by omega
      simp [LA_.s, LA_.r, LA_.nm, LA_.cs, setS, setR, setN, this]
    rw [q, hr i (by omega) (by omega)]
    exact hq j hj i h1 h2
end RCT
section RCT2
variable {t : LA_} {d d' : LD}
theorem jn_s (v : Nat) : jn (v + 1) = nI v := by
  unfold jn
  rw [if_neg (by omega), Nat.add_sub_cancel]
theorem jn_z {v : Nat} (h : v ≤ 9) : jn v = -1 ↔ v = 0 := by
  unfold jn
  constructor
  · intro a
    by_cases e : v = 0
    · exact e
    · rw [if_neg e] at a
      exact absurd a (nI_nm1 (by omega))
  · intro a
    rw [if_pos a]
/-- two gates joined -/
theorem rc_join (h : RC t d) {g q : Nat} (hg9 : t.s 9 ≤ 9) (hg : g < t.s 9) (hq : q < t.s 9) (hne : ¬ q = g) (x6 : d'.2 6 = upd (upd (d.2 6) g (nI q)) q (nI g)) (hr : ∀ i, i < 20 → ¬ i = 6 → d'.2 i = d.2 i) : RC (setR (setR t 6 g (q + 1)) 6 q (g + 1)) d' := by
  obtain ⟨h0, h7, hgt, hv, ht, hqq⟩ := h
  have e : ∀ i j, ¬ i = 6 → (setR (setR t 6 g (q + 1)) 6 q (g + 1)).r i j = t.r i j := by
    intro i j hi
    simp [LA_.s, LA_.r, LA_.nm, LA_.cs, setR, hi]
  refine ⟨?_, ?_, ?_, ?_, ?_, ?_⟩
  · rw [hr 0 (by decide) (by decide)]
    exact h0
  · rw [hr 7 (by decide) (by decide)]
    exact h7
  · intro j hj
    have g0 := hgt j hj
    rw [e 1 j (by decide), e 2 j (by decide), e 3 j (by decide), e 4 j (by decide), e 5 j (by decide), hr 1 (by decide) (by decide), hr 2 (by decide) (by decide), hr 3 (by decide) (by decide), hr 4 (by decide) (by decide), hr 5 (by decide) (by decide), x6]
    refine ⟨g0.1, g0.2.1, g0.2.2.1, g0.2.2.2.1, g0.2.2.2.2.1, ?_⟩
    by_cases c : j = q
    · have a : (setR (setR t 6 g (q + 1)) 6 q (g + 1)).r 6 j = g + 1 := by simp [LA_.s, LA_.r, LA_.nm, LA_.cs, setR, c]
      rw [a, c, pk_us, jn_s]
      exact ⟨rfl, by show g + 1 ≤ t.s 9; omega⟩
    · by_cases c2 : j = g
      · have a : (setR (setR t 6 g (q + 1)) 6 q (g + 1)).r 6 j = q + 1 := by simp [LA_.s, LA_.r, LA_.nm, LA_.cs, setR, c, c2, fun z : g = q => hne z.symm]
        rw [a, pk_un c, c2, pk_us, jn_s]
        exact ⟨rfl, by show q + 1 ≤ t.s 9; omega⟩
      · have a : (setR (setR t 6 g (q + 1)) 6 q (g + 1)).r 6 j = t.r 6 j := by simp [LA_.s, LA_.r, LA_.nm, LA_.cs, setR, c, c2]
        rw [a, pk_un c, pk_un c2]
        exact g0.2.2.2.2.2
  · intro j hj
    rw [e 8 j (by decide), hr 8 (by decide) (by decide)]
    exact hv j hj
  · intro j hj
    have g0 := ht j hj
    exact ⟨fun i h1 h2 => by rw [e i j (by omega), hr i (by omega) (by omega)]; exact g0.1 i h1 h2, by rw [e 9 j (by decide), e 10 j (by decide)]; exact g0.2⟩
  · intro j hj i h1 h2
    rw [e i j (by omega), hr i (by omega) (by omega)]
    exact hqq j hj i h1 h2
/-- a village more -/
theorem rc_vill (h : RC t d) {n g : Nat} (hn : n = t.s 4) {w : List Nat} (x7 : d'.2 7 = upd (d.2 7) n (nI (pk5 w))) (hw : okn w) (x8 : d'.2 8 = upd (d.2 8) n (nI g)) (hg : g < t.s 9) (hr : ∀ i, i < 20 → ¬ i = 7 → ¬ i = 8 → d'.2 i = d.2 i) : RC (setS (setR (setN t 1 n w) 8 n g) 4 (n + 1)) d' := by
  obtain ⟨h0, h7, hgt, hv, ht, hqq⟩ := h
  have e : ∀ i j, ¬ i = 8 → (setS (setR (setN t 1 n w) 8 n g) 4 (n + 1)).r i j = t.r i j := by
    intro i j hi
    simp [LA_.s, LA_.r, LA_.nm, LA_.cs, setS, setR, setN, hi]
  refine ⟨?_, ?_, ?_, ?_, ?_, ?_⟩
  · rw [hr 0 (by decide) (by decide) (by decide)]
    exact h0
  · intro j hj
    have hj' : j < n + 1 := hj
    by_cases c : j = n
    · subst c
      rw [x7, pk_us]
      have q : (setN t 1 j w).nm 1 j = w := if_pos ⟨rfl, rfl⟩
      exact ⟨congrArg (fun z => nI (pk5 z)) q.symm, by
        show okn ((setN t 1 j w).nm 1 j)
        rw [q]
        exact hw⟩
    · rw [x7, pk_un c]
      have q : (setN t 1 n w).nm 1 j = t.nm 1 j := if_neg (fun z => c z.2)
      have := h7 j (by omega)
      exact ⟨this.1.trans (congrArg (fun z => nI (pk5 z)) q.symm), by
        show okn ((setN t 1 n w).nm 1 j)
        rw [q]
        exact this.2⟩
  · intro j hj
    rw [e 1 j (by decide), e 2 j (by decide), e 3 j (by decide), e 4 j (by decide), e 5 j (by decide), e 6 j (by decide), hr 1 (by decide) (by decide) (by decide), hr 2 (by decide) (by decide) (by decide), hr 3 (by decide) (by decide) (by decide), hr 4 (by decide) (by decide) (by decide), hr 5 (by decide) (by decide) (by decide), hr 6 (by decide) (by decide) (by decide)]
    exact hgt j hj
  · intro j hj
    have hj' : j < n + 1 := hj
    by_cases c : j = n
    · have a : (setS (setR (setN t 1 n w) 8 n g) 4 (n + 1)).r 8 j = g := by simp [LA_.s, LA_.r, LA_.nm, LA_.cs, setS, setR, setN, c]
      rw [a, x8, c, pk_us]
      exact ⟨rfl, hg⟩
    · have a : (setS (setR (setN t 1 n w) 8 n g) 4 (n + 1)).r 8 j = t.r 8 j := by simp [LA_.s, LA_.r, LA_.nm, LA_.cs, setS, setR, setN, c]
      rw [a, x8, pk_un c]
      exact hv j (by omega)
  · intro j hj
    have g0 := ht j hj
    refine ⟨fun i h1 h2 => by rw [e i j (by omega), hr i (by omega) (by omega) (by omega)]; exact g0.1 i h1 h2, ?_⟩
    rw [e 9 j (by decide), e 10 j (by decide)]
    exact ⟨by show t.r 9 j < n + 1; omega, g0.2.2⟩
  · intro j hj i h1 h2
    rw [e i j (by omega), hr i (by omega) (by omega) (by omega)]
    exact hqq j hj i h1 h2
/-- a thing more -/
theorem rc_thing (h : RC t d) {n v9 v10 v11 v12 v13 v14 v15 : Nat} (hn : n = t.s 10) (x9 : d'.2 9 = upd (d.2 9) n (nI v9)) (x10 : d'.2 10 = upd (d.2 10) n (nI v10)) (x11 : d'.2 11 = upd (d.2 11) n (nI v11)) (x12 : d'.2 12 = upd (d.2 12) n (nI v12)) (x13 : d'.2 13 = upd (d.2 13) n (nI v13)) (x14 : d'.2 14 = upd (d.2 14) n (nI v14)) (x15 : d'.2 15 = upd (d.2 15) n (nI v15)) (hv9 : v9 < t.s 4) (hv10 : v10 < t.s 9) (hr : ∀ i, i < 20 → (i < 9 ∨ 16 ≤ i) → d'.2 i = d.2 i) :
    RC (setS (setR (setR (setR (setR (setR (setR (setR t 9 n v9) 10 n v10) 11 n v11) 12 n v12) 13 n v13) 14 n v14) 15 n v15) 10 (n + 1)) d' := by
  obtain ⟨h0, h7, hgt, hv, ht, hqq⟩ := h
  have e : ∀ i j, (i < 9 ∨ 16 ≤ i) → (setS (setR (setR (setR (setR (setR (setR (setR t 9 n v9) 10 n v10) 11 n v11) 12 n v12) 13 n v13) 14 n v14) 15 n v15) 10 (n + 1)).r i j = t.r i j := by
    intro i j hi
    have : ¬ i = 9 ∧ ¬ i = 10 ∧ ¬ i = 11 ∧ ¬ i = 12 ∧ ¬ i = 13 ∧ ¬ i = 14 ∧ ¬ i = 15 := by omega
    simp [LA_.s, LA_.r, LA_.nm, LA_.cs, setS, setR, this]
  refine ⟨?_, ?_, ?_, ?_, ?_, ?_⟩
  · rw [hr 0 (by decide) (by decide)]
    exact h0
  · rw [hr 7 (by decide) (by decide)]
    exact h7
  · intro j hj
    rw [e 1 j (by decide), e 2 j (by decide), e 3 j (by decide), e 4 j (by decide), e 5 j (by decide), e 6 j (by decide), hr 1 (by decide) (by decide), hr 2 (by decide) (by decide), hr 3 (by decide) (by decide), hr 4 (by decide) (by decide), hr 5 (by decide) (by decide), hr 6 (by decide) (by decide)]
    exact hgt j hj
  · intro j hj
    rw [e 8 j (by decide), hr 8 (by decide) (by decide)]
    exact hv j hj
  · intro j hj
    have hj' : j < n + 1 := hj
    by_cases c : j = n
    · subst c
      refine ⟨fun i h1 h2 => ?_, ?_⟩
      · have : i = 9 ∨ i = 10 ∨ i = 11 ∨ i = 12 ∨ i = 13 ∨ i = 14 ∨ i = 15 := by omega
        rcases this with rfl | rfl | rfl | rfl | rfl | rfl | rfl
        · rw [x9, pk_us]; simp [LA_.s, LA_.r, LA_.nm, LA_.cs, setS, setR]
        · rw [x10, pk_us]; simp [LA_.s, LA_.r, LA_.nm, LA_.cs, setS, setR]
        · rw [x11, pk_us]; simp [LA_.s, LA_.r, LA_.nm, LA_.cs, setS, setR]
        · rw [x12, pk_us]; simp [LA_.s, LA_.r, LA_.nm, LA_.cs, setS, setR]
        · rw [x13, pk_us]; simp [LA_.s, LA_.r, LA_.nm, LA_.cs, setS, setR]
        · rw [x14, pk_us]; simp [LA_.s, LA_.r, LA_.nm, LA_.cs, setS, setR]
        · rw [x15, pk_us]; simp [LA_.s, LA_.r, LA_.nm, LA_.cs, setS, setR]
      · have a : (setS (setR (setR (setR (setR (setR (setR (setR t 9 j v9) 10 j v10) 11 j v11) 12 j v12) 13 j v13) 14 j v14) 15 j v15) 10 (j + 1)).r 9 j = v9 := by simp [LA_.s, LA_.r, LA_.nm, LA_.cs, setS, setR]
        have b : (setS (setR (setR (setR (setR (setR (setR (setR t 9 j v9) 10 j v10) 11 j v11) 12 j v12) 13 j v13) 14 j v14) 15 j v15) 10 (j + 1)).r 10 j = v10 := by simp [LA_.s, LA_.r, LA_.nm, LA_.cs, setS, setR]
        rw [a, b]
        exact ⟨hv9, hv10⟩
    · have g0 := ht j (by omega)
      have q : ∀ i, (setS (setR (setR (setR (setR (setR (setR (setR t 9 n v9) 10 n v10) 11 n v11) 12 n v12) 13 n v13) 14 n v14) 15 n v15) 10 (n + 1)).r i j = t.r i j := by
        intro i
        simp [LA_.s, LA_.r, LA_.nm, LA_.cs, setS, setR, c]
      refine ⟨fun i h1 h2 => ?_, ?_⟩
      · rw [q]
        have := g0.1 i h1 h2
        have hi : i = 9 ∨ i = 10 ∨ i = 11 ∨ i = 12 ∨ i = 13 ∨ i = 14 ∨ i = 15 := by omega
        rcases hi with rfl | rfl | rfl | rfl | rfl | rfl | rfl
        · rw [x9, pk_un c]; exact this
        · rw [x10, pk_un c]; exact this
        · rw [x11, pk_un c]; exact this
        · rw [x12, pk_un c]; exact this
        · rw [x13, pk_un c]; exact this
        · rw [x14, pk_un c]; exact this
        · rw [x15, pk_un c]; exact this
      · rw [q, q]
        exact g0.2
  · intro j hj i h1 h2
    rw [e i j (Or.inr h1), hr i (by omega) (Or.inr h1)]
    exact hqq j hj i h1 h2
/-- a rule more -/
theorem rc_rule (h : RC t d) {n v16 v17 v18 v19 : Nat} {cs : List Nat} (hn : n = t.s 11) (x16 : d'.2 16 = upd (d.2 16) n (nI v16)) (x17 : d'.2 17 = upd (d.2 17) n (nI v17)) (x18 : d'.2 18 = upd (d.2 18) n (nI v18)) (x19 : d'.2 19 = upd (d.2 19) n (nI v19)) (hr : ∀ i, i < 16 → d'.2 i = d.2 i) :
    RC (setC (setS (setR (setR (setR (setR t 16 n v16) 17 n v17) 18 n v18) 19 n v19) 11 (n + 1)) cs) d' := by
  obtain ⟨h0, h7, hgt, hv, ht, hqq⟩ := h
  have e : ∀ i j, i < 16 → (setC (setS (setR (setR (setR (setR t 16 n v16) 17 n v17) 18 n v18) 19 n v19) 11 (n + 1)) cs).r i j = t.r i j := by
    intro i j hi
    have : ¬ i = 16 ∧ ¬ i = 17 ∧ ¬ i = 18 ∧ ¬ i = 19 := by omega
    simp [LA_.s, LA_.r, LA_.nm, LA_.cs, setC, setS, setR, this]
  refine ⟨?_, ?_, ?_, ?_, ?_, ?_⟩
  · rw [hr 0 (by decide)]
    exact h0
  · rw [hr 7 (by decide)]
    exact h7
  · intro j hj
    rw [e 1 j (by decide), e 2 j (by decide), e 3 j (by decide), e 4 j (by decide), e 5 j (by decide), e 6 j (by decide), hr 1 (by decide), hr 2 (by decide), hr 3 (by decide), hr 4 (by decide), hr 5 (by decide), hr 6 (by decide)]
    exact hgt j hj
  · intro j hj
    rw [e 8 j (by decide), hr 8 (by decide)]
    exact hv j hj
  · intro j hj
    have g0 := ht j hj
    exact ⟨fun i h1 h2 => by rw [e i j h2, hr i h2]; exact g0.1 i h1 h2, by rw [e 9 j (by decide), e 10 j (by decide)]; exact g0.2⟩
  · intro j hj i h1 h2
    have hj' : j < n + 1 := hj
    have hi : i = 16 ∨ i = 17 ∨ i = 18 ∨ i = 19 := by omega
    by_cases c : j = n
    · subst c
      rcases hi with rfl | rfl | rfl | rfl
      · rw [x16, pk_us]; simp [LA_.s, LA_.r, LA_.nm, LA_.cs, setC, setS, setR]
      · rw [x17, pk_us]; simp [LA_.s, LA_.r, LA_.nm, LA_.cs, setC, setS, setR]
      · rw [x18, pk_us]; simp [LA_.s, LA_.r, LA_.nm, LA_.cs, setC, setS, setR]
      · rw [x19, pk_us]; simp [LA_.s, LA_.r, LA_.nm, LA_.cs, setC, setS, setR]
    · have q : ∀ i, (setC (setS (setR (setR (setR (setR t 16 n v16) 17 n v17) 18 n v18) 19 n v19) 11 (n + 1)) cs).r i j = t.r i j := by
        intro i
        simp [LA_.s, LA_.r, LA_.nm, LA_.cs, setC, setS, setR, c]
      rw [q]
      have := hqq j (by omega) i h1 h2
      rcases hi with rfl | rfl | rfl | rfl
      · rw [x16, pk_un c]; exact this
      · rw [x17, pk_un c]; exact this
      · rw [x18, pk_un c]; exact this
      · rw [x19, pk_un c]; exact this
end RCT2
theorem rc_t0 (d : LD) : RC t0 d := ⟨fun j h => absurd h (Nat.not_lt_zero _), fun j h => absurd h (Nat.not_lt_zero _), fun j h => absurd h (Nat.not_lt_zero _), fun j h => absurd h (Nat.not_lt_zero _), fun j h => absurd h (Nat.not_lt_zero _), fun j h => absurd h (Nat.not_lt_zero _)⟩
theorem ra_t0 {d : LD} (h : ∀ i, i < 12 → d.1 i = nI (t0.s i)) (h2 : d.1 12 = 0) : RA t0 d := ⟨h, ⟨by decide, by decide, by decide, by decide⟩, ⟨h2, by decide, fun j hj => absurd hj (Nat.not_lt_zero _)⟩⟩
set_option maxHeartbeats 4000000 in
set_option maxRecDepth 100000 in
theorem c_rF_readNewName (l : Launch) (D : va_G) (y : Nat → ClassId) (rd : Nat) (ow : Nat) (tp : Nat) (td : Nat) (fa : Int32) (pl : Int32) (so : Int32) (le : Int64) (wo : Int32) (nu : Int32) (si : Int32) (ra : Nat) (rs : Nat) (k : Nat) (tx : Nat → Nat) (ww : Nat → Int64) (gs : PS) (gt : LA_) (ad : Nat → Nat) (d : LD) (ha : ra ≤ k) (hs : rs ≤ ra) (hk : k ≤ 1600) (hB : ∀ j, tx j < 256) (hWW : ∀ w, w < 33 → ww w = nL (pk5 (owf w))) (hg : CR tx k gs fa pl ra rs so le wo nu si) (h4 : d.1 4 = nI (gt.s 4)) (b4 : (gt.s 4) ≤ 6) (h9 : d.1 9 = nI (gt.s 9)) (b9 : (gt.s 9) ≤ 9) (hnr : (gs.1 = 0 → NR (gt.nm 0) (gt.s 9) (d.2 0) ∧ NR (gt.nm 1) (gt.s 4) (d.2 7))) : CT l D y ⟨"NineBoards$Reader", "readNewName", "()I"⟩ prog_8_method_29_code 3 (some .int) ({ frames := 3, cells := 0, slots := 0, locals := 65 } : Room) [.ref rd] [(rd, .inr (5, [.int fa, .int pl, .ref ow, .ref tp, .ref (ad 0), .int (nI ra), .int so, .int (nI rs), .long le, .int wo, .int nu, .int si])), (tp, .inr (0, [.ref td, .int (nI k)])), (td, .inl (y 0, 1600, .inl (tby tx))), (ow, .inl (y 1, 33, .inr (.inl ww))), (ad 0, .inr (2, [.int (d.1 0), .int (d.1 1), .int (d.1 2), .int (d.1 3), .ref (ad 1), .int (d.1 4), .ref (ad 11), .ref (ad 12), .ref (ad 2), .ref (ad 3), .int (d.1 5), .int (d.1 6), .int (d.1 7), .int (d.1 8)])), (ad 1, .inr (1, [.int (d.1 9), .ref (ad 4), .ref (ad 5), .ref (ad 6), .ref (ad 7), .ref (ad 8), .ref (ad 9), .ref (ad 10)])), (ad 4, .inl (y 0, 9, .inl (d.2 0))), (ad 11, .inl (y 0, 6, .inl (d.2 7)))] (QI D [(rd, .inr (5, [.int fa, .int pl, .ref ow, .ref tp, .ref (ad 0), .int (nI ra), .int so, .int (nI rs), .long le, .int wo, .int nu, .int si])), (tp, .inr (0, [.ref td, .int (nI k)])), (td, .inl (y 0, 1600, .inl (tby tx))), (ow, .inl (y 1, 33, .inr (.inl ww))), (ad 0, .inr (2, [.int (d.1 0), .int (d.1 1), .int (d.1 2), .int (d.1 3), .ref (ad 1), .int (d.1 4), .ref (ad 11), .ref (ad 12), .ref (ad 2), .ref (ad 3), .int (d.1 5), .int (d.1 6), .int (d.1 7), .int (d.1 8)])), (ad 1, .inr (1, [.int (d.1 9), .ref (ad 4), .ref (ad 5), .ref (ad 6), .ref (ad 7), .ref (ad 8), .ref (ad 9), .ref (ad 10)])), (ad 4, .inl (y 0, 9, .inl (d.2 0))), (ad 11, .inl (y 0, 6, .inl (d.2 7)))] (fun (r : Int32) (u : Int32 × Int32 × Nat × Nat × Int32 × Int64 × Int32 × Int32 × Int32) => r = rmV tx k gs ∧ u.2.2.1 ≤ k ∧ u.2.2.2.1 ≤ u.2.2.1 ∧ (u.1 = 0 → fa = 0) ∧ CR tx k (nwS tx k gs gt) u.1 u.2.1 u.2.2.1 u.2.2.2.1 u.2.2.2.2.1 u.2.2.2.2.2.1 u.2.2.2.2.2.2.1 u.2.2.2.2.2.2.2.1 u.2.2.2.2.2.2.2.2) (fun u => [(rd, .inr (5, [.int u.1, .int u.2.1, .ref ow, .ref tp, .ref (ad 0), .int (nI u.2.2.1), .int u.2.2.2.2.1, .int (nI u.2.2.2.1), .long u.2.2.2.2.2.1, .int u.2.2.2.2.2.2.1, .int u.2.2.2.2.2.2.2.1, .int u.2.2.2.2.2.2.2.2])), (tp, .inr (0, [.ref td, .int (nI k)])), (td, .inl (y 0, 1600, .inl (tby tx))), (ow, .inl (y 1, 33, .inr (.inl ww))), (ad 0, .inr (2, [.int (d.1 0), .int (d.1 1), .int (d.1 2), .int (d.1 3), .ref (ad 1), .int (d.1 4), .ref (ad 11), .ref (ad 12), .ref (ad 2), .ref (ad 3), .int (d.1 5), .int (d.1 6), .int (d.1 7), .int (d.1 8)])), (ad 1, .inr (1, [.int (d.1 9), .ref (ad 4), .ref (ad 5), .ref (ad 6), .ref (ad 7), .ref (ad 8), .ref (ad 9), .ref (ad 10)])), (ad 4, .inl (y 0, 9, .inl (d.2 0))), (ad 11, .inl (y 0, 6, .inl (d.2 7)))])) := by
  refine CT.of (by decide) (nb rfl) ?_
  intro p e s m args below meth c C hr
  refine j_lv (lv' := [(0, .ref rd)]) rfl ?_
  refine j_aload_n (pc := 0) C d_Reader_readNewName_0 rfl 0 rfl ?_
  refine j_get (pc := 1) C gf_Reader_62 0 rfl rfl d_Reader_readNewName_1 ?_
  refine j_istore_n (pc := 4) C (lv' := [(1, .int (nI rs)), (0, .ref rd)]) d_Reader_readNewName_4 rfl (by decide) rfl ?_
  refine j_aload_n (pc := 5) C d_Reader_readNewName_5 rfl 1 rfl ?_
  refine j_callVi (pc := 6) C (c_rF_readName l D y rd ow tp (ad 0) td fa pl so le wo nu si ra rs k tx ww gs ha hs hk hB hWW hg) kw_Reader_188 kv_Reader_readName 0 5 rfl rfl ⟨by decide, by decide⟩ ⟨by decide, by decide⟩ (wr := [(ad 0, .inr (2, [.int (d.1 0), .int (d.1 1), .int (d.1 2), .int (d.1 3), .ref (ad 1), .int (d.1 4), .ref (ad 11), .ref (ad 12), .ref (ad 2), .ref (ad 3), .int (d.1 5), .int (d.1 6), .int (d.1 7), .int (d.1 8)])), (ad 1, .inr (1, [.int (d.1 9), .ref (ad 4), .ref (ad 5), .ref (ad 6), .ref (ad 7), .ref (ad 8), .ref (ad 9), .ref (ad 10)])), (ad 4, .inl (y 0, 9, .inl (d.2 0))), (ad 11, .inl (y 0, 6, .inl (d.2 7)))]) [0, 1, 2, 3] [4, 5, 6, 7] rfl rfl (by decide +kernel) (by decide +kernel) (by decide +kernel) (As := []) (rest := []) rfl (nb rfl) rfl d_Reader_readNewName_6 (fun r1 u2 hr1 => ?_)
  obtain ⟨rfl, xh3, xh4, xh5, xh6⟩ := hr1
  refine j_ws (ws' := [(ad 0, .inr (2, [.int (d.1 0), .int (d.1 1), .int (d.1 2), .int (d.1 3), .ref (ad 1), .int (d.1 4), .ref (ad 11), .ref (ad 12), .ref (ad 2), .ref (ad 3), .int (d.1 5), .int (d.1 6), .int (d.1 7), .int (d.1 8)])), (ad 1, .inr (1, [.int (d.1 9), .ref (ad 4), .ref (ad 5), .ref (ad 6), .ref (ad 7), .ref (ad 8), .ref (ad 9), .ref (ad 10)])), (ad 4, .inl (y 0, 9, .inl (d.2 0))), (ad 11, .inl (y 0, 6, .inl (d.2 7))), (rd, .inr (5, [.int u2.1, .int u2.2.1, .ref ow, .ref tp, .ref (ad 0), .int (nI u2.2.2.1), .int u2.2.2.2.2.1, .int (nI u2.2.2.2.1), .long u2.2.2.2.2.2.1, .int u2.2.2.2.2.2.2.1, .int u2.2.2.2.2.2.2.2.1, .int u2.2.2.2.2.2.2.2.2])), (tp, .inr (0, [.ref td, .int (nI k)])), (td, .inl (y 0, 1600, .inl (tby tx))), (ow, .inl (y 1, 33, .inr (.inl ww)))]) rfl ?_
  refine j_istore_n (pc := 9) C (lv' := [(2, .int (rmV tx k gs)), (1, .int (nI rs)), (0, .ref rd)]) d_Reader_readNewName_9 rfl (by decide) rfl ?_
  refine j_aload_n (pc := 10) C d_Reader_readNewName_10 rfl 2 rfl ?_
  refine j_get (pc := 11) C gf_Reader_23 4 rfl rfl d_Reader_readNewName_11 ?_
  refine j_get (pc := 14) C gf_Reader_124 0 rfl rfl d_Reader_readNewName_14 ?_
  refine j_iload_n (pc := 17) C d_Reader_readNewName_17 rfl 0 rfl ?_
  refine j_callVi (pc := 18) C (c_lF_named l D y ad d (gt.s 9) (rmV tx k gs) h9 b9) kw_Reader_282 kv_Gates_named 0 1 rfl rfl ⟨by decide, by decide⟩ ⟨by decide, by decide⟩ (wr := [(ad 0, .inr (2, [.int (d.1 0), .int (d.1 1), .int (d.1 2), .int (d.1 3), .ref (ad 1), .int (d.1 4), .ref (ad 11), .ref (ad 12), .ref (ad 2), .ref (ad 3), .int (d.1 5), .int (d.1 6), .int (d.1 7), .int (d.1 8)])), (ad 11, .inl (y 0, 6, .inl (d.2 7))), (rd, .inr (5, [.int u2.1, .int u2.2.1, .ref ow, .ref tp, .ref (ad 0), .int (nI u2.2.2.1), .int u2.2.2.2.2.1, .int (nI u2.2.2.2.1), .long u2.2.2.2.2.2.1, .int u2.2.2.2.2.2.2.1, .int u2.2.2.2.2.2.2.2.1, .int u2.2.2.2.2.2.2.2.2])), (tp, .inr (0, [.ref td, .int (nI k)])), (td, .inl (y 0, 1600, .inl (tby tx))), (ow, .inl (y 1, 33, .inr (.inl ww)))]) [1, 2] [0, 3, 4, 5, 6, 7] rfl rfl (by decide +kernel) (by decide +kernel) (by decide +kernel) (As := [.int (rmV tx k gs)]) (rest := []) rfl (nb rfl) rfl d_Reader_readNewName_18 (fun r7 _ hr7 => ?_)
  refine j_ws (ws' := [(ad 0, .inr (2, [.int (d.1 0), .int (d.1 1), .int (d.1 2), .int (d.1 3), .ref (ad 1), .int (d.1 4), .ref (ad 11), .ref (ad 12), .ref (ad 2), .ref (ad 3), .int (d.1 5), .int (d.1 6), .int (d.1 7), .int (d.1 8)])), (ad 11, .inl (y 0, 6, .inl (d.2 7))), (rd, .inr (5, [.int u2.1, .int u2.2.1, .ref ow, .ref tp, .ref (ad 0), .int (nI u2.2.2.1), .int u2.2.2.2.2.1, .int (nI u2.2.2.2.1), .long u2.2.2.2.2.2.1, .int u2.2.2.2.2.2.2.1, .int u2.2.2.2.2.2.2.2.1, .int u2.2.2.2.2.2.2.2.2])), (tp, .inr (0, [.ref td, .int (nI k)])), (td, .inl (y 0, 1600, .inl (tby tx))), (ow, .inl (y 1, 33, .inr (.inl ww))), (ad 1, .inr (1, [.int (d.1 9), .ref (ad 4), .ref (ad 5), .ref (ad 6), .ref (ad 7), .ref (ad 8), .ref (ad 9), .ref (ad 10)])), (ad 4, .inl (y 0, 9, .inl (d.2 0)))]) rfl ?_
  rcases hr7 with ⟨rfl, xh9⟩ | ⟨j10, xh11, rfl, xh12⟩
  · refine j_iconst (pc := 21) C (v := (-1)) d_Reader_readNewName_21 (by decide) ?_
    refine j_icmp_neF (pc := 22) C (tgt := 37) d_Reader_readNewName_22 (by decide) (by decide) ?_
    refine j_aload_n (pc := 25) C d_Reader_readNewName_25 rfl 2 rfl ?_
    refine j_get (pc := 26) C gf_Reader_23 2 rfl rfl d_Reader_readNewName_26 ?_
    refine j_iload_n (pc := 29) C d_Reader_readNewName_29 rfl 0 rfl ?_
    refine j_callVi (pc := 30) C (c_lF_villageNamed l D y ad d (gt.s 4) (rmV tx k gs) h4 b4) kw_Reader_191 kv_Lake_villageNamed 0 2 rfl rfl ⟨by decide, by decide⟩ ⟨by decide, by decide⟩ (wr := [(rd, .inr (5, [.int u2.1, .int u2.2.1, .ref ow, .ref tp, .ref (ad 0), .int (nI u2.2.2.1), .int u2.2.2.2.2.1, .int (nI u2.2.2.2.1), .long u2.2.2.2.2.2.1, .int u2.2.2.2.2.2.2.1, .int u2.2.2.2.2.2.2.2.1, .int u2.2.2.2.2.2.2.2.2])), (tp, .inr (0, [.ref td, .int (nI k)])), (td, .inl (y 0, 1600, .inl (tby tx))), (ow, .inl (y 1, 33, .inr (.inl ww))), (ad 1, .inr (1, [.int (d.1 9), .ref (ad 4), .ref (ad 5), .ref (ad 6), .ref (ad 7), .ref (ad 8), .ref (ad 9), .ref (ad 10)])), (ad 4, .inl (y 0, 9, .inl (d.2 0)))]) [0, 1] [2, 3, 4, 5, 6, 7] rfl rfl (by decide +kernel) (by decide +kernel) (by decide +kernel) (As := [.int (rmV tx k gs)]) (rest := []) rfl (nb rfl) rfl d_Reader_readNewName_30 (fun r13 _ hr13 => ?_)
    refine j_ws (ws' := [(rd, .inr (5, [.int u2.1, .int u2.2.1, .ref ow, .ref tp, .ref (ad 0), .int (nI u2.2.2.1), .int u2.2.2.2.2.1, .int (nI u2.2.2.2.1), .long u2.2.2.2.2.2.1, .int u2.2.2.2.2.2.2.1, .int u2.2.2.2.2.2.2.2.1, .int u2.2.2.2.2.2.2.2.2])), (tp, .inr (0, [.ref td, .int (nI k)])), (td, .inl (y 0, 1600, .inl (tby tx))), (ow, .inl (y 1, 33, .inr (.inl ww))), (ad 1, .inr (1, [.int (d.1 9), .ref (ad 4), .ref (ad 5), .ref (ad 6), .ref (ad 7), .ref (ad 8), .ref (ad 9), .ref (ad 10)])), (ad 4, .inl (y 0, 9, .inl (d.2 0))), (ad 0, .inr (2, [.int (d.1 0), .int (d.1 1), .int (d.1 2), .int (d.1 3), .ref (ad 1), .int (d.1 4), .ref (ad 11), .ref (ad 12), .ref (ad 2), .ref (ad 3), .int (d.1 5), .int (d.1 6), .int (d.1 7), .int (d.1 8)])), (ad 11, .inl (y 0, 6, .inl (d.2 7)))]) rfl ?_
    rcases hr13 with ⟨rfl, xh15⟩ | ⟨j16, xh17, rfl, xh18⟩
    · refine j_iconst (pc := 33) C (v := (-1)) d_Reader_readNewName_33 (by decide) ?_
      refine j_icmp_eqT (pc := 34) C (tgt := 43) d_Reader_readNewName_34 (by decide) (by decide) ?_
      refine j_iload_n (pc := 43) C d_Reader_readNewName_43 rfl 0 rfl ?_
      exact j_iret (pc := 44) C hr rfl (u2.1, u2.2.1, u2.2.2.1, u2.2.2.2.1, u2.2.2.2.2.1, u2.2.2.2.2.2.1, u2.2.2.2.2.2.2.1, u2.2.2.2.2.2.2.2.1, u2.2.2.2.2.2.2.2.2) ⟨rfl, (show u2.2.2.1 ≤ k by omega), (show u2.2.2.2.1 ≤ u2.2.2.1 by omega), (fun e => id (xh5 e)), (show CR tx k (nwS tx k gs gt) u2.1 u2.2.1 u2.2.2.1 u2.2.2.2.1 u2.2.2.2.2.1 u2.2.2.2.2.2.1 u2.2.2.2.2.2.2.1 u2.2.2.2.2.2.2.2.1 u2.2.2.2.2.2.2.2.2 from (by rw [nw_k hnr xh9 xh15 b9 b4]; exact xh6))⟩ [0, 1, 2, 3, 6, 4, 5, 7] rfl (by decide) (by decide) (by decide) d_Reader_readNewName_44
    · refine j_iconst (pc := 33) C (v := (-1)) d_Reader_readNewName_33 (by decide) ?_
      refine j_icmp_eqF (pc := 34) C (tgt := 43) d_Reader_readNewName_34 (by decide) (nI_nm1 (by omega)) ?_
      refine j_aload_n (pc := 37) C d_Reader_readNewName_37 rfl 2 rfl ?_
      refine j_iconst (pc := 38) C (v := 3) d_Reader_readNewName_38 (by decide) ?_
      refine j_iload_n (pc := 39) C d_Reader_readNewName_39 rfl 1 rfl ?_
      refine j_callVv (pc := 40) C (c_rF_fail_3 l D y rd ow tp (ad 0) td u2.1 u2.2.1 u2.2.2.2.2.1 u2.2.2.2.2.2.1 u2.2.2.2.2.2.2.1 u2.2.2.2.2.2.2.2.1 u2.2.2.2.2.2.2.2.2 u2.2.2.1 u2.2.2.2.1 k tx (rmS tx k gs) rs xh3 xh4 hk xh6 (by omega)) kw_Reader_65 kv_Reader_fail 0 5 rfl rfl ⟨by decide, by decide⟩ ⟨by decide, by decide⟩ (wr := [(td, .inl (y 0, 1600, .inl (tby tx))), (ow, .inl (y 1, 33, .inr (.inl ww))), (ad 1, .inr (1, [.int (d.1 9), .ref (ad 4), .ref (ad 5), .ref (ad 6), .ref (ad 7), .ref (ad 8), .ref (ad 9), .ref (ad 10)])), (ad 4, .inl (y 0, 9, .inl (d.2 0))), (ad 0, .inr (2, [.int (d.1 0), .int (d.1 1), .int (d.1 2), .int (d.1 3), .ref (ad 1), .int (d.1 4), .ref (ad 11), .ref (ad 12), .ref (ad 2), .ref (ad 3), .int (d.1 5), .int (d.1 6), .int (d.1 7), .int (d.1 8)])), (ad 11, .inl (y 0, 6, .inl (d.2 7)))]) [0, 1] [2, 3, 4, 5, 6, 7] rfl rfl (by decide +kernel) (by decide +kernel) (by decide +kernel) (As := [.int 3, .int (nI rs)]) (rest := []) rfl (nb rfl) rfl d_Reader_readNewName_40 (fun u19 hu20 => ?_)
      obtain ⟨xh21, xh22⟩ := hu20
      refine j_ws (ws' := [(td, .inl (y 0, 1600, .inl (tby tx))), (ow, .inl (y 1, 33, .inr (.inl ww))), (ad 1, .inr (1, [.int (d.1 9), .ref (ad 4), .ref (ad 5), .ref (ad 6), .ref (ad 7), .ref (ad 8), .ref (ad 9), .ref (ad 10)])), (ad 4, .inl (y 0, 9, .inl (d.2 0))), (ad 0, .inr (2, [.int (d.1 0), .int (d.1 1), .int (d.1 2), .int (d.1 3), .ref (ad 1), .int (d.1 4), .ref (ad 11), .ref (ad 12), .ref (ad 2), .ref (ad 3), .int (d.1 5), .int (d.1 6), .int (d.1 7), .int (d.1 8)])), (ad 11, .inl (y 0, 6, .inl (d.2 7))), (rd, .inr (5, [.int u19.1, .int u19.2, .ref ow, .ref tp, .ref (ad 0), .int (nI k), .int 0, .int (nI k), .long u2.2.2.2.2.2.1, .int u2.2.2.2.2.2.2.1, .int u2.2.2.2.2.2.2.2.1, .int u2.2.2.2.2.2.2.2.2])), (tp, .inr (0, [.ref td, .int (nI k)]))]) rfl ?_
      refine j_iload_n (pc := 43) C d_Reader_readNewName_43 rfl 0 rfl ?_
      exact j_iret (pc := 44) C hr rfl (u19.1, u19.2, k, k, 0, u2.2.2.2.2.2.1, u2.2.2.2.2.2.2.1, u2.2.2.2.2.2.2.2.1, u2.2.2.2.2.2.2.2.2) ⟨rfl, (show k ≤ k by omega), (show k ≤ k by omega), (fun e => absurd e xh21), (show CR tx k (nwS tx k gs gt) u19.1 u19.2 k k 0 u2.2.2.2.2.2.1 u2.2.2.2.2.2.2.1 u2.2.2.2.2.2.2.2.1 u2.2.2.2.2.2.2.2.2 from (by rw [nw_f hnr (Or.inr ⟨j16, xh17, xh18⟩) b9 b4, ← cr_fl0 hg rm_dd]; exact xh22))⟩ [6, 7, 0, 1, 4, 2, 3, 5] rfl (by decide) (by decide) (by decide) d_Reader_readNewName_44
  · refine j_iconst (pc := 21) C (v := (-1)) d_Reader_readNewName_21 (by decide) ?_
    refine j_icmp_neT (pc := 22) C (tgt := 37) d_Reader_readNewName_22 (by decide) (nI_nm1 (by omega)) ?_
    refine j_aload_n (pc := 37) C d_Reader_readNewName_37 rfl 2 rfl ?_
    refine j_iconst (pc := 38) C (v := 3) d_Reader_readNewName_38 (by decide) ?_
    refine j_iload_n (pc := 39) C d_Reader_readNewName_39 rfl 1 rfl ?_
    refine j_callVv (pc := 40) C (c_rF_fail_3 l D y rd ow tp (ad 0) td u2.1 u2.2.1 u2.2.2.2.2.1 u2.2.2.2.2.2.1 u2.2.2.2.2.2.2.1 u2.2.2.2.2.2.2.2.1 u2.2.2.2.2.2.2.2.2 u2.2.2.1 u2.2.2.2.1 k tx (rmS tx k gs) rs xh3 xh4 hk xh6 (by omega)) kw_Reader_65 kv_Reader_fail 0 5 rfl rfl ⟨by decide, by decide⟩ ⟨by decide, by decide⟩ (wr := [(ad 0, .inr (2, [.int (d.1 0), .int (d.1 1), .int (d.1 2), .int (d.1 3), .ref (ad 1), .int (d.1 4), .ref (ad 11), .ref (ad 12), .ref (ad 2), .ref (ad 3), .int (d.1 5), .int (d.1 6), .int (d.1 7), .int (d.1 8)])), (ad 11, .inl (y 0, 6, .inl (d.2 7))), (td, .inl (y 0, 1600, .inl (tby tx))), (ow, .inl (y 1, 33, .inr (.inl ww))), (ad 1, .inr (1, [.int (d.1 9), .ref (ad 4), .ref (ad 5), .ref (ad 6), .ref (ad 7), .ref (ad 8), .ref (ad 9), .ref (ad 10)])), (ad 4, .inl (y 0, 9, .inl (d.2 0)))]) [2, 3] [0, 1, 4, 5, 6, 7] rfl rfl (by decide +kernel) (by decide +kernel) (by decide +kernel) (As := [.int 3, .int (nI rs)]) (rest := []) rfl (nb rfl) rfl d_Reader_readNewName_40 (fun u23 hu24 => ?_)
    obtain ⟨xh25, xh26⟩ := hu24
    refine j_ws (ws' := [(ad 0, .inr (2, [.int (d.1 0), .int (d.1 1), .int (d.1 2), .int (d.1 3), .ref (ad 1), .int (d.1 4), .ref (ad 11), .ref (ad 12), .ref (ad 2), .ref (ad 3), .int (d.1 5), .int (d.1 6), .int (d.1 7), .int (d.1 8)])), (ad 11, .inl (y 0, 6, .inl (d.2 7))), (td, .inl (y 0, 1600, .inl (tby tx))), (ow, .inl (y 1, 33, .inr (.inl ww))), (ad 1, .inr (1, [.int (d.1 9), .ref (ad 4), .ref (ad 5), .ref (ad 6), .ref (ad 7), .ref (ad 8), .ref (ad 9), .ref (ad 10)])), (ad 4, .inl (y 0, 9, .inl (d.2 0))), (rd, .inr (5, [.int u23.1, .int u23.2, .ref ow, .ref tp, .ref (ad 0), .int (nI k), .int 0, .int (nI k), .long u2.2.2.2.2.2.1, .int u2.2.2.2.2.2.2.1, .int u2.2.2.2.2.2.2.2.1, .int u2.2.2.2.2.2.2.2.2])), (tp, .inr (0, [.ref td, .int (nI k)]))]) rfl ?_
    refine j_iload_n (pc := 43) C d_Reader_readNewName_43 rfl 0 rfl ?_
    exact j_iret (pc := 44) C hr rfl (u23.1, u23.2, k, k, 0, u2.2.2.2.2.2.1, u2.2.2.2.2.2.2.1, u2.2.2.2.2.2.2.2.1, u2.2.2.2.2.2.2.2.2) ⟨rfl, (show k ≤ k by omega), (show k ≤ k by omega), (fun e => absurd e xh25), (show CR tx k (nwS tx k gs gt) u23.1 u23.2 k k 0 u2.2.2.2.2.2.1 u2.2.2.2.2.2.2.1 u2.2.2.2.2.2.2.2.1 u2.2.2.2.2.2.2.2.2 from (by rw [nw_f hnr (Or.inl ⟨j10, xh11, xh12⟩) b9 b4, ← cr_fl0 hg rm_dd]; exact xh26))⟩ [6, 7, 2, 3, 0, 4, 5, 1] rfl (by decide) (by decide) (by decide) d_Reader_readNewName_44
set_option maxHeartbeats 4000000 in
set_option maxRecDepth 100000 in
theorem c_rF_readGateName (l : Launch) (D : va_G) (y : Nat → ClassId) (rd : Nat) (ow : Nat) (tp : Nat) (td : Nat) (fa : Int32) (pl : Int32) (so : Int32) (le : Int64) (wo : Int32) (nu : Int32) (si : Int32) (ra : Nat) (rs : Nat) (k : Nat) (tx : Nat → Nat) (ww : Nat → Int64) (gs : PS) (gt : LA_) (ad : Nat → Nat) (d : LD) (ha : ra ≤ k) (hs : rs ≤ ra) (hk : k ≤ 1600) (hB : ∀ j, tx j < 256) (hWW : ∀ w, w < 33 → ww w = nL (pk5 (owf w))) (hg : CR tx k gs fa pl ra rs so le wo nu si) (h9 : d.1 9 = nI (gt.s 9)) (b9 : (gt.s 9) ≤ 9) (hnr0 : (gs.1 = 0 → NR (gt.nm 0) (gt.s 9) (d.2 0))) : CT l D y ⟨"NineBoards$Reader", "readGateName", "()I"⟩ prog_8_method_30_code 3 (some .int) ({ frames := 3, cells := 0, slots := 0, locals := 65 } : Room) [.ref rd] [(rd, .inr (5, [.int fa, .int pl, .ref ow, .ref tp, .ref (ad 0), .int (nI ra), .int so, .int (nI rs), .long le, .int wo, .int nu, .int si])), (tp, .inr (0, [.ref td, .int (nI k)])), (td, .inl (y 0, 1600, .inl (tby tx))), (ow, .inl (y 1, 33, .inr (.inl ww))), (ad 0, .inr (2, [.int (d.1 0), .int (d.1 1), .int (d.1 2), .int (d.1 3), .ref (ad 1), .int (d.1 4), .ref (ad 11), .ref (ad 12), .ref (ad 2), .ref (ad 3), .int (d.1 5), .int (d.1 6), .int (d.1 7), .int (d.1 8)])), (ad 1, .inr (1, [.int (d.1 9), .ref (ad 4), .ref (ad 5), .ref (ad 6), .ref (ad 7), .ref (ad 8), .ref (ad 9), .ref (ad 10)])), (ad 4, .inl (y 0, 9, .inl (d.2 0)))] (QI D [(rd, .inr (5, [.int fa, .int pl, .ref ow, .ref tp, .ref (ad 0), .int (nI ra), .int so, .int (nI rs), .long le, .int wo, .int nu, .int si])), (tp, .inr (0, [.ref td, .int (nI k)])), (td, .inl (y 0, 1600, .inl (tby tx))), (ow, .inl (y 1, 33, .inr (.inl ww))), (ad 0, .inr (2, [.int (d.1 0), .int (d.1 1), .int (d.1 2), .int (d.1 3), .ref (ad 1), .int (d.1 4), .ref (ad 11), .ref (ad 12), .ref (ad 2), .ref (ad 3), .int (d.1 5), .int (d.1 6), .int (d.1 7), .int (d.1 8)])), (ad 1, .inr (1, [.int (d.1 9), .ref (ad 4), .ref (ad 5), .ref (ad 6), .ref (ad 7), .ref (ad 8), .ref (ad 9), .ref (ad 10)])), (ad 4, .inl (y 0, 9, .inl (d.2 0)))] (fun (r : Int32) (u : Int32 × Int32 × Nat × Nat × Int32 × Int64 × Int32 × Int32 × Int32) => u.2.2.1 ≤ k ∧ u.2.2.2.1 ≤ u.2.2.1 ∧ (u.1 = 0 → fa = 0) ∧ CR tx k (olS tx k (gt.nm 0) (gt.s 9) gs) u.1 u.2.1 u.2.2.1 u.2.2.2.1 u.2.2.2.2.1 u.2.2.2.2.2.1 u.2.2.2.2.2.2.1 u.2.2.2.2.2.2.2.1 u.2.2.2.2.2.2.2.2 ∧ ((r = -1 ∧ ¬ u.1 = 0) ∨ ∃ j : Nat, j < gt.s 9 ∧ r = nI j ∧ (u.1 = 0 → nmF (gt.nm 0) (gt.s 9) (tlS tx k gs) = j))) (fun u => [(rd, .inr (5, [.int u.1, .int u.2.1, .ref ow, .ref tp, .ref (ad 0), .int (nI u.2.2.1), .int u.2.2.2.2.1, .int (nI u.2.2.2.1), .long u.2.2.2.2.2.1, .int u.2.2.2.2.2.2.1, .int u.2.2.2.2.2.2.2.1, .int u.2.2.2.2.2.2.2.2])), (tp, .inr (0, [.ref td, .int (nI k)])), (td, .inl (y 0, 1600, .inl (tby tx))), (ow, .inl (y 1, 33, .inr (.inl ww))), (ad 0, .inr (2, [.int (d.1 0), .int (d.1 1), .int (d.1 2), .int (d.1 3), .ref (ad 1), .int (d.1 4), .ref (ad 11), .ref (ad 12), .ref (ad 2), .ref (ad 3), .int (d.1 5), .int (d.1 6), .int (d.1 7), .int (d.1 8)])), (ad 1, .inr (1, [.int (d.1 9), .ref (ad 4), .ref (ad 5), .ref (ad 6), .ref (ad 7), .ref (ad 8), .ref (ad 9), .ref (ad 10)])), (ad 4, .inl (y 0, 9, .inl (d.2 0)))])) := by
  refine CT.of (by decide) (nb rfl) ?_
  intro p e s m args below meth c C hr
  refine j_lv (lv' := [(0, .ref rd)]) rfl ?_
  refine j_aload_n (pc := 0) C d_Reader_readGateName_0 rfl 0 rfl ?_
  refine j_get (pc := 1) C gf_Reader_62 0 rfl rfl d_Reader_readGateName_1 ?_
  refine j_istore_n (pc := 4) C (lv' := [(1, .int (nI rs)), (0, .ref rd)]) d_Reader_readGateName_4 rfl (by decide) rfl ?_
  refine j_aload_n (pc := 5) C d_Reader_readGateName_5 rfl 1 rfl ?_
  refine j_get (pc := 6) C gf_Reader_23 0 rfl rfl d_Reader_readGateName_6 ?_
  refine j_get (pc := 9) C gf_Reader_124 4 rfl rfl d_Reader_readGateName_9 ?_
  refine j_aload_n (pc := 12) C d_Reader_readGateName_12 rfl 1 rfl ?_
  refine j_callVi (pc := 13) C (c_rF_readName l D y rd ow tp (ad 0) td fa pl so le wo nu si ra rs k tx ww gs ha hs hk hB hWW hg) kw_Reader_188 kv_Reader_readName 0 5 rfl rfl ⟨by decide, by decide⟩ ⟨by decide, by decide⟩ (wr := [(ad 0, .inr (2, [.int (d.1 0), .int (d.1 1), .int (d.1 2), .int (d.1 3), .ref (ad 1), .int (d.1 4), .ref (ad 11), .ref (ad 12), .ref (ad 2), .ref (ad 3), .int (d.1 5), .int (d.1 6), .int (d.1 7), .int (d.1 8)])), (ad 1, .inr (1, [.int (d.1 9), .ref (ad 4), .ref (ad 5), .ref (ad 6), .ref (ad 7), .ref (ad 8), .ref (ad 9), .ref (ad 10)])), (ad 4, .inl (y 0, 9, .inl (d.2 0)))]) [0, 1, 2, 3] [4, 5, 6] rfl rfl (by decide +kernel) (by decide +kernel) (by decide +kernel) (As := []) (rest := [.ref (ad 1)]) rfl (nb rfl) rfl d_Reader_readGateName_13 (fun r1 u2 hr1 => ?_)
  obtain ⟨rfl, xh3, xh4, xh5, xh6⟩ := hr1
  refine j_ws (ws' := [(ad 0, .inr (2, [.int (d.1 0), .int (d.1 1), .int (d.1 2), .int (d.1 3), .ref (ad 1), .int (d.1 4), .ref (ad 11), .ref (ad 12), .ref (ad 2), .ref (ad 3), .int (d.1 5), .int (d.1 6), .int (d.1 7), .int (d.1 8)])), (ad 1, .inr (1, [.int (d.1 9), .ref (ad 4), .ref (ad 5), .ref (ad 6), .ref (ad 7), .ref (ad 8), .ref (ad 9), .ref (ad 10)])), (ad 4, .inl (y 0, 9, .inl (d.2 0))), (rd, .inr (5, [.int u2.1, .int u2.2.1, .ref ow, .ref tp, .ref (ad 0), .int (nI u2.2.2.1), .int u2.2.2.2.2.1, .int (nI u2.2.2.2.1), .long u2.2.2.2.2.2.1, .int u2.2.2.2.2.2.2.1, .int u2.2.2.2.2.2.2.2.1, .int u2.2.2.2.2.2.2.2.2])), (tp, .inr (0, [.ref td, .int (nI k)])), (td, .inl (y 0, 1600, .inl (tby tx))), (ow, .inl (y 1, 33, .inr (.inl ww)))]) rfl ?_
  refine j_callVi (pc := 16) C (c_lF_named l D y ad d (gt.s 9) (rmV tx k gs) h9 b9) kw_Reader_282 kv_Gates_named 0 1 rfl rfl ⟨by decide, by decide⟩ ⟨by decide, by decide⟩ (wr := [(ad 0, .inr (2, [.int (d.1 0), .int (d.1 1), .int (d.1 2), .int (d.1 3), .ref (ad 1), .int (d.1 4), .ref (ad 11), .ref (ad 12), .ref (ad 2), .ref (ad 3), .int (d.1 5), .int (d.1 6), .int (d.1 7), .int (d.1 8)])), (rd, .inr (5, [.int u2.1, .int u2.2.1, .ref ow, .ref tp, .ref (ad 0), .int (nI u2.2.2.1), .int u2.2.2.2.2.1, .int (nI u2.2.2.2.1), .long u2.2.2.2.2.2.1, .int u2.2.2.2.2.2.2.1, .int u2.2.2.2.2.2.2.2.1, .int u2.2.2.2.2.2.2.2.2])), (tp, .inr (0, [.ref td, .int (nI k)])), (td, .inl (y 0, 1600, .inl (tby tx))), (ow, .inl (y 1, 33, .inr (.inl ww)))]) [1, 2] [0, 3, 4, 5, 6] rfl rfl (by decide +kernel) (by decide +kernel) (by decide +kernel) (As := [.int (rmV tx k gs)]) (rest := []) rfl (nb rfl) rfl d_Reader_readGateName_16 (fun r7 _ hr7 => ?_)
  refine j_ws (ws' := [(ad 0, .inr (2, [.int (d.1 0), .int (d.1 1), .int (d.1 2), .int (d.1 3), .ref (ad 1), .int (d.1 4), .ref (ad 11), .ref (ad 12), .ref (ad 2), .ref (ad 3), .int (d.1 5), .int (d.1 6), .int (d.1 7), .int (d.1 8)])), (rd, .inr (5, [.int u2.1, .int u2.2.1, .ref ow, .ref tp, .ref (ad 0), .int (nI u2.2.2.1), .int u2.2.2.2.2.1, .int (nI u2.2.2.2.1), .long u2.2.2.2.2.2.1, .int u2.2.2.2.2.2.2.1, .int u2.2.2.2.2.2.2.2.1, .int u2.2.2.2.2.2.2.2.2])), (tp, .inr (0, [.ref td, .int (nI k)])), (td, .inl (y 0, 1600, .inl (tby tx))), (ow, .inl (y 1, 33, .inr (.inl ww))), (ad 1, .inr (1, [.int (d.1 9), .ref (ad 4), .ref (ad 5), .ref (ad 6), .ref (ad 7), .ref (ad 8), .ref (ad 9), .ref (ad 10)])), (ad 4, .inl (y 0, 9, .inl (d.2 0)))]) rfl ?_
  rcases hr7 with ⟨rfl, xh9⟩ | ⟨j10, xh11, rfl, xh12⟩
  · refine j_istore_n (pc := 19) C (lv' := [(2, .int (-1)), (1, .int (nI rs)), (0, .ref rd)]) d_Reader_readGateName_19 rfl (by decide) rfl ?_
    refine j_iload_n (pc := 20) C d_Reader_readGateName_20 rfl 0 rfl ?_
    refine j_iconst (pc := 21) C (v := (-1)) d_Reader_readGateName_21 (by decide) ?_
    refine j_icmp_neF (pc := 22) C (tgt := 31) d_Reader_readGateName_22 (by decide) (by decide) ?_
    refine j_aload_n (pc := 25) C d_Reader_readGateName_25 rfl 2 rfl ?_
    refine j_iconst (pc := 26) C (v := 3) d_Reader_readGateName_26 (by decide) ?_
    refine j_iload_n (pc := 27) C d_Reader_readGateName_27 rfl 1 rfl ?_
    refine j_callVv (pc := 28) C (c_rF_fail_3 l D y rd ow tp (ad 0) td u2.1 u2.2.1 u2.2.2.2.2.1 u2.2.2.2.2.2.1 u2.2.2.2.2.2.2.1 u2.2.2.2.2.2.2.2.1 u2.2.2.2.2.2.2.2.2 u2.2.2.1 u2.2.2.2.1 k tx (rmS tx k gs) rs xh3 xh4 hk xh6 (by omega)) kw_Reader_65 kv_Reader_fail 0 5 rfl rfl ⟨by decide, by decide⟩ ⟨by decide, by decide⟩ (wr := [(ad 0, .inr (2, [.int (d.1 0), .int (d.1 1), .int (d.1 2), .int (d.1 3), .ref (ad 1), .int (d.1 4), .ref (ad 11), .ref (ad 12), .ref (ad 2), .ref (ad 3), .int (d.1 5), .int (d.1 6), .int (d.1 7), .int (d.1 8)])), (td, .inl (y 0, 1600, .inl (tby tx))), (ow, .inl (y 1, 33, .inr (.inl ww))), (ad 1, .inr (1, [.int (d.1 9), .ref (ad 4), .ref (ad 5), .ref (ad 6), .ref (ad 7), .ref (ad 8), .ref (ad 9), .ref (ad 10)])), (ad 4, .inl (y 0, 9, .inl (d.2 0)))]) [1, 2] [0, 3, 4, 5, 6] rfl rfl (by decide +kernel) (by decide +kernel) (by decide +kernel) (As := [.int 3, .int (nI rs)]) (rest := []) rfl (nb rfl) rfl d_Reader_readGateName_28 (fun u13 hu14 => ?_)
    obtain ⟨xh15, xh16⟩ := hu14
    refine j_ws (ws' := [(ad 0, .inr (2, [.int (d.1 0), .int (d.1 1), .int (d.1 2), .int (d.1 3), .ref (ad 1), .int (d.1 4), .ref (ad 11), .ref (ad 12), .ref (ad 2), .ref (ad 3), .int (d.1 5), .int (d.1 6), .int (d.1 7), .int (d.1 8)])), (td, .inl (y 0, 1600, .inl (tby tx))), (ow, .inl (y 1, 33, .inr (.inl ww))), (ad 1, .inr (1, [.int (d.1 9), .ref (ad 4), .ref (ad 5), .ref (ad 6), .ref (ad 7), .ref (ad 8), .ref (ad 9), .ref (ad 10)])), (ad 4, .inl (y 0, 9, .inl (d.2 0))), (rd, .inr (5, [.int u13.1, .int u13.2, .ref ow, .ref tp, .ref (ad 0), .int (nI k), .int 0, .int (nI k), .long u2.2.2.2.2.2.1, .int u2.2.2.2.2.2.2.1, .int u2.2.2.2.2.2.2.2.1, .int u2.2.2.2.2.2.2.2.2])), (tp, .inr (0, [.ref td, .int (nI k)]))]) rfl ?_
    refine j_iload_n (pc := 31) C d_Reader_readGateName_31 rfl 0 rfl ?_
    exact j_iret (pc := 32) C hr rfl (u13.1, u13.2, k, k, 0, u2.2.2.2.2.2.1, u2.2.2.2.2.2.2.1, u2.2.2.2.2.2.2.2.1, u2.2.2.2.2.2.2.2.2) ⟨(show k ≤ k by omega), (show k ≤ k by omega), (fun e => absurd e xh15), (show CR tx k (olS tx k (gt.nm 0) (gt.s 9) gs) u13.1 u13.2 k k 0 u2.2.2.2.2.2.1 u2.2.2.2.2.2.2.1 u2.2.2.2.2.2.2.2.1 u2.2.2.2.2.2.2.2.2 from (by rw [ol_n hnr0 xh9 b9, ← cr_fl0 hg rm_dd]; exact xh16)), (Or.inl ⟨rfl, xh15⟩)⟩ [5, 6, 1, 2, 0, 3, 4] rfl (by decide) (by decide) (by decide) d_Reader_readGateName_32
  · refine j_istore_n (pc := 19) C (lv' := [(2, .int (nI j10)), (1, .int (nI rs)), (0, .ref rd)]) d_Reader_readGateName_19 rfl (by decide) rfl ?_
    refine j_iload_n (pc := 20) C d_Reader_readGateName_20 rfl 0 rfl ?_
    refine j_iconst (pc := 21) C (v := (-1)) d_Reader_readGateName_21 (by decide) ?_
    refine j_icmp_neT (pc := 22) C (tgt := 31) d_Reader_readGateName_22 (by decide) (nI_nm1 (by omega)) ?_
    refine j_iload_n (pc := 31) C d_Reader_readGateName_31 rfl 0 rfl ?_
    exact j_iret (pc := 32) C hr rfl (u2.1, u2.2.1, u2.2.2.1, u2.2.2.2.1, u2.2.2.2.2.1, u2.2.2.2.2.2.1, u2.2.2.2.2.2.2.1, u2.2.2.2.2.2.2.2.1, u2.2.2.2.2.2.2.2.2) ⟨(show u2.2.2.1 ≤ k by omega), (show u2.2.2.2.1 ≤ u2.2.2.1 by omega), (fun e => id (xh5 e)), (show CR tx k (olS tx k (gt.nm 0) (gt.s 9) gs) u2.1 u2.2.1 u2.2.2.1 u2.2.2.2.1 u2.2.2.2.2.1 u2.2.2.2.2.2.1 u2.2.2.2.2.2.2.1 u2.2.2.2.2.2.2.2.1 u2.2.2.2.2.2.2.2.2 from (by rw [(ol_f hnr0 xh12 xh11 b9).1]; exact xh6)), (Or.inr ⟨j10, by omega, rfl, fun e => (ol_f hnr0 xh12 xh11 b9).2 ((cr_z xh6).mp e)⟩)⟩ [1, 2, 3, 4, 0, 5, 6] rfl (by decide) (by decide) (by decide) d_Reader_readGateName_32
set_option maxHeartbeats 4000000 in
set_option maxRecDepth 100000 in
theorem c_rF_readGateKind (l : Launch) (D : va_G) (y : Nat → ClassId) (rd : Nat) (ow : Nat) (tp : Nat) (td : Nat) (fa : Int32) (pl : Int32) (so : Int32) (le : Int64) (wo : Int32) (nu : Int32) (si : Int32) (ra : Nat) (rs : Nat) (k : Nat) (tx : Nat → Nat) (ww : Nat → Int64) (gs : PS) (ad : Nat → Nat) (d : LD) (f0 : Nat → Int32) (f1 : Nat → Int32) (f2 : Nat → Int32) (j : Nat) (ha : ra ≤ k) (hs : rs ≤ ra) (hk : k ≤ 1600) (hB : ∀ j, tx j < 256) (hWW : ∀ w, w < 33 → ww w = nL (pk5 (owf w))) (hg : CR tx k gs fa pl ra rs so le wo nu si) (hj : j < 9) : CT l D y ⟨"NineBoards$Reader", "readGateKind", "(LNineBoards$Gates;I)V"⟩ prog_8_method_7_code 3 none ({ frames := 3, cells := 0, slots := 0, locals := 68 } : Room) [.ref rd, .ref (ad 1), .int (nI j)] [(rd, .inr (5, [.int fa, .int pl, .ref ow, .ref tp, .ref (ad 0), .int (nI ra), .int so, .int (nI rs), .long le, .int wo, .int nu, .int si])), (tp, .inr (0, [.ref td, .int (nI k)])), (td, .inl (y 0, 1600, .inl (tby tx))), (ow, .inl (y 1, 33, .inr (.inl ww))), (ad 1, .inr (1, [.int (d.1 9), .ref (ad 4), .ref (ad 5), .ref (ad 6), .ref (ad 7), .ref (ad 8), .ref (ad 9), .ref (ad 10)])), (ad 5, .inl (y 0, 9, .inl f0)), (ad 6, .inl (y 0, 9, .inl f1)), (ad 7, .inl (y 0, 9, .inl f2))] (QV D [(rd, .inr (5, [.int fa, .int pl, .ref ow, .ref tp, .ref (ad 0), .int (nI ra), .int so, .int (nI rs), .long le, .int wo, .int nu, .int si])), (tp, .inr (0, [.ref td, .int (nI k)])), (td, .inl (y 0, 1600, .inl (tby tx))), (ow, .inl (y 1, 33, .inr (.inl ww))), (ad 1, .inr (1, [.int (d.1 9), .ref (ad 4), .ref (ad 5), .ref (ad 6), .ref (ad 7), .ref (ad 8), .ref (ad 9), .ref (ad 10)])), (ad 5, .inl (y 0, 9, .inl f0)), (ad 6, .inl (y 0, 9, .inl f1)), (ad 7, .inl (y 0, 9, .inl f2))] (fun (u : (Int32 × Int32 × Nat × Nat × Int32 × Int64 × Int32 × Int32 × Int32) × (Nat → Int32) × (Nat → Int32) × (Nat → Int32)) => u.1.2.2.1 ≤ k ∧ u.1.2.2.2.1 ≤ u.1.2.2.1 ∧ (u.1.1 = 0 → fa = 0) ∧ CR tx k ((gkT tx k gs).1) u.1.1 u.1.2.1 u.1.2.2.1 u.1.2.2.2.1 u.1.2.2.2.2.1 u.1.2.2.2.2.2.1 u.1.2.2.2.2.2.2.1 u.1.2.2.2.2.2.2.2.1 u.1.2.2.2.2.2.2.2.2 ∧ ((gkT tx k gs).1.1 = 0 → u.2.1 j = nI (gkT tx k gs).2.1 ∧ (¬ (gkT tx k gs).2.1 = 0 → u.2.2.1 j = nI (gkT tx k gs).2.2.1) ∧ ((gkT tx k gs).2.1 = 3 → u.2.2.2 j = nI (gkT tx k gs).2.2.2)) ∧ (∀ i, ¬ i = j → u.2.1 i = f0 i ∧ u.2.2.1 i = f1 i ∧ u.2.2.2 i = f2 i)) (fun u => [(rd, .inr (5, [.int u.1.1, .int u.1.2.1, .ref ow, .ref tp, .ref (ad 0), .int (nI u.1.2.2.1), .int u.1.2.2.2.2.1, .int (nI u.1.2.2.2.1), .long u.1.2.2.2.2.2.1, .int u.1.2.2.2.2.2.2.1, .int u.1.2.2.2.2.2.2.2.1, .int u.1.2.2.2.2.2.2.2.2])), (tp, .inr (0, [.ref td, .int (nI k)])), (td, .inl (y 0, 1600, .inl (tby tx))), (ow, .inl (y 1, 33, .inr (.inl ww))), (ad 1, .inr (1, [.int (d.1 9), .ref (ad 4), .ref (ad 5), .ref (ad 6), .ref (ad 7), .ref (ad 8), .ref (ad 9), .ref (ad 10)])), (ad 5, .inl (y 0, 9, .inl u.2.1)), (ad 6, .inl (y 0, 9, .inl u.2.2.1)), (ad 7, .inl (y 0, 9, .inl u.2.2.2))])) := by
  refine CT.of (by decide) (nb rfl) ?_
  intro p e s m args below meth c C hr
  refine j_lv (lv' := [(0, .ref rd), (1, .ref (ad 1)), (2, .int (nI j))]) rfl ?_
  refine j_aload_n (pc := 0) C d_Reader_readGateKind_0 rfl 0 rfl ?_
  refine j_get (pc := 1) C gf_Reader_50 0 rfl rfl d_Reader_readGateKind_1 ?_
  refine j_iconst (pc := 4) C (v := 1) d_Reader_readGateKind_4 (by decide) ?_
  refine j_icmp_ne (pc := 5) C (tgt := 15) d_Reader_readGateKind_5 (by decide) (fun c1 => ?_) (fun c1 => ?_)
  · refine j_iconst (pc := 15) C (v := (-1)) d_Reader_readGateKind_15 (by decide) ?_
    refine j_tabOut (pc := 16) C (tgt := 169) d_Reader_readGateKind_16 (by decide) (by decide) ?_
    refine j_aload_n (pc := 169) C d_Reader_readGateKind_169 rfl 0 rfl ?_
    refine j_iconst (pc := 170) C (v := 1) d_Reader_readGateKind_170 (by decide) ?_
    refine j_aload_n (pc := 171) C d_Reader_readGateKind_171 rfl 0 rfl ?_
    refine j_get (pc := 172) C gf_Reader_62 0 rfl rfl d_Reader_readGateKind_172 ?_
    refine j_callVv (pc := 175) C (c_rF_fail_1 l D y rd ow tp (ad 0) td fa pl so le wo nu si ra rs k tx gs rs ha hs hk hg (by omega)) kw_Reader_65 kv_Reader_fail 0 5 rfl rfl ⟨by decide, by decide⟩ ⟨by decide, by decide⟩ (wr := [(td, .inl (y 0, 1600, .inl (tby tx))), (ow, .inl (y 1, 33, .inr (.inl ww))), (ad 1, .inr (1, [.int (d.1 9), .ref (ad 4), .ref (ad 5), .ref (ad 6), .ref (ad 7), .ref (ad 8), .ref (ad 9), .ref (ad 10)])), (ad 5, .inl (y 0, 9, .inl f0)), (ad 6, .inl (y 0, 9, .inl f1)), (ad 7, .inl (y 0, 9, .inl f2))]) [0, 1] [2, 3, 4, 5, 6, 7] rfl rfl (by decide +kernel) (by decide +kernel) (by decide +kernel) (As := [.int 1, .int (nI rs)]) (rest := []) rfl (nb rfl) rfl d_Reader_readGateKind_175 (fun u2 hu3 => ?_)
    obtain ⟨xh4, xh5⟩ := hu3
    refine j_ws (ws' := [(td, .inl (y 0, 1600, .inl (tby tx))), (ow, .inl (y 1, 33, .inr (.inl ww))), (ad 1, .inr (1, [.int (d.1 9), .ref (ad 4), .ref (ad 5), .ref (ad 6), .ref (ad 7), .ref (ad 8), .ref (ad 9), .ref (ad 10)])), (ad 5, .inl (y 0, 9, .inl f0)), (ad 6, .inl (y 0, 9, .inl f1)), (ad 7, .inl (y 0, 9, .inl f2)), (rd, .inr (5, [.int u2.1, .int u2.2, .ref ow, .ref tp, .ref (ad 0), .int (nI k), .int 0, .int (nI k), .long le, .int wo, .int nu, .int si])), (tp, .inr (0, [.ref td, .int (nI k)]))]) rfl ?_
    exact j_vret (pc := 178) C hr ((u2.1, u2.2, k, k, 0, le, wo, nu, si), f0, f1, f2) ⟨(show k ≤ k by omega), (show k ≤ k by omega), (fun e => absurd e xh4), (show CR tx k (gkT tx k gs).1 u2.1 u2.2 k k 0 le wo nu si from (by rw [gk_0 (fun e => c1 ((cr_isw hg (by decide)).mp e).1) (fun e => c1 ((cr_isw hg (by decide)).mp e).1) (fun e => c1 ((cr_isw hg (by decide)).mp e).1) (fun e => c1 ((cr_isw hg (by decide)).mp e).1)]; show CR tx k (failS 1 (stS tx k gs) gs) u2.1 u2.2 k k 0 le wo nu si; rw [← cr_f0 hg]; exact xh5)), (fun q => ((fail_nz (kd := 1) (by decide)) (by rw [gk_0 (fun e => c1 ((cr_isw hg (by decide)).mp e).1) (fun e => c1 ((cr_isw hg (by decide)).mp e).1) (fun e => c1 ((cr_isw hg (by decide)).mp e).1) (fun e => c1 ((cr_isw hg (by decide)).mp e).1)] at q; exact q)).elim), (fun i h => ⟨rfl, rfl, rfl⟩)⟩ [6, 7, 0, 1, 2, 3, 4, 5] rfl (by decide) (by decide) (by decide) d_Reader_readGateKind_178
  · refine j_aload_n (pc := 8) C d_Reader_readGateKind_8 rfl 0 rfl ?_
    refine j_get (pc := 9) C gf_Reader_80 0 rfl rfl d_Reader_readGateKind_9 ?_
    refine j_goto (pc := 12) C (tgt := 16) d_Reader_readGateKind_12 (by decide) ?_
    by_cases c6_0 : wo = 5
    · refine j_tabIn (pc := 16) C (off := 32) (tgt := 48) d_Reader_readGateKind_16 (by rw [c6_0]; decide) (by rw [c6_0]; decide) (by rw [c6_0]; decide) (by decide) ?_
      refine j_aload_n (pc := 48) C d_Reader_readGateKind_48 rfl 1 rfl ?_
      refine j_get (pc := 49) C gf_Reader_157 4 rfl rfl d_Reader_readGateKind_49 ?_
      refine j_iload_n (pc := 52) C d_Reader_readGateKind_52 rfl 2 rfl ?_
      refine j_iconst (pc := 53) C (v := 0) d_Reader_readGateKind_53 (by decide) ?_
      refine j_iast (pc := 54) C 5 rfl (ws' := [(rd, .inr (5, [.int fa, .int pl, .ref ow, .ref tp, .ref (ad 0), .int (nI ra), .int so, .int (nI rs), .long le, .int wo, .int nu, .int si])), (tp, .inr (0, [.ref td, .int (nI k)])), (td, .inl (y 0, 1600, .inl (tby tx))), (ow, .inl (y 1, 33, .inr (.inl ww))), (ad 1, .inr (1, [.int (d.1 9), .ref (ad 4), .ref (ad 5), .ref (ad 6), .ref (ad 7), .ref (ad 8), .ref (ad 9), .ref (ad 10)])), (ad 5, .inl (y 0, 9, .inl (upd f0 j 0))), (ad 6, .inl (y 0, 9, .inl f1)), (ad 7, .inl (y 0, 9, .inl f2))]) (vp_in_nI (by omega) (by decide)) (by rw [nI_clamp (by omega)]; rfl) d_Reader_readGateKind_54 ?_
      refine j_aload_n (pc := 55) C d_Reader_readGateKind_55 rfl 0 rfl ?_
      refine j_callVv (pc := 56) C (c_rF_advance l D y rd ow tp (ad 0) td fa pl so le wo nu si ra k (nI rs) tx ww (srS tx k gs) ha hk hB hWW (cr_so hg) (srS_le _)) kw_Reader_53 kv_Reader_advance 0 5 rfl rfl ⟨by decide, by decide⟩ ⟨by decide, by decide⟩ (wr := [(ad 1, .inr (1, [.int (d.1 9), .ref (ad 4), .ref (ad 5), .ref (ad 6), .ref (ad 7), .ref (ad 8), .ref (ad 9), .ref (ad 10)])), (ad 5, .inl (y 0, 9, .inl (upd f0 j 0))), (ad 6, .inl (y 0, 9, .inl f1)), (ad 7, .inl (y 0, 9, .inl f2))]) [0, 1, 2, 3] [4, 5, 6, 7] rfl rfl (by decide +kernel) (by decide +kernel) (by decide +kernel) (As := []) (rest := []) rfl (nb rfl) rfl d_Reader_readGateKind_56 (fun u7 hu8 => ?_)
      obtain ⟨xh9, xh10, xh11⟩ := hu8
      have xh12 : CR tx k (advS tx k gs) fa pl u7.1 u7.2.1 u7.2.2.1 u7.2.2.2.1 u7.2.2.2.2.1 u7.2.2.2.2.2.1 u7.2.2.2.2.2.2 := cr_adv hg (cr_so hg) (srS_le _) xh11
      refine j_ws (ws' := [(ad 1, .inr (1, [.int (d.1 9), .ref (ad 4), .ref (ad 5), .ref (ad 6), .ref (ad 7), .ref (ad 8), .ref (ad 9), .ref (ad 10)])), (ad 5, .inl (y 0, 9, .inl (upd f0 j 0))), (ad 6, .inl (y 0, 9, .inl f1)), (ad 7, .inl (y 0, 9, .inl f2)), (rd, .inr (5, [.int fa, .int pl, .ref ow, .ref tp, .ref (ad 0), .int (nI u7.1), .int u7.2.2.1, .int (nI u7.2.1), .long u7.2.2.2.1, .int u7.2.2.2.2.1, .int u7.2.2.2.2.2.1, .int u7.2.2.2.2.2.2])), (tp, .inr (0, [.ref td, .int (nI k)])), (td, .inl (y 0, 1600, .inl (tby tx))), (ow, .inl (y 1, 33, .inr (.inl ww)))]) rfl ?_
      refine j_goto (pc := 59) C (tgt := 178) d_Reader_readGateKind_59 (by decide) ?_
      exact j_vret (pc := 178) C hr ((fa, pl, u7.1, u7.2.1, u7.2.2.1, u7.2.2.2.1, u7.2.2.2.2.1, u7.2.2.2.2.2.1, u7.2.2.2.2.2.2), (upd f0 j 0), f1, f2) ⟨(show u7.1 ≤ k by omega), (show u7.2.1 ≤ u7.1 by omega), id, (show CR tx k (gkT tx k gs).1 fa pl u7.1 u7.2.1 u7.2.2.1 u7.2.2.2.1 u7.2.2.2.2.1 u7.2.2.2.2.2.1 u7.2.2.2.2.2.2 from (by rw [gk_5 ((cr_isw hg (by decide)).mpr ⟨c1, c6_0⟩)]; exact xh12)), (fun _ => by rw [gk_5 ((cr_isw hg (by decide)).mpr ⟨c1, c6_0⟩)]; exact ⟨pk_us, fun q => absurd rfl q, fun q => absurd (show (0 : Nat) = 3 from q) (by decide)⟩), (fun i h => ⟨pk_un h, rfl, rfl⟩)⟩ [4, 5, 6, 7, 0, 1, 2, 3] rfl (by decide) (by decide) (by decide) d_Reader_readGateKind_178
    · by_cases c6_1 : wo = 6
      · refine j_tabIn (pc := 16) C (off := 46) (tgt := 62) d_Reader_readGateKind_16 (by rw [c6_1]; decide) (by rw [c6_1]; decide) (by rw [c6_1]; decide) (by decide) ?_
        refine j_aload_n (pc := 62) C d_Reader_readGateKind_62 rfl 1 rfl ?_
        refine j_get (pc := 63) C gf_Reader_157 4 rfl rfl d_Reader_readGateKind_63 ?_
        refine j_iload_n (pc := 66) C d_Reader_readGateKind_66 rfl 2 rfl ?_
        refine j_iconst (pc := 67) C (v := 1) d_Reader_readGateKind_67 (by decide) ?_
        refine j_iast (pc := 68) C 5 rfl (ws' := [(rd, .inr (5, [.int fa, .int pl, .ref ow, .ref tp, .ref (ad 0), .int (nI ra), .int so, .int (nI rs), .long le, .int wo, .int nu, .int si])), (tp, .inr (0, [.ref td, .int (nI k)])), (td, .inl (y 0, 1600, .inl (tby tx))), (ow, .inl (y 1, 33, .inr (.inl ww))), (ad 1, .inr (1, [.int (d.1 9), .ref (ad 4), .ref (ad 5), .ref (ad 6), .ref (ad 7), .ref (ad 8), .ref (ad 9), .ref (ad 10)])), (ad 5, .inl (y 0, 9, .inl (upd f0 j 1))), (ad 6, .inl (y 0, 9, .inl f1)), (ad 7, .inl (y 0, 9, .inl f2))]) (vp_in_nI (by omega) (by decide)) (by rw [nI_clamp (by omega)]; rfl) d_Reader_readGateKind_68 ?_
        refine j_aload_n (pc := 69) C d_Reader_readGateKind_69 rfl 0 rfl ?_
        refine j_callVv (pc := 70) C (c_rF_advance l D y rd ow tp (ad 0) td fa pl so le wo nu si ra k (nI rs) tx ww (srS tx k gs) ha hk hB hWW (cr_so hg) (srS_le _)) kw_Reader_53 kv_Reader_advance 0 5 rfl rfl ⟨by decide, by decide⟩ ⟨by decide, by decide⟩ (wr := [(ad 1, .inr (1, [.int (d.1 9), .ref (ad 4), .ref (ad 5), .ref (ad 6), .ref (ad 7), .ref (ad 8), .ref (ad 9), .ref (ad 10)])), (ad 5, .inl (y 0, 9, .inl (upd f0 j 1))), (ad 6, .inl (y 0, 9, .inl f1)), (ad 7, .inl (y 0, 9, .inl f2))]) [0, 1, 2, 3] [4, 5, 6, 7] rfl rfl (by decide +kernel) (by decide +kernel) (by decide +kernel) (As := []) (rest := []) rfl (nb rfl) rfl d_Reader_readGateKind_70 (fun u13 hu14 => ?_)
        obtain ⟨xh15, xh16, xh17⟩ := hu14
        have xh18 : CR tx k (advS tx k gs) fa pl u13.1 u13.2.1 u13.2.2.1 u13.2.2.2.1 u13.2.2.2.2.1 u13.2.2.2.2.2.1 u13.2.2.2.2.2.2 := cr_adv hg (cr_so hg) (srS_le _) xh17
        refine j_ws (ws' := [(ad 1, .inr (1, [.int (d.1 9), .ref (ad 4), .ref (ad 5), .ref (ad 6), .ref (ad 7), .ref (ad 8), .ref (ad 9), .ref (ad 10)])), (ad 5, .inl (y 0, 9, .inl (upd f0 j 1))), (ad 6, .inl (y 0, 9, .inl f1)), (ad 7, .inl (y 0, 9, .inl f2)), (rd, .inr (5, [.int fa, .int pl, .ref ow, .ref tp, .ref (ad 0), .int (nI u13.1), .int u13.2.2.1, .int (nI u13.2.1), .long u13.2.2.2.1, .int u13.2.2.2.2.1, .int u13.2.2.2.2.2.1, .int u13.2.2.2.2.2.2])), (tp, .inr (0, [.ref td, .int (nI k)])), (td, .inl (y 0, 1600, .inl (tby tx))), (ow, .inl (y 1, 33, .inr (.inl ww)))]) rfl ?_
        refine j_aload_n (pc := 73) C d_Reader_readGateKind_73 rfl 1 rfl ?_
        refine j_get (pc := 74) C gf_Reader_160 0 rfl rfl d_Reader_readGateKind_74 ?_
        refine j_iload_n (pc := 77) C d_Reader_readGateKind_77 rfl 2 rfl ?_
        refine j_aload_n (pc := 78) C d_Reader_readGateKind_78 rfl 0 rfl ?_
        refine j_iconst (pc := 79) C (v := 1) d_Reader_readGateKind_79 (by decide) ?_
        refine j_bipush (pc := 80) C (v := 99) d_Reader_readGateKind_80 (by decide) ?_
        refine j_callVi (pc := 82) C (c_rF_readNumber l D y rd ow tp (ad 0) td fa pl u13.2.2.1 u13.2.2.2.1 u13.2.2.2.2.1 u13.2.2.2.2.2.1 u13.2.2.2.2.2.2 u13.1 u13.2.1 k tx ww (advS tx k gs) 1 99 xh15 xh16 hk hB hWW xh18 (by decide) (by decide)) kw_Reader_111 kv_Reader_readNumber 0 5 rfl rfl ⟨by decide, by decide⟩ ⟨by decide, by decide⟩ (wr := [(ad 1, .inr (1, [.int (d.1 9), .ref (ad 4), .ref (ad 5), .ref (ad 6), .ref (ad 7), .ref (ad 8), .ref (ad 9), .ref (ad 10)])), (ad 5, .inl (y 0, 9, .inl (upd f0 j 1))), (ad 6, .inl (y 0, 9, .inl f1)), (ad 7, .inl (y 0, 9, .inl f2))]) [4, 5, 6, 7] [0, 1, 2, 3] rfl rfl (by decide +kernel) (by decide +kernel) (by decide +kernel) (As := [.int 1, .int 99]) (rest := [.int (nI j), .ref (ad 6)]) rfl (nb rfl) rfl d_Reader_readGateKind_82 (fun r19 u20 hr19 => ?_)
        obtain ⟨rfl, xh21, xh22, xh23, xh24⟩ := hr19
        refine j_ws (ws' := [(ad 1, .inr (1, [.int (d.1 9), .ref (ad 4), .ref (ad 5), .ref (ad 6), .ref (ad 7), .ref (ad 8), .ref (ad 9), .ref (ad 10)])), (ad 5, .inl (y 0, 9, .inl (upd f0 j 1))), (ad 6, .inl (y 0, 9, .inl f1)), (ad 7, .inl (y 0, 9, .inl f2)), (rd, .inr (5, [.int u20.1, .int u20.2.1, .ref ow, .ref tp, .ref (ad 0), .int (nI u20.2.2.1), .int u20.2.2.2.2.1, .int (nI u20.2.2.2.1), .long u20.2.2.2.2.2.1, .int u20.2.2.2.2.2.2.1, .int u20.2.2.2.2.2.2.2.1, .int u20.2.2.2.2.2.2.2.2])), (tp, .inr (0, [.ref td, .int (nI k)])), (td, .inl (y 0, 1600, .inl (tby tx))), (ow, .inl (y 1, 33, .inr (.inl ww)))]) rfl ?_
        refine j_iast (pc := 85) C 2 rfl (ws' := [(ad 1, .inr (1, [.int (d.1 9), .ref (ad 4), .ref (ad 5), .ref (ad 6), .ref (ad 7), .ref (ad 8), .ref (ad 9), .ref (ad 10)])), (ad 5, .inl (y 0, 9, .inl (upd f0 j 1))), (ad 6, .inl (y 0, 9, .inl (upd f1 j (nI (rnV tx k 1 99 (advS tx k gs)))))), (ad 7, .inl (y 0, 9, .inl f2)), (rd, .inr (5, [.int u20.1, .int u20.2.1, .ref ow, .ref tp, .ref (ad 0), .int (nI u20.2.2.1), .int u20.2.2.2.2.1, .int (nI u20.2.2.2.1), .long u20.2.2.2.2.2.1, .int u20.2.2.2.2.2.2.1, .int u20.2.2.2.2.2.2.2.1, .int u20.2.2.2.2.2.2.2.2])), (tp, .inr (0, [.ref td, .int (nI k)])), (td, .inl (y 0, 1600, .inl (tby tx))), (ow, .inl (y 1, 33, .inr (.inl ww)))]) (vp_in_nI (by omega) (by decide)) (by rw [nI_clamp (by omega)]; rfl) d_Reader_readGateKind_85 ?_
        refine j_goto (pc := 86) C (tgt := 178) d_Reader_readGateKind_86 (by decide) ?_
        exact j_vret (pc := 178) C hr ((u20.1, u20.2.1, u20.2.2.1, u20.2.2.2.1, u20.2.2.2.2.1, u20.2.2.2.2.2.1, u20.2.2.2.2.2.2.1, u20.2.2.2.2.2.2.2.1, u20.2.2.2.2.2.2.2.2), (upd f0 j 1), (upd f1 j (nI (rnV tx k 1 99 (advS tx k gs)))), f2) ⟨(show u20.2.2.1 ≤ k by omega), (show u20.2.2.2.1 ≤ u20.2.2.1 by omega), (fun e => id (xh23 e)), (show CR tx k (gkT tx k gs).1 u20.1 u20.2.1 u20.2.2.1 u20.2.2.2.1 u20.2.2.2.2.1 u20.2.2.2.2.2.1 u20.2.2.2.2.2.2.1 u20.2.2.2.2.2.2.2.1 u20.2.2.2.2.2.2.2.2 from (by rw [gk_6 (fun e => c6_0 ((cr_isw hg (by decide)).mp e).2) ((cr_isw hg (by decide)).mpr ⟨c1, c6_1⟩)]; exact xh24)), (fun _ => by rw [gk_6 (fun e => c6_0 ((cr_isw hg (by decide)).mp e).2) ((cr_isw hg (by decide)).mpr ⟨c1, c6_1⟩)]; exact ⟨pk_us, fun q => pk_us, fun q => absurd (show (1 : Nat) = 3 from q) (by decide)⟩), (fun i h => ⟨pk_un h, pk_un h, rfl⟩)⟩ [4, 5, 6, 7, 0, 1, 2, 3] rfl (by decide) (by decide) (by decide) d_Reader_readGateKind_178
      · by_cases c6_2 : wo = 7
        · refine j_tabIn (pc := 16) C (off := 73) (tgt := 89) d_Reader_readGateKind_16 (by rw [c6_2]; decide) (by rw [c6_2]; decide) (by rw [c6_2]; decide) (by decide) ?_
          refine j_aload_n (pc := 89) C d_Reader_readGateKind_89 rfl 1 rfl ?_
          refine j_get (pc := 90) C gf_Reader_157 4 rfl rfl d_Reader_readGateKind_90 ?_
          refine j_iload_n (pc := 93) C d_Reader_readGateKind_93 rfl 2 rfl ?_
          refine j_iconst (pc := 94) C (v := 2) d_Reader_readGateKind_94 (by decide) ?_
          refine j_iast (pc := 95) C 5 rfl (ws' := [(rd, .inr (5, [.int fa, .int pl, .ref ow, .ref tp, .ref (ad 0), .int (nI ra), .int so, .int (nI rs), .long le, .int wo, .int nu, .int si])), (tp, .inr (0, [.ref td, .int (nI k)])), (td, .inl (y 0, 1600, .inl (tby tx))), (ow, .inl (y 1, 33, .inr (.inl ww))), (ad 1, .inr (1, [.int (d.1 9), .ref (ad 4), .ref (ad 5), .ref (ad 6), .ref (ad 7), .ref (ad 8), .ref (ad 9), .ref (ad 10)])), (ad 5, .inl (y 0, 9, .inl (upd f0 j 2))), (ad 6, .inl (y 0, 9, .inl f1)), (ad 7, .inl (y 0, 9, .inl f2))]) (vp_in_nI (by omega) (by decide)) (by rw [nI_clamp (by omega)]; rfl) d_Reader_readGateKind_95 ?_
          refine j_aload_n (pc := 96) C d_Reader_readGateKind_96 rfl 0 rfl ?_
          refine j_callVv (pc := 97) C (c_rF_advance l D y rd ow tp (ad 0) td fa pl so le wo nu si ra k (nI rs) tx ww (srS tx k gs) ha hk hB hWW (cr_so hg) (srS_le _)) kw_Reader_53 kv_Reader_advance 0 5 rfl rfl ⟨by decide, by decide⟩ ⟨by decide, by decide⟩ (wr := [(ad 1, .inr (1, [.int (d.1 9), .ref (ad 4), .ref (ad 5), .ref (ad 6), .ref (ad 7), .ref (ad 8), .ref (ad 9), .ref (ad 10)])), (ad 5, .inl (y 0, 9, .inl (upd f0 j 2))), (ad 6, .inl (y 0, 9, .inl f1)), (ad 7, .inl (y 0, 9, .inl f2))]) [0, 1, 2, 3] [4, 5, 6, 7] rfl rfl (by decide +kernel) (by decide +kernel) (by decide +kernel) (As := []) (rest := []) rfl (nb rfl) rfl d_Reader_readGateKind_97 (fun u25 hu26 => ?_)
          obtain ⟨xh27, xh28, xh29⟩ := hu26
          have xh30 : CR tx k (advS tx k gs) fa pl u25.1 u25.2.1 u25.2.2.1 u25.2.2.2.1 u25.2.2.2.2.1 u25.2.2.2.2.2.1 u25.2.2.2.2.2.2 := cr_adv hg (cr_so hg) (srS_le _) xh29
          refine j_ws (ws' := [(ad 1, .inr (1, [.int (d.1 9), .ref (ad 4), .ref (ad 5), .ref (ad 6), .ref (ad 7), .ref (ad 8), .ref (ad 9), .ref (ad 10)])), (ad 5, .inl (y 0, 9, .inl (upd f0 j 2))), (ad 6, .inl (y 0, 9, .inl f1)), (ad 7, .inl (y 0, 9, .inl f2)), (rd, .inr (5, [.int fa, .int pl, .ref ow, .ref tp, .ref (ad 0), .int (nI u25.1), .int u25.2.2.1, .int (nI u25.2.1), .long u25.2.2.2.1, .int u25.2.2.2.2.1, .int u25.2.2.2.2.2.1, .int u25.2.2.2.2.2.2])), (tp, .inr (0, [.ref td, .int (nI k)])), (td, .inl (y 0, 1600, .inl (tby tx))), (ow, .inl (y 1, 33, .inr (.inl ww)))]) rfl ?_
          refine j_aload_n (pc := 100) C d_Reader_readGateKind_100 rfl 1 rfl ?_
          refine j_get (pc := 101) C gf_Reader_160 0 rfl rfl d_Reader_readGateKind_101 ?_
          refine j_iload_n (pc := 104) C d_Reader_readGateKind_104 rfl 2 rfl ?_
          refine j_aload_n (pc := 105) C d_Reader_readGateKind_105 rfl 0 rfl ?_
          refine j_iconst (pc := 106) C (v := 1) d_Reader_readGateKind_106 (by decide) ?_
          refine j_bipush (pc := 107) C (v := 9) d_Reader_readGateKind_107 (by decide) ?_
          refine j_callVi (pc := 109) C (c_rF_readNumber l D y rd ow tp (ad 0) td fa pl u25.2.2.1 u25.2.2.2.1 u25.2.2.2.2.1 u25.2.2.2.2.2.1 u25.2.2.2.2.2.2 u25.1 u25.2.1 k tx ww (advS tx k gs) 1 9 xh27 xh28 hk hB hWW xh30 (by decide) (by decide)) kw_Reader_111 kv_Reader_readNumber 0 5 rfl rfl ⟨by decide, by decide⟩ ⟨by decide, by decide⟩ (wr := [(ad 1, .inr (1, [.int (d.1 9), .ref (ad 4), .ref (ad 5), .ref (ad 6), .ref (ad 7), .ref (ad 8), .ref (ad 9), .ref (ad 10)])), (ad 5, .inl (y 0, 9, .inl (upd f0 j 2))), (ad 6, .inl (y 0, 9, .inl f1)), (ad 7, .inl (y 0, 9, .inl f2))]) [4, 5, 6, 7] [0, 1, 2, 3] rfl rfl (by decide +kernel) (by decide +kernel) (by decide +kernel) (As := [.int 1, .int 9]) (rest := [.int (nI j), .ref (ad 6)]) rfl (nb rfl) rfl d_Reader_readGateKind_109 (fun r31 u32 hr31 => ?_)
          obtain ⟨rfl, xh33, xh34, xh35, xh36⟩ := hr31
          refine j_ws (ws' := [(ad 1, .inr (1, [.int (d.1 9), .ref (ad 4), .ref (ad 5), .ref (ad 6), .ref (ad 7), .ref (ad 8), .ref (ad 9), .ref (ad 10)])), (ad 5, .inl (y 0, 9, .inl (upd f0 j 2))), (ad 6, .inl (y 0, 9, .inl f1)), (ad 7, .inl (y 0, 9, .inl f2)), (rd, .inr (5, [.int u32.1, .int u32.2.1, .ref ow, .ref tp, .ref (ad 0), .int (nI u32.2.2.1), .int u32.2.2.2.2.1, .int (nI u32.2.2.2.1), .long u32.2.2.2.2.2.1, .int u32.2.2.2.2.2.2.1, .int u32.2.2.2.2.2.2.2.1, .int u32.2.2.2.2.2.2.2.2])), (tp, .inr (0, [.ref td, .int (nI k)])), (td, .inl (y 0, 1600, .inl (tby tx))), (ow, .inl (y 1, 33, .inr (.inl ww)))]) rfl ?_
          refine j_iast (pc := 112) C 2 rfl (ws' := [(ad 1, .inr (1, [.int (d.1 9), .ref (ad 4), .ref (ad 5), .ref (ad 6), .ref (ad 7), .ref (ad 8), .ref (ad 9), .ref (ad 10)])), (ad 5, .inl (y 0, 9, .inl (upd f0 j 2))), (ad 6, .inl (y 0, 9, .inl (upd f1 j (nI (rnV tx k 1 9 (advS tx k gs)))))), (ad 7, .inl (y 0, 9, .inl f2)), (rd, .inr (5, [.int u32.1, .int u32.2.1, .ref ow, .ref tp, .ref (ad 0), .int (nI u32.2.2.1), .int u32.2.2.2.2.1, .int (nI u32.2.2.2.1), .long u32.2.2.2.2.2.1, .int u32.2.2.2.2.2.2.1, .int u32.2.2.2.2.2.2.2.1, .int u32.2.2.2.2.2.2.2.2])), (tp, .inr (0, [.ref td, .int (nI k)])), (td, .inl (y 0, 1600, .inl (tby tx))), (ow, .inl (y 1, 33, .inr (.inl ww)))]) (vp_in_nI (by omega) (by decide)) (by rw [nI_clamp (by omega)]; rfl) d_Reader_readGateKind_112 ?_
          refine j_goto (pc := 113) C (tgt := 178) d_Reader_readGateKind_113 (by decide) ?_
          exact j_vret (pc := 178) C hr ((u32.1, u32.2.1, u32.2.2.1, u32.2.2.2.1, u32.2.2.2.2.1, u32.2.2.2.2.2.1, u32.2.2.2.2.2.2.1, u32.2.2.2.2.2.2.2.1, u32.2.2.2.2.2.2.2.2), (upd f0 j 2), (upd f1 j (nI (rnV tx k 1 9 (advS tx k gs)))), f2) ⟨(show u32.2.2.1 ≤ k by omega), (show u32.2.2.2.1 ≤ u32.2.2.1 by omega), (fun e => id (xh35 e)), (show CR tx k (gkT tx k gs).1 u32.1 u32.2.1 u32.2.2.1 u32.2.2.2.1 u32.2.2.2.2.1 u32.2.2.2.2.2.1 u32.2.2.2.2.2.2.1 u32.2.2.2.2.2.2.2.1 u32.2.2.2.2.2.2.2.2 from (by rw [gk_7 (fun e => c6_0 ((cr_isw hg (by decide)).mp e).2) (fun e => c6_1 ((cr_isw hg (by decide)).mp e).2) ((cr_isw hg (by decide)).mpr ⟨c1, c6_2⟩)]; exact xh36)), (fun _ => by rw [gk_7 (fun e => c6_0 ((cr_isw hg (by decide)).mp e).2) (fun e => c6_1 ((cr_isw hg (by decide)).mp e).2) ((cr_isw hg (by decide)).mpr ⟨c1, c6_2⟩)]; exact ⟨pk_us, fun q => pk_us, fun q => absurd (show (2 : Nat) = 3 from q) (by decide)⟩), (fun i h => ⟨pk_un h, pk_un h, rfl⟩)⟩ [4, 5, 6, 7, 0, 1, 2, 3] rfl (by decide) (by decide) (by decide) d_Reader_readGateKind_178
        · by_cases c6_3 : wo = 8
          · refine j_tabIn (pc := 16) C (off := 100) (tgt := 116) d_Reader_readGateKind_16 (by rw [c6_3]; decide) (by rw [c6_3]; decide) (by rw [c6_3]; decide) (by decide) ?_
            refine j_aload_n (pc := 116) C d_Reader_readGateKind_116 rfl 1 rfl ?_
            refine j_get (pc := 117) C gf_Reader_157 4 rfl rfl d_Reader_readGateKind_117 ?_
            refine j_iload_n (pc := 120) C d_Reader_readGateKind_120 rfl 2 rfl ?_
            refine j_iconst (pc := 121) C (v := 3) d_Reader_readGateKind_121 (by decide) ?_
            refine j_iast (pc := 122) C 5 rfl (ws' := [(rd, .inr (5, [.int fa, .int pl, .ref ow, .ref tp, .ref (ad 0), .int (nI ra), .int so, .int (nI rs), .long le, .int wo, .int nu, .int si])), (tp, .inr (0, [.ref td, .int (nI k)])), (td, .inl (y 0, 1600, .inl (tby tx))), (ow, .inl (y 1, 33, .inr (.inl ww))), (ad 1, .inr (1, [.int (d.1 9), .ref (ad 4), .ref (ad 5), .ref (ad 6), .ref (ad 7), .ref (ad 8), .ref (ad 9), .ref (ad 10)])), (ad 5, .inl (y 0, 9, .inl (upd f0 j 3))), (ad 6, .inl (y 0, 9, .inl f1)), (ad 7, .inl (y 0, 9, .inl f2))]) (vp_in_nI (by omega) (by decide)) (by rw [nI_clamp (by omega)]; rfl) d_Reader_readGateKind_122 ?_
            refine j_aload_n (pc := 123) C d_Reader_readGateKind_123 rfl 0 rfl ?_
            refine j_callVv (pc := 124) C (c_rF_advance l D y rd ow tp (ad 0) td fa pl so le wo nu si ra k (nI rs) tx ww (srS tx k gs) ha hk hB hWW (cr_so hg) (srS_le _)) kw_Reader_53 kv_Reader_advance 0 5 rfl rfl ⟨by decide, by decide⟩ ⟨by decide, by decide⟩ (wr := [(ad 1, .inr (1, [.int (d.1 9), .ref (ad 4), .ref (ad 5), .ref (ad 6), .ref (ad 7), .ref (ad 8), .ref (ad 9), .ref (ad 10)])), (ad 5, .inl (y 0, 9, .inl (upd f0 j 3))), (ad 6, .inl (y 0, 9, .inl f1)), (ad 7, .inl (y 0, 9, .inl f2))]) [0, 1, 2, 3] [4, 5, 6, 7] rfl rfl (by decide +kernel) (by decide +kernel) (by decide +kernel) (As := []) (rest := []) rfl (nb rfl) rfl d_Reader_readGateKind_124 (fun u37 hu38 => ?_)
            obtain ⟨xh39, xh40, xh41⟩ := hu38
            have xh42 : CR tx k (advS tx k gs) fa pl u37.1 u37.2.1 u37.2.2.1 u37.2.2.2.1 u37.2.2.2.2.1 u37.2.2.2.2.2.1 u37.2.2.2.2.2.2 := cr_adv hg (cr_so hg) (srS_le _) xh41
            refine j_ws (ws' := [(ad 1, .inr (1, [.int (d.1 9), .ref (ad 4), .ref (ad 5), .ref (ad 6), .ref (ad 7), .ref (ad 8), .ref (ad 9), .ref (ad 10)])), (ad 5, .inl (y 0, 9, .inl (upd f0 j 3))), (ad 6, .inl (y 0, 9, .inl f1)), (ad 7, .inl (y 0, 9, .inl f2)), (rd, .inr (5, [.int fa, .int pl, .ref ow, .ref tp, .ref (ad 0), .int (nI u37.1), .int u37.2.2.1, .int (nI u37.2.1), .long u37.2.2.2.1, .int u37.2.2.2.2.1, .int u37.2.2.2.2.2.1, .int u37.2.2.2.2.2.2])), (tp, .inr (0, [.ref td, .int (nI k)])), (td, .inl (y 0, 1600, .inl (tby tx))), (ow, .inl (y 1, 33, .inr (.inl ww)))]) rfl ?_
            refine j_aload_n (pc := 127) C d_Reader_readGateKind_127 rfl 1 rfl ?_
            refine j_get (pc := 128) C gf_Reader_160 0 rfl rfl d_Reader_readGateKind_128 ?_
            refine j_iload_n (pc := 131) C d_Reader_readGateKind_131 rfl 2 rfl ?_
            refine j_aload_n (pc := 132) C d_Reader_readGateKind_132 rfl 0 rfl ?_
            refine j_iconst (pc := 133) C (v := 0) d_Reader_readGateKind_133 (by decide) ?_
            refine j_sipush (pc := 134) C (v := 999) d_Reader_readGateKind_134 (by decide) ?_
            refine j_callVi (pc := 137) C (c_rF_readNumber l D y rd ow tp (ad 0) td fa pl u37.2.2.1 u37.2.2.2.1 u37.2.2.2.2.1 u37.2.2.2.2.2.1 u37.2.2.2.2.2.2 u37.1 u37.2.1 k tx ww (advS tx k gs) 0 999 xh39 xh40 hk hB hWW xh42 (by decide) (by decide)) kw_Reader_111 kv_Reader_readNumber 0 5 rfl rfl ⟨by decide, by decide⟩ ⟨by decide, by decide⟩ (wr := [(ad 1, .inr (1, [.int (d.1 9), .ref (ad 4), .ref (ad 5), .ref (ad 6), .ref (ad 7), .ref (ad 8), .ref (ad 9), .ref (ad 10)])), (ad 5, .inl (y 0, 9, .inl (upd f0 j 3))), (ad 6, .inl (y 0, 9, .inl f1)), (ad 7, .inl (y 0, 9, .inl f2))]) [4, 5, 6, 7] [0, 1, 2, 3] rfl rfl (by decide +kernel) (by decide +kernel) (by decide +kernel) (As := [.int 0, .int 999]) (rest := [.int (nI j), .ref (ad 6)]) rfl (nb rfl) rfl d_Reader_readGateKind_137 (fun r43 u44 hr43 => ?_)
            obtain ⟨rfl, xh45, xh46, xh47, xh48⟩ := hr43
            refine j_ws (ws' := [(ad 1, .inr (1, [.int (d.1 9), .ref (ad 4), .ref (ad 5), .ref (ad 6), .ref (ad 7), .ref (ad 8), .ref (ad 9), .ref (ad 10)])), (ad 5, .inl (y 0, 9, .inl (upd f0 j 3))), (ad 6, .inl (y 0, 9, .inl f1)), (ad 7, .inl (y 0, 9, .inl f2)), (rd, .inr (5, [.int u44.1, .int u44.2.1, .ref ow, .ref tp, .ref (ad 0), .int (nI u44.2.2.1), .int u44.2.2.2.2.1, .int (nI u44.2.2.2.1), .long u44.2.2.2.2.2.1, .int u44.2.2.2.2.2.2.1, .int u44.2.2.2.2.2.2.2.1, .int u44.2.2.2.2.2.2.2.2])), (tp, .inr (0, [.ref td, .int (nI k)])), (td, .inl (y 0, 1600, .inl (tby tx))), (ow, .inl (y 1, 33, .inr (.inl ww)))]) rfl ?_
            refine j_iast (pc := 140) C 2 rfl (ws' := [(ad 1, .inr (1, [.int (d.1 9), .ref (ad 4), .ref (ad 5), .ref (ad 6), .ref (ad 7), .ref (ad 8), .ref (ad 9), .ref (ad 10)])), (ad 5, .inl (y 0, 9, .inl (upd f0 j 3))), (ad 6, .inl (y 0, 9, .inl (upd f1 j (nI (rnV tx k 0 999 (advS tx k gs)))))), (ad 7, .inl (y 0, 9, .inl f2)), (rd, .inr (5, [.int u44.1, .int u44.2.1, .ref ow, .ref tp, .ref (ad 0), .int (nI u44.2.2.1), .int u44.2.2.2.2.1, .int (nI u44.2.2.2.1), .long u44.2.2.2.2.2.1, .int u44.2.2.2.2.2.2.1, .int u44.2.2.2.2.2.2.2.1, .int u44.2.2.2.2.2.2.2.2])), (tp, .inr (0, [.ref td, .int (nI k)])), (td, .inl (y 0, 1600, .inl (tby tx))), (ow, .inl (y 1, 33, .inr (.inl ww)))]) (vp_in_nI (by omega) (by decide)) (by rw [nI_clamp (by omega)]; rfl) d_Reader_readGateKind_140 ?_
            refine j_aload_n (pc := 141) C d_Reader_readGateKind_141 rfl 0 rfl ?_
            refine j_bipush (pc := 142) C (v := 9) d_Reader_readGateKind_142 (by decide) ?_
            refine j_callVv (pc := 144) C (c_rF_readWord l D y rd ow tp (ad 0) td u44.1 u44.2.1 u44.2.2.2.2.1 u44.2.2.2.2.2.1 u44.2.2.2.2.2.2.1 u44.2.2.2.2.2.2.2.1 u44.2.2.2.2.2.2.2.2 u44.2.2.1 u44.2.2.2.1 k tx ww (rnS tx k 0 999 (advS tx k gs)) 9 xh45 xh46 hk hB hWW xh48 (by decide)) kw_Reader_108 kv_Reader_readWord 0 5 rfl rfl ⟨by decide, by decide⟩ ⟨by decide, by decide⟩ (wr := [(ad 1, .inr (1, [.int (d.1 9), .ref (ad 4), .ref (ad 5), .ref (ad 6), .ref (ad 7), .ref (ad 8), .ref (ad 9), .ref (ad 10)])), (ad 5, .inl (y 0, 9, .inl (upd f0 j 3))), (ad 6, .inl (y 0, 9, .inl (upd f1 j (nI (rnV tx k 0 999 (advS tx k gs)))))), (ad 7, .inl (y 0, 9, .inl f2))]) [4, 5, 6, 7] [0, 1, 2, 3] rfl rfl (by decide +kernel) (by decide +kernel) (by decide +kernel) (As := [.int 9]) (rest := []) rfl (nb rfl) rfl d_Reader_readGateKind_144 (fun u49 hu50 => ?_)
            obtain ⟨xh51, xh52, xh53, xh54⟩ := hu50
            refine j_ws (ws' := [(ad 1, .inr (1, [.int (d.1 9), .ref (ad 4), .ref (ad 5), .ref (ad 6), .ref (ad 7), .ref (ad 8), .ref (ad 9), .ref (ad 10)])), (ad 5, .inl (y 0, 9, .inl (upd f0 j 3))), (ad 6, .inl (y 0, 9, .inl (upd f1 j (nI (rnV tx k 0 999 (advS tx k gs)))))), (ad 7, .inl (y 0, 9, .inl f2)), (rd, .inr (5, [.int u49.1, .int u49.2.1, .ref ow, .ref tp, .ref (ad 0), .int (nI u49.2.2.1), .int u49.2.2.2.2.1, .int (nI u49.2.2.2.1), .long u49.2.2.2.2.2.1, .int u49.2.2.2.2.2.2.1, .int u49.2.2.2.2.2.2.2.1, .int u49.2.2.2.2.2.2.2.2])), (tp, .inr (0, [.ref td, .int (nI k)])), (td, .inl (y 0, 1600, .inl (tby tx))), (ow, .inl (y 1, 33, .inr (.inl ww)))]) rfl ?_
            refine j_aload_n (pc := 147) C d_Reader_readGateKind_147 rfl 1 rfl ?_
            refine j_get (pc := 148) C gf_Reader_163 0 rfl rfl d_Reader_readGateKind_148 ?_
            refine j_iload_n (pc := 151) C d_Reader_readGateKind_151 rfl 2 rfl ?_
            refine j_aload_n (pc := 152) C d_Reader_readGateKind_152 rfl 0 rfl ?_
            refine j_aload_n (pc := 153) C d_Reader_readGateKind_153 rfl 1 rfl ?_
            refine j_get (pc := 154) C gf_Reader_160 0 rfl rfl d_Reader_readGateKind_154 ?_
            refine j_iload_n (pc := 157) C d_Reader_readGateKind_157 rfl 2 rfl ?_
            refine j_iald (pc := 158) C 2 rfl (v := nI (rnV tx k 0 999 (advS tx k gs))) (vp_in_nI (by omega) (by decide)) (by rw [nI_clamp (by omega), pk_us]) d_Reader_readGateKind_158 ?_
            refine j_sipush (pc := 159) C (v := 999) d_Reader_readGateKind_159 (by decide) ?_
            refine j_callVi (pc := 162) C (c_rF_readNumber l D y rd ow tp (ad 0) td u49.1 u49.2.1 u49.2.2.2.2.1 u49.2.2.2.2.2.1 u49.2.2.2.2.2.2.1 u49.2.2.2.2.2.2.2.1 u49.2.2.2.2.2.2.2.2 u49.2.2.1 u49.2.2.2.1 k tx ww (rwS tx k 9 (rnS tx k 0 999 (advS tx k gs))) (rnV tx k 0 999 (advS tx k gs)) 999 xh51 xh52 hk hB hWW xh54 (rnV_le (by decide) (by decide)) (by decide)) kw_Reader_111 kv_Reader_readNumber 0 5 rfl rfl ⟨by decide, by decide⟩ ⟨by decide, by decide⟩ (wr := [(ad 1, .inr (1, [.int (d.1 9), .ref (ad 4), .ref (ad 5), .ref (ad 6), .ref (ad 7), .ref (ad 8), .ref (ad 9), .ref (ad 10)])), (ad 5, .inl (y 0, 9, .inl (upd f0 j 3))), (ad 6, .inl (y 0, 9, .inl (upd f1 j (nI (rnV tx k 0 999 (advS tx k gs)))))), (ad 7, .inl (y 0, 9, .inl f2))]) [4, 5, 6, 7] [0, 1, 2, 3] rfl rfl (by decide +kernel) (by decide +kernel) (by decide +kernel) (As := [.int (nI (rnV tx k 0 999 (advS tx k gs))), .int 999]) (rest := [.int (nI j), .ref (ad 7)]) rfl (nb rfl) rfl d_Reader_readGateKind_162 (fun r55 u56 hr55 => ?_)
            obtain ⟨rfl, xh57, xh58, xh59, xh60⟩ := hr55
            refine j_ws (ws' := [(ad 1, .inr (1, [.int (d.1 9), .ref (ad 4), .ref (ad 5), .ref (ad 6), .ref (ad 7), .ref (ad 8), .ref (ad 9), .ref (ad 10)])), (ad 5, .inl (y 0, 9, .inl (upd f0 j 3))), (ad 6, .inl (y 0, 9, .inl (upd f1 j (nI (rnV tx k 0 999 (advS tx k gs)))))), (ad 7, .inl (y 0, 9, .inl f2)), (rd, .inr (5, [.int u56.1, .int u56.2.1, .ref ow, .ref tp, .ref (ad 0), .int (nI u56.2.2.1), .int u56.2.2.2.2.1, .int (nI u56.2.2.2.1), .long u56.2.2.2.2.2.1, .int u56.2.2.2.2.2.2.1, .int u56.2.2.2.2.2.2.2.1, .int u56.2.2.2.2.2.2.2.2])), (tp, .inr (0, [.ref td, .int (nI k)])), (td, .inl (y 0, 1600, .inl (tby tx))), (ow, .inl (y 1, 33, .inr (.inl ww)))]) rfl ?_
            refine j_iast (pc := 165) C 3 rfl (ws' := [(ad 1, .inr (1, [.int (d.1 9), .ref (ad 4), .ref (ad 5), .ref (ad 6), .ref (ad 7), .ref (ad 8), .ref (ad 9), .ref (ad 10)])), (ad 5, .inl (y 0, 9, .inl (upd f0 j 3))), (ad 6, .inl (y 0, 9, .inl (upd f1 j (nI (rnV tx k 0 999 (advS tx k gs)))))), (ad 7, .inl (y 0, 9, .inl (upd f2 j (nI (rnV tx k (rnV tx k 0 999 (advS tx k gs)) 999 (rwS tx k 9 (rnS tx k 0 999 (advS tx k gs)))))))), (rd, .inr (5, [.int u56.1, .int u56.2.1, .ref ow, .ref tp, .ref (ad 0), .int (nI u56.2.2.1), .int u56.2.2.2.2.1, .int (nI u56.2.2.2.1), .long u56.2.2.2.2.2.1, .int u56.2.2.2.2.2.2.1, .int u56.2.2.2.2.2.2.2.1, .int u56.2.2.2.2.2.2.2.2])), (tp, .inr (0, [.ref td, .int (nI k)])), (td, .inl (y 0, 1600, .inl (tby tx))), (ow, .inl (y 1, 33, .inr (.inl ww)))]) (vp_in_nI (by omega) (by decide)) (by rw [nI_clamp (by omega)]; rfl) d_Reader_readGateKind_165 ?_
            refine j_goto (pc := 166) C (tgt := 178) d_Reader_readGateKind_166 (by decide) ?_
            exact j_vret (pc := 178) C hr ((u56.1, u56.2.1, u56.2.2.1, u56.2.2.2.1, u56.2.2.2.2.1, u56.2.2.2.2.2.1, u56.2.2.2.2.2.2.1, u56.2.2.2.2.2.2.2.1, u56.2.2.2.2.2.2.2.2), (upd f0 j 3), (upd f1 j (nI (rnV tx k 0 999 (advS tx k gs)))), (upd f2 j (nI (rnV tx k (rnV tx k 0 999 (advS tx k gs)) 999 (rwS tx k 9 (rnS tx k 0 999 (advS tx k gs))))))) ⟨(show u56.2.2.1 ≤ k by omega), (show u56.2.2.2.1 ≤ u56.2.2.1 by omega), (fun e => (fun e => (fun e => id (xh47 e)) (xh53 e)) (xh59 e)), (show CR tx k (gkT tx k gs).1 u56.1 u56.2.1 u56.2.2.1 u56.2.2.2.1 u56.2.2.2.2.1 u56.2.2.2.2.2.1 u56.2.2.2.2.2.2.1 u56.2.2.2.2.2.2.2.1 u56.2.2.2.2.2.2.2.2 from (by rw [gk_8 (fun e => c6_0 ((cr_isw hg (by decide)).mp e).2) (fun e => c6_1 ((cr_isw hg (by decide)).mp e).2) (fun e => c6_2 ((cr_isw hg (by decide)).mp e).2) ((cr_isw hg (by decide)).mpr ⟨c1, c6_3⟩)]; exact xh60)), (fun _ => by rw [gk_8 (fun e => c6_0 ((cr_isw hg (by decide)).mp e).2) (fun e => c6_1 ((cr_isw hg (by decide)).mp e).2) (fun e => c6_2 ((cr_isw hg (by decide)).mp e).2) ((cr_isw hg (by decide)).mpr ⟨c1, c6_3⟩)]; exact ⟨pk_us, fun q => pk_us, fun q => pk_us⟩), (fun i h => ⟨pk_un h, pk_un h, pk_un h⟩)⟩ [4, 5, 6, 7, 0, 1, 2, 3] rfl (by decide) (by decide) (by decide) d_Reader_readGateKind_178
          · refine j_tabOut (pc := 16) C (tgt := 169) d_Reader_readGateKind_16 (by exact to_5_8 c6_0 c6_1 c6_2 c6_3) (by decide) ?_
            refine j_aload_n (pc := 169) C d_Reader_readGateKind_169 rfl 0 rfl ?_
            refine j_iconst (pc := 170) C (v := 1) d_Reader_readGateKind_170 (by decide) ?_
            refine j_aload_n (pc := 171) C d_Reader_readGateKind_171 rfl 0 rfl ?_
            refine j_get (pc := 172) C gf_Reader_62 0 rfl rfl d_Reader_readGateKind_172 ?_
            refine j_callVv (pc := 175) C (c_rF_fail_1 l D y rd ow tp (ad 0) td fa pl so le wo nu si ra rs k tx gs rs ha hs hk hg (by omega)) kw_Reader_65 kv_Reader_fail 0 5 rfl rfl ⟨by decide, by decide⟩ ⟨by decide, by decide⟩ (wr := [(td, .inl (y 0, 1600, .inl (tby tx))), (ow, .inl (y 1, 33, .inr (.inl ww))), (ad 1, .inr (1, [.int (d.1 9), .ref (ad 4), .ref (ad 5), .ref (ad 6), .ref (ad 7), .ref (ad 8), .ref (ad 9), .ref (ad 10)])), (ad 5, .inl (y 0, 9, .inl f0)), (ad 6, .inl (y 0, 9, .inl f1)), (ad 7, .inl (y 0, 9, .inl f2))]) [0, 1] [2, 3, 4, 5, 6, 7] rfl rfl (by decide +kernel) (by decide +kernel) (by decide +kernel) (As := [.int 1, .int (nI rs)]) (rest := []) rfl (nb rfl) rfl d_Reader_readGateKind_175 (fun u61 hu62 => ?_)
            obtain ⟨xh63, xh64⟩ := hu62
            refine j_ws (ws' := [(td, .inl (y 0, 1600, .inl (tby tx))), (ow, .inl (y 1, 33, .inr (.inl ww))), (ad 1, .inr (1, [.int (d.1 9), .ref (ad 4), .ref (ad 5), .ref (ad 6), .ref (ad 7), .ref (ad 8), .ref (ad 9), .ref (ad 10)])), (ad 5, .inl (y 0, 9, .inl f0)), (ad 6, .inl (y 0, 9, .inl f1)), (ad 7, .inl (y 0, 9, .inl f2)), (rd, .inr (5, [.int u61.1, .int u61.2, .ref ow, .ref tp, .ref (ad 0), .int (nI k), .int 0, .int (nI k), .long le, .int wo, .int nu, .int si])), (tp, .inr (0, [.ref td, .int (nI k)]))]) rfl ?_
            exact j_vret (pc := 178) C hr ((u61.1, u61.2, k, k, 0, le, wo, nu, si), f0, f1, f2) ⟨(show k ≤ k by omega), (show k ≤ k by omega), (fun e => absurd e xh63), (show CR tx k (gkT tx k gs).1 u61.1 u61.2 k k 0 le wo nu si from (by rw [gk_0 (fun e => c6_0 ((cr_isw hg (by decide)).mp e).2) (fun e => c6_1 ((cr_isw hg (by decide)).mp e).2) (fun e => c6_2 ((cr_isw hg (by decide)).mp e).2) (fun e => c6_3 ((cr_isw hg (by decide)).mp e).2)]; show CR tx k (failS 1 (stS tx k gs) gs) u61.1 u61.2 k k 0 le wo nu si; rw [← cr_f0 hg]; exact xh64)), (fun q => ((fail_nz (kd := 1) (by decide)) (by rw [gk_0 (fun e => c6_0 ((cr_isw hg (by decide)).mp e).2) (fun e => c6_1 ((cr_isw hg (by decide)).mp e).2) (fun e => c6_2 ((cr_isw hg (by decide)).mp e).2) (fun e => c6_3 ((cr_isw hg (by decide)).mp e).2)] at q; exact q)).elim), (fun i h => ⟨rfl, rfl, rfl⟩)⟩ [6, 7, 0, 1, 2, 3, 4, 5] rfl (by decide) (by decide) (by decide) d_Reader_readGateKind_178
