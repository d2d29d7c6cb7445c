/-! what a text says: its pieces (the reader's and the reference's common meaning) -/
def srt (c : Nat) : Nat := if 97 ≤ c ∧ c ≤ 122 then 1 else if 48 ≤ c ∧ c ≤ 57 then 2 else 3
def blkb (c : Nat) : Bool := decide (c = 32 ∨ c = 10)
def scn (P : Nat → Bool) (n : Nat) : Nat → Nat → Nat
  | 0, p => p
  | k + 1, p => if p < n ∧ P p = true then scn P n k (p + 1) else p
def sc (P : Nat → Bool) (n p : Nat) : Nat := scn P n (n - p) p
theorem sq_go {P : Nat → Bool} {n p : Nat} (h : p < n) (hP : P p = true) : sc P n p = sc P n (p + 1) := by
  unfold sc
  rw [show n - p = (n - (p + 1)) + 1 by omega]
  exact if_pos ⟨h, hP⟩
theorem sq_stop {P : Nat → Bool} {n p : Nat} (h : ¬ (p < n ∧ P p = true)) : sc P n p = p := by
  unfold sc
  cases n - p with
  | zero => rfl
  | succ k => exact if_neg h
theorem scn_ge (P : Nat → Bool) (n k p : Nat) : p ≤ scn P n k p := by
  induction k generalizing p with
  | zero => exact Nat.le_refl _
  | succ k ih =>
    simp only [scn]
    split
    · exact Nat.le_trans (by omega) (ih (p + 1))
    · exact Nat.le_refl _
theorem sq_ge (P : Nat → Bool) (n p : Nat) : p ≤ sc P n p := scn_ge P n _ p
theorem scn_le (P : Nat → Bool) (n k p : Nat) (h : p ≤ n) : scn P n k p ≤ n := by
  induction k generalizing p with
  | zero => exact h
  | succ k ih =>
    simp only [scn]
    split
    · rename_i q
      exact ih (p + 1) (by omega)
    · exact h
theorem sq_le {P : Nat → Bool} {n p : Nat} (h : p ≤ n) : sc P n p ≤ n := scn_le P n _ p h
theorem scn_all (P : Nat → Bool) (n k p i : Nat) (h0 : p ≤ i) (h1 : i < scn P n k p) : P i = true := by
  induction k generalizing p with
  | zero => exact absurd h1 (by simp only [scn]; omega)
  | succ k ih =>
    simp only [scn] at h1
    split at h1
    · rename_i q
      by_cases e : p = i
      · rw [← e]
        exact q.2
      · exact ih (p + 1) (by omega) h1
    · omega
theorem sq_all {P : Nat → Bool} {n p i : Nat} (h0 : p ≤ i) (h1 : i < sc P n p) : P i = true := scn_all P n _ p i h0 h1
theorem scn_end (P : Nat → Bool) (n k p : Nat) (h : n - p ≤ k) : ¬ (scn P n k p < n ∧ P (scn P n k p) = true) := by
  induction k generalizing p with
  | zero =>
    simp only [scn]
    omega
  | succ k ih =>
    simp only [scn]
    split
    · exact ih (p + 1) (by omega)
    · rename_i q
      exact q
theorem sq_end (P : Nat → Bool) (n p : Nat) : ¬ (sc P n p < n ∧ P (sc P n p) = true) := scn_end P n _ p (Nat.le_refl _)
theorem sq_eq {P : Nat → Bool} {n p q : Nat} (h0 : p ≤ q) (h1 : ∀ i, p ≤ i → i < q → i < n ∧ P i = true) (h2 : ¬ (q < n ∧ P q = true)) : sc P n p = q := by
  induction hd : q - p generalizing p with
  | zero =>
    have : p = q := by omega
    rw [this]
    exact sq_stop h2
  | succ k ih =>
    obtain ⟨a, c⟩ := h1 p (Nat.le_refl _) (by omega)
    rw [sq_go a c]
    exact ih (by omega) (fun i hi hj => h1 i (by omega) hj) (by omega)
theorem sq_from {P : Nat → Bool} {n p a : Nat} (h0 : p ≤ a) (h1 : a ≤ sc P n p) : sc P n a = sc P n p :=
  sq_eq h1 (fun i hi hj => ⟨by
    by_cases hn : p ≤ n
    · have := sq_le (P := P) hn
      omega
    · have : sc P n p = p := sq_stop (by omega)
      omega, sq_all (by omega) hj⟩) (sq_end P n p)
section TK
variable (b : Nat → Nat) (n : Nat)
/-- where the piece behind p begins -/
def tq (p : Nat) : Nat := sc (fun i => blkb (b i)) n p
/-- its sort: 0 the end, 1 a word, 2 a number, 3 a sign -/
def tsr (p g : Nat) : Nat := if n ≤ tq b n p then 0 else if g = 1 ∧ tq b n p = p then 3 else srt (b (tq b n p))
def ten (p g : Nat) : Nat := if tsr b n p g = 0 then tq b n p else if tsr b n p g = 3 then tq b n p + 1 else sc (fun i => decide (srt (b i) = tsr b n p g)) n (tq b n p + 1)
def tgl (p g : Nat) : Nat := if tsr b n p g = 1 ∨ tsr b n p g = 2 then 1 else 0
end TK
def tl (b : Nat → Nat) (q e : Nat) : List Nat := (List.range (e - q)).map (fun i => b (q + i) - 96)
def pk5 : List Nat → Nat
  | [] => 0
  | a :: l => a + 32 * pk5 l
def pkn (b : Nat → Nat) (q : Nat) : Nat → Nat
  | 0 => 0
  | j + 1 => pkn b q j + (b (q + j) - 96) * 32 ^ j
def tvn (b : Nat → Nat) (q : Nat) : Nat → Nat
  | 0 => 0
  | j + 1 => 10 * tvn b q j + (b (q + j) - 48)
def ownW : List (List Nat) := [[12, 1, 11, 5], [19, 16, 18, 5, 1, 4], [8, 15, 12, 4, 19], [8, 1, 19], [7, 1, 20, 5], [16, 12, 1, 9, 14], [12, 5, 1, 11, 19], [19, 20, 5, 16, 19], [6, 18, 15, 26, 5, 14], [20, 15], [2, 15, 1, 18, 4, 19], [23, 9, 4, 20, 8], [10, 15, 9, 14], [22, 9, 12, 12, 1, 7, 5], [20, 8, 9, 14, 7], [6, 18, 15, 13], [4, 1, 25, 19], [23, 15, 18, 20, 8], [3, 8, 1, 16, 5, 12], [12, 15, 19, 19], [2, 1, 14, 11], [18, 1, 9, 14], [1, 9, 18], [23, 8, 5, 14], [15, 18], [1, 14, 4], [14, 15, 20], [1, 12, 12], [4, 1, 25], [12, 5, 22, 5, 12], [23, 1, 20, 5, 18], [13, 9, 14], [13, 1, 24]]
def owf (w : Nat) : List Nat := ownW.getD w []
abbrev PS : Type := Nat × Nat × Nat × Nat
section SP
variable (b : Nat → Nat) (n : Nat)
def stS (x : PS) : Nat := tq b n x.2.2.1
def enS (x : PS) : Nat := ten b n x.2.2.1 x.2.2.2
def srS (x : PS) : Nat := if x.1 = 0 then tsr b n x.2.2.1 x.2.2.2 else 0
def tlS (x : PS) : List Nat := tl b (stS b n x) (enS b n x)
def failS (kd pl : Nat) (x : PS) : PS := if x.1 = 0 then (kd, pl, x.2.2) else x
def advS (x : PS) : PS := if x.1 = 0 then (0, 0, enS b n x, tgl b n x.2.2.1 x.2.2.2) else x
def iswS (w : Nat) (x : PS) : Bool := decide (srS b n x = 1 ∧ tlS b n x = owf w)
def issS (c : Nat) (x : PS) : Bool := decide (srS b n x = 3 ∧ b (stS b n x) = c)
def isnS (x : PS) : Bool := decide (srS b n x = 2)
def isoS (x : PS) : Bool := decide (srS b n x = 1) && (List.range 33).all (fun w => decide (¬ tlS b n x = owf w))
def rwS (w : Nat) (x : PS) : PS := if iswS b n w x = true then advS b n x else failS 1 (stS b n x) x
def rsS (c : Nat) (x : PS) : PS := if issS b n c x = true then advS b n x else failS 1 (stS b n x) x
def tvS (x : PS) : Nat := tvn b (stS b n x) (enS b n x - stS b n x)
/-- a number within lo .. hi -/
def rnS (lo hi : Nat) (x : PS) : PS := if isnS b n x = true then (if 4 < enS b n x - stS b n x then failS 1 (stS b n x + 4) x else if tvS b n x < lo ∨ hi < tvS b n x then failS 2 (stS b n x) x else advS b n x) else failS 1 (stS b n x) x
/-- a name -/
def rmS (x : PS) : PS := if isoS b n x = true then (if 6 < enS b n x - stS b n x then failS 1 (stS b n x + 6) x else advS b n x) else failS 1 (stS b n x) x
end SP
theorem failS_0 (kd pl : Nat) {x : PS} (h : x.1 = 0) : failS kd pl x = (kd, pl, x.2.2) := if_pos h
theorem failS_d (kd pl : Nat) {x : PS} (h : ¬ x.1 = 0) : failS kd pl x = x := if_neg h
theorem isoS_iff {b : Nat → Nat} {n : Nat} {x : PS} : isoS b n x = true ↔ srS b n x = 1 ∧ ∀ w, w < 33 → ¬ tlS b n x = owf w := by
  unfold isoS
  rw [Bool.and_eq_true, decide_eq_true_iff, List.all_eq_true]
  constructor
  · rintro ⟨a, c⟩
    exact ⟨a, fun w hw => of_decide_eq_true (c w (List.mem_range.mpr hw))⟩
  · rintro ⟨a, c⟩
    exact ⟨a, fun w hw => decide_eq_true (c w (List.mem_range.mp hw))⟩
