/-! how a lake stands, and how a day goes by -/
/-- day, water, latest act; boards, flows, streams, worths, lately, served, sums -/
abbrev ST_ : Type := (Nat × Nat × Nat) × (Nat → Nat) × (Nat → Nat) × (Nat → Nat) × (Nat → Int) × (Nat → Int) × (Nat → Nat) × (Nat → Nat)
abbrev ST_.dy (S : ST_) : Nat := S.1.1
abbrev ST_.wa (S : ST_) : Nat := S.1.2.1
abbrev ST_.la (S : ST_) : Nat := S.1.2.2
abbrev ST_.bd (S : ST_) : Nat → Nat := S.2.1
abbrev ST_.fl (S : ST_) : Nat → Nat := S.2.2.1
abbrev ST_.st (S : ST_) : Nat → Nat := S.2.2.2.1
abbrev ST_.wo (S : ST_) : Nat → Int := S.2.2.2.2.1
abbrev ST_.ly (S : ST_) : Nat → Int := S.2.2.2.2.2.1
abbrev ST_.se (S : ST_) : Nat → Nat := S.2.2.2.2.2.2.1
abbrev ST_.su (S : ST_) : Nat → Nat := S.2.2.2.2.2.2.2
def upN (g : Nat → Nat) (k v : Nat) : Nat → Nat := fun j => if j = k then v else g j
def upZ (g : Nat → Int) (k : Nat) (v : Int) : Nat → Int := fun j => if j = k then v else g j
theorem upN_s {g : Nat → Nat} {k v : Nat} : upN g k v k = v := if_pos rfl
theorem upN_n {g : Nat → Nat} {k v j : Nat} (h : ¬ j = k) : upN g k v j = g j := if_neg h
theorem upZ_s {g : Nat → Int} {k : Nat} {v : Int} : upZ g k v k = v := if_pos rfl
theorem upZ_n {g : Nat → Int} {k j : Nat} {v : Int} (h : ¬ j = k) : upZ g k v j = g j := if_neg h
/-- rows that hold such numbers -/
def XW (n : Nat) (f : Nat → Int32) (g : Nat → Nat) : Prop := ∀ j, j < n → f j = nI (g j)
def XZ (n : Nat) (f : Nat → Int32) (g : Nat → Int) : Prop := ∀ j, j < n → f j = zI (g j)
def XL (n : Nat) (f : Nat → Int64) (g : Nat → Nat) : Prop := ∀ j, j < n → f j = nL (g j)
theorem xw_up {n k v : Nat} {f : Nat → Int32} {g : Nat → Nat} (h : XW n f g) : XW n (upd f k (nI v)) (upN g k v) := by
  intro j hj
  by_cases e : j = k
  · rw [e, pk_us, upN_s]
  · rw [pk_un e, upN_n e]
    exact h j hj
theorem xz_up {n k : Nat} {v : Int} {f : Nat → Int32} {g : Nat → Int} (h : XZ n f g) : XZ n (upd f k (zI v)) (upZ g k v) := by
  intro j hj
  by_cases e : j = k
  · rw [e, pk_us, upZ_s]
  · rw [pk_un e, upZ_n e]
    exact h j hj
theorem xl_up {n k v : Nat} {f : Nat → Int64} {g : Nat → Nat} (h : XL n f g) : XL n (vp_updL f k (nL v)) (upN g k v) := by
  intro j hj
  by_cases e : j = k
  · rw [e, upN_s]
    exact if_pos rfl
  · rw [upN_n e]
    exact (if_neg e).trans (h j hj)
theorem xw_e {n : Nat} {f : Nat → Int32} {g g' : Nat → Nat} (h : XW n f g) (e : ∀ j, j < n → g j = g' j) : XW n f g' := fun j hj => by rw [← e j hj]; exact h j hj
theorem xz_e {n : Nat} {f : Nat → Int32} {g g' : Nat → Int} (h : XZ n f g) (e : ∀ j, j < n → g j = g' j) : XZ n f g' := fun j hj => by rw [← e j hj]; exact h j hj
theorem xl_e {n : Nat} {f : Nat → Int64} {g g' : Nat → Nat} (h : XL n f g) (e : ∀ j, j < n → g j = g' j) : XL n f g' := fun j hj => by rw [← e j hj]; exact h j hj
theorem xw_c {n : Nat} {f f' : Nat → Int32} {g : Nat → Nat} (h : XW n f g) : XW n (va_cpy f f' 0 0 n) g := by
  intro j hj
  have e : va_cpy f f' 0 0 n j = f (0 + (j - 0)) := if_pos ⟨Nat.zero_le _, by omega⟩
  rw [e, show 0 + (j - 0) = j by omega]
  exact h j hj
theorem xz_c {n : Nat} {f f' : Nat → Int32} {g : Nat → Int} (h : XZ n f g) : XZ n (va_cpy f f' 0 0 n) g := by
  intro j hj
  have e : va_cpy f f' 0 0 n j = f (0 + (j - 0)) := if_pos ⟨Nat.zero_le _, by omega⟩
  rw [e, show 0 + (j - 0) = j by omega]
  exact h j hj
theorem xl_c {n : Nat} {f f' : Nat → Int64} {g : Nat → Nat} (h : XL n f g) : XL n (va_cpy f f' 0 0 n) g := by
  intro j hj
  have e : va_cpy f f' 0 0 n j = f (0 + (j - 0)) := if_pos ⟨Nat.zero_le _, by omega⟩
  rw [e, show 0 + (j - 0) = j by omega]
  exact h j hj
/-! numbers below 0 -/
theorem zI_nat (n : Nat) : zI (n : Int) = nI n := rfl
theorem zI_add (a b : Int) : zI a + zI b = zI (a + b) := (Int32.ofInt_add a b).symm
theorem zI_sub (a b : Int) : zI a - zI b = zI (a - b) := (Int32.ofInt_sub a b).symm
theorem zI_neg (a : Int) : -zI a = zI (-a) := (Int32.ofInt_neg a).symm
theorem nLd_add (a b : Nat) : nL a + nL b = nL (a + b) := (Int64.ofNat_add a b).symm
theorem nId_L {n : Nat} (h : n < 2 ^ 31) : (nI n).toInt64 = nL n := by
  apply Int64.toInt_inj.mp
  rw [Int32.toInt_toInt64, nI_toInt h]
  exact (Int64.toInt_ofNat_of_lt (by omega)).symm
theorem zI_toInt {v : Int} (h1 : -2147483648 ≤ v) (h2 : v ≤ 2147483647) : (zI v).toInt = v := Int32.toInt_ofInt_of_le (by omega) (by omega)
/-! the day -/
/-- what would flow at a gate, were there water enough -/
def fullT (t : LA_) (g b l d : Nat) : Nat :=
  if t.r 1 g = 1 then (if 0 < b ∧ 0 < l then (l - b) * t.r 5 g + t.r 2 g else (l - b) * t.r 5 g)
  else if t.r 1 g = 2 then (l - b) / t.r 2 g * t.r 2 g * t.r 5 g
  else if t.r 1 g = 3 then (if t.r 2 g ≤ d ∧ d ≤ t.r 3 g then 0 else (l - b) * t.r 5 g)
  else (l - b) * t.r 5 g
/-- what is left ahead of a gate, of w of water at a level l -/
def leftT (t : LA_) (b : Nat → Nat) (l d w : Nat) : Nat → Nat
  | 0 => w
  | g + 1 => leftT t b l d w g - min (leftT t b l d w g) (fullT t g (b g) l d)
def flowT (t : LA_) (b : Nat → Nat) (l d w g : Nat) : Nat := min (leftT t b l d w g) (fullT t g (b g) l d)
theorem left_s {t : LA_} {b : Nat → Nat} {l d w g : Nat} : leftT t b l d w (g + 1) = leftT t b l d w g - flowT t b l d w g := rfl
theorem left_le {t : LA_} {b : Nat → Nat} {l d w : Nat} : ∀ {g : Nat}, leftT t b l d w g ≤ w
  | 0 => Nat.le_refl _
  | g + 1 => by
    rw [left_s]
    exact Nat.le_trans (Nat.sub_le _ _) left_le
theorem flow_le {t : LA_} {b : Nat → Nat} {l d w g : Nat} : flowT t b l d w g ≤ leftT t b l d w g := Nat.min_le_left _ _
theorem flow_w {t : LA_} {b : Nat → Nat} {l d w g : Nat} : flowT t b l d w g ≤ w := Nat.le_trans flow_le left_le
abbrev servT (t : LA_) (d : Nat) (f : Nat → Nat) (i : Nat) : Prop := (t.r 13 i ≤ d ∧ d ≤ t.r 14 i) ∧ t.r 11 i ≤ f (t.r 10 i) ∧ f (t.r 10 i) ≤ t.r 12 i
/-- worths of a day, behind i things -/
def lyT (t : LA_) (d : Nat) (f : Nat → Nat) (loss : Nat) (y : Nat → Int) : Nat → Nat → Int
  | 0 => fun v => if v < t.s 4 then -(loss : Int) else y v
  | i + 1 => if servT t d f i then upZ (lyT t d f loss y i) (t.r 9 i) (lyT t d f loss y i (t.r 9 i) + (t.r 15 i : Int)) else lyT t d f loss y i
def seT (t : LA_) (d : Nat) (f : Nat → Nat) (e : Nat → Nat) (n i : Nat) : Nat := if i < n ∧ servT t d f i then e i + 1 else e i
abbrev lwT (t : LA_) (S : ST_) : Nat := leftT t S.bd (S.wa / t.s 1) S.dy S.wa (t.s 9)
abbrev flT (t : LA_) (S : ST_) : Nat → Nat := flowT t S.bd (S.wa / t.s 1) S.dy S.wa
/-- what rains, with so much more; what would be there; what is spilt; what the air takes; what is left -/
abbrev raT (t : LA_) (S : ST_) (m : Nat) : Nat := amF t 0 S.dy (lwT t S) + m
abbrev wdT (t : LA_) (S : ST_) (m : Nat) : Nat := lwT t S + raT t S m
abbrev spT (t : LA_) (S : ST_) (m : Nat) : Nat := wdT t S m - t.s 2
abbrev w1T (t : LA_) (S : ST_) (m : Nat) : Nat := wdT t S m - spT t S m
abbrev aiT (t : LA_) (S : ST_) (m : Nat) : Nat := min (w1T t S m) (amF t 1 S.dy (w1T t S m))
abbrev w2T (t : LA_) (S : ST_) (m : Nat) : Nat := w1T t S m - aiT t S m
abbrev loT (t : LA_) (S : ST_) (m : Nat) : Nat := (if w2T t S m / t.s 1 < t.s 5 then t.s 6 else 0) + (if t.s 7 < wdT t S m / t.s 1 then t.s 8 else 0)
def woT (n : Nat) (w y : Nat → Int) (v : Nat) : Int := if v < n then w v + y v else w v
def fuT (n : Nat) (f g : Nat → Nat) (j : Nat) : Nat := if j < n then f j else g j
def smT (n : Nat) (f g : Nat → Nat) (j : Nat) : Nat := if j < n then g j + f j else g j
def suT (s : Nat → Nat) (r p f a : Nat) : Nat → Nat := upN (upN (upN (upN s 3 (s 3 + f)) 1 (s 1 + r)) 2 (s 2 + p)) 4 (s 4 + a)
/-- a day goes by behind its act, with so much more rain -/
def dayT (t : LA_) (S : ST_) (m : Nat) : ST_ := ((S.dy + 1, w2T t S m, S.la), S.bd, fuT (t.s 9) (flT t S) S.fl, smT (t.s 9) (flT t S) S.st, woT (t.s 4) S.wo (lyT t S.dy (flT t S) (loT t S m) S.ly (t.s 10)), lyT t S.dy (flT t S) (loT t S m) S.ly (t.s 10), seT t S.dy (flT t S) S.se (t.s 10), suT S.su (raT t S m) (spT t S m) (S.wa - lwT t S) (aiT t S m))
/-! acts -/
def mvN (a x : Nat) : Nat := if a = 1 then x - 1 else x + 1
def mvB (t : LA_) (b : Nat → Nat) (g a : Nat) : Nat → Nat := if t.r 6 g = 0 then upN b g (mvN a (b g)) else upN (upN b g (mvN a (b g))) (t.r 6 g - 1) (mvN a (upN b g (mvN a (b g)) (t.r 6 g - 1)))
def actL (l a : Nat) : Nat := if a = 0 then l else a
def actB (t : LA_) (b : Nat → Nat) (d a : Nat) : Nat → Nat := if a = 0 then b else mvB t b (t.r 8 (d % t.s 4)) a
def actT (t : LA_) (S : ST_) (a : Nat) : ST_ := ((S.dy, S.wa, actL S.la a), actB t S.bd S.dy a, S.2.2)
/-- whether so many boards allow an act under a law -/
abbrev fitT (w a x : Nat) : Prop := (a = 1 → (w = 2 → 2 ≤ x) ∧ (¬ w = 2 → 1 ≤ x)) ∧ (¬ a = 1 → (w = 2 → x + 1 ≤ 9) ∧ (¬ w = 2 → x + 1 ≤ 20))
abbrev alwT (t : LA_) (b : Nat → Nat) (l w a v : Nat) : Prop := a = 0 ∨ ((a = 1 ∨ a = 2) ∧ v < t.s 4 ∧ ¬ w = 3 ∧ ¬ (w = 0 ∧ l = a) ∧ fitT w a (b (t.r 8 v)) ∧ (t.r 6 (t.r 8 v) = 0 ∨ fitT w a (b (t.r 6 (t.r 8 v) - 1))))
/-- today's village, if there are villages; else none -/
abbrev mayT (t : LA_) (b : Nat → Nat) (l d w a : Nat) : Prop := a = 0 ∨ (0 < t.s 4 ∧ alwT t b l w a (d % t.s 4))
def BN (n : Nat) (g : Nat → Nat) (B : Nat) : Prop := ∀ j, j < n → g j ≤ B
/-! steps of the class's loops -/
theorem fu_0 {f g : Nat → Nat} {j : Nat} : fuT 0 f g j = g j := if_neg (Nat.not_lt_zero _)
theorem fu_up {t : LA_} {b : Nat → Nat} {l d w i z : Nat} {g : Nat → Nat} (h : z = leftT t b l d w i) (j : Nat) : upN (fuT i (flowT t b l d w) g) i (min z (fullT t i (b i) l d)) j = fuT (i + 1) (flowT t b l d w) g j := by
  by_cases e : j = i
  · subst e
    rw [upN_s, h]
    exact (if_pos (Nat.lt_succ_self _)).symm
  · rw [upN_n e]
    by_cases c : j < i
    · exact (if_pos c).trans (if_pos (by omega)).symm
    · exact (if_neg c).trans (if_neg (by omega)).symm
theorem fu_lt {n j : Nat} {f g : Nat → Nat} (h : j < n) : fuT n f g j = f j := if_pos h
theorem sm_0 {f g : Nat → Nat} {j : Nat} : smT 0 f g j = g j := if_neg (Nat.not_lt_zero _)
theorem sm_up {f g : Nat → Nat} {i : Nat} (j : Nat) : upN (smT i f g) i (smT i f g i + f i) j = smT (i + 1) f g j := by
  by_cases e : j = i
  · subst e
    rw [upN_s, show smT j f g j = g j from if_neg (by omega)]
    exact (if_pos (Nat.lt_succ_self _)).symm
  · rw [upN_n e]
    by_cases c : j < i
    · exact (if_pos c).trans (if_pos (by omega)).symm
    · exact (if_neg c).trans (if_neg (by omega)).symm
/-- lately, behind i villages -/
def laT (i : Nat) (x : Int) (y : Nat → Int) (v : Nat) : Int := if v < i then x else y v
theorem la_0 {x : Int} {y : Nat → Int} {j : Nat} : laT 0 x y j = y j := if_neg (Nat.not_lt_zero _)
theorem la_up {x : Int} {y : Nat → Int} {i : Nat} (j : Nat) : upZ (laT i x y) i x j = laT (i + 1) x y j := by
  by_cases e : j = i
  · subst e
    rw [upZ_s]
    exact (if_pos (Nat.lt_succ_self _)).symm
  · rw [upZ_n e]
    by_cases c : j < i
    · exact (if_pos c).trans (if_pos (by omega)).symm
    · exact (if_neg c).trans (if_neg (by omega)).symm
theorem wo_0 {w y : Nat → Int} {j : Nat} : woT 0 w y j = w j := if_neg (Nat.not_lt_zero _)
theorem wo_up {w y : Nat → Int} {i : Nat} (j : Nat) : upZ (woT i w y) i (woT i w y i + y i) j = woT (i + 1) w y j := by
  by_cases e : j = i
  · subst e
    rw [upZ_s, show woT j w y j = w j from if_neg (by omega)]
    exact (if_pos (Nat.lt_succ_self _)).symm
  · rw [upZ_n e]
    by_cases c : j < i
    · exact (if_pos c).trans (if_pos (by omega)).symm
    · exact (if_neg c).trans (if_neg (by omega)).symm
theorem se_0 {t : LA_} {d : Nat} {f e : Nat → Nat} {j : Nat} : seT t d f e 0 j = e j := if_neg (fun q => absurd q.1 (Nat.not_lt_zero _))
theorem se_y {t : LA_} {d : Nat} {f e : Nat → Nat} {i : Nat} (h : servT t d f i) (j : Nat) : upN (seT t d f e i) i (seT t d f e i i + 1) j = seT t d f e (i + 1) j := by
  by_cases c : j = i
  · subst c
    rw [upN_s, show seT t d f e j j = e j from if_neg (fun q => absurd q.1 (by omega))]
    exact (if_pos ⟨Nat.lt_succ_self _, h⟩).symm
  · rw [upN_n c]
    unfold seT
    by_cases k : j < i ∧ servT t d f j
    · rw [if_pos k, if_pos ⟨by omega, k.2⟩]
    · rw [if_neg k, if_neg (fun q => k ⟨by omega, q.2⟩)]
theorem se_n {t : LA_} {d : Nat} {f e : Nat → Nat} {i : Nat} (h : ¬ servT t d f i) (j : Nat) : seT t d f e i j = seT t d f e (i + 1) j := by
  unfold seT
  by_cases k : j < i ∧ servT t d f j
  · rw [if_pos k, if_pos ⟨by omega, k.2⟩]
  · rw [if_neg k, if_neg (fun q => k ⟨by
      by_cases c : j = i
      · subst c
        exact absurd q.2 h
      · omega, q.2⟩)]
theorem ly_y {t : LA_} {d o : Nat} {f : Nat → Nat} {y : Nat → Int} {i : Nat} (h : servT t d f i) (j : Nat) : upZ (lyT t d f o y i) (t.r 9 i) (lyT t d f o y i (t.r 9 i) + (t.r 15 i : Int)) j = lyT t d f o y (i + 1) j := (congrFun (if_pos h) j).symm
theorem ly_n {t : LA_} {d o : Nat} {f : Nat → Nat} {y : Nat → Int} {i : Nat} (h : ¬ servT t d f i) (j : Nat) : lyT t d f o y i j = lyT t d f o y (i + 1) j := (congrFun (if_neg h) j).symm
theorem ly_0 {t : LA_} {d o : Nat} {f : Nat → Nat} {y : Nat → Int} (j : Nat) : laT (t.s 4) (-(o : Int)) y j = lyT t d f o y 0 j := rfl
theorem mv_0 {t : LA_} {b : Nat → Nat} {g a : Nat} (e : t.r 6 g = 0) : mvB t b g a = upN b g (mvN a (b g)) := if_pos e
theorem mv_1 {t : LA_} {b : Nat → Nat} {g a : Nat} (e : ¬ t.r 6 g = 0) : mvB t b g a = upN (upN b g (mvN a (b g))) (t.r 6 g - 1) (mvN a (upN b g (mvN a (b g)) (t.r 6 g - 1))) := if_neg e
theorem zs_lt {a b c : Nat} (ha : a < 2 ^ 30) (hb : b < 2 ^ 30) (hc : c < 2 ^ 30) (h : a < b + c) : zI ((a : Nat) - (b : Nat) : Int) < nI c := by
  rw [Int32.lt_iff_toInt_lt, zI_toInt (by omega) (by omega), nI_toInt (by omega)]
  omega
theorem zs_nlt {a b c : Nat} (ha : a < 2 ^ 30) (hb : b < 2 ^ 30) (hc : c < 2 ^ 30) (h : ¬ a < b + c) : ¬ zI ((a : Nat) - (b : Nat) : Int) < nI c := by
  rw [Int32.lt_iff_toInt_lt, zI_toInt (by omega) (by omega), nI_toInt (by omega)]
  omega
/-- boards stay within bounds by an act that may be done -/
theorem act_bn {t : LA_} {b : Nat → Nat} {d a : Nat} (hb : BN (t.s 9) b 20) (ha : a ≤ 2) (hm : a = 0 ∨ (0 < t.s 4 ∧ fitT 0 a (b (t.r 8 (d % t.s 4))) ∧ (t.r 6 (t.r 8 (d % t.s 4)) = 0 ∨ fitT 0 a (b (t.r 6 (t.r 8 (d % t.s 4)) - 1))))) (hj : 0 < t.s 4 → ¬ t.r 6 (t.r 8 (d % t.s 4)) = t.r 8 (d % t.s 4) + 1) : BN (t.s 9) (actB t b d a) 20 := by
  unfold actB
  by_cases e : a = 0
  · rw [if_pos e]
    exact hb
  · rw [if_neg e]
    have h0 : 0 < t.s 4 := by omega
    have hg := hj h0
    have hm1 := hm.resolve_left e
    obtain ⟨_, hm2, hm3⟩ := hm1
    intro j hj2
    have hbj := hb j hj2
    by_cases r : t.r 6 (t.r 8 (d % t.s 4)) = 0
    · rw [mv_0 r]
      by_cases c : j = t.r 8 (d % t.s 4)
      · subst c
        rw [upN_s]
        unfold mvN
        split <;> omega
      · rw [upN_n c]
        exact hbj
    · rw [mv_1 r]
      have hm4 := hm3.resolve_left r
      by_cases c : j = t.r 6 (t.r 8 (d % t.s 4)) - 1
      · subst c
        rw [upN_s, upN_n (by omega)]
        unfold mvN
        split <;> omega
      · rw [upN_n c]
        by_cases c2 : j = t.r 8 (d % t.s 4)
        · subst c2
          rw [upN_s]
          unfold mvN
          split <;> omega
        · rw [upN_n c2]
          exact hbj
theorem lose_bn {t : LA_} {b : Nat → Nat} {g n : Nat} (hb : BN n b 20) (hj : t.r 6 g ≤ n ∧ ¬ t.r 6 g = g + 1) : BN n (mvB t b g 1) 20 := by
  intro j hj2
  have hbj := hb j hj2
  have m : ∀ x, mvN 1 x = x - 1 := fun x => if_pos rfl
  by_cases r : t.r 6 g = 0
  · rw [mv_0 r, m]
    by_cases c : j = g
    · subst c
      rw [upN_s]
      omega
    · rw [upN_n c]
      exact hbj
  · rw [mv_1 r, m, m]
    by_cases c : j = t.r 6 g - 1
    · subst c
      rw [upN_s, upN_n (by omega)]
      omega
    · rw [upN_n c]
      by_cases c2 : j = g
      · subst c2
        rw [upN_s]
        omega
      · rw [upN_n c2]
        exact hbj
/-! gates that are joined are two -/
def TJ (t : LA_) : Prop := ∀ g, g < t.s 9 → t.r 6 g ≤ t.s 9 ∧ ¬ t.r 6 g = g + 1
section TJO
variable {tx : Nat → Nat} {k : Nat}
theorem tj_same {t t' : LA_} (h : TJ t) (e : t'.s 9 = t.s 9) (r : ∀ j, t'.r 6 j = t.r 6 j) : TJ t' := by
  intro g hg
  rw [r, e]
  exact h g (by rw [← e]; exact hg)
theorem tj_gx {t : LA_} {n kd a b bd wd : Nat} {w : List Nat} (h : TJ t) (hn : n = t.s 9) : TJ (setS (setR (setR (setR (setR (setR (setR (setN t 0 n w) 1 n kd) 2 n a) 3 n b) 4 n bd) 5 n wd) 6 n 0) 9 (n + 1)) := by
  intro g hg
  have hg' : g < n + 1 := hg
  show LA_.r (setS (setR (setR (setR (setR (setR (setR (setN t 0 n w) 1 n kd) 2 n a) 3 n b) 4 n bd) 5 n wd) 6 n 0) 9 (n + 1)) 6 g ≤ n + 1 ∧ ¬ LA_.r (setS (setR (setR (setR (setR (setR (setR (setN t 0 n w) 1 n kd) 2 n a) 3 n b) 4 n bd) 5 n wd) 6 n 0) 9 (n + 1)) 6 g = g + 1
  by_cases e : g = n
  · have q : LA_.r (setS (setR (setR (setR (setR (setR (setR (setN t 0 n w) 1 n kd) 2 n a) 3 n b) 4 n bd) 5 n wd) 6 n 0) 9 (n + 1)) 6 g = 0 := by simp [LA_.s, LA_.r, LA_.nm, LA_.cs, setC, setS, setR, setN, e]
    rw [q]
    exact ⟨Nat.zero_le _, by omega⟩
  · have q : LA_.r (setS (setR (setR (setR (setR (setR (setR (setN t 0 n w) 1 n kd) 2 n a) 3 n b) 4 n bd) 5 n wd) 6 n 0) 9 (n + 1)) 6 g = t.r 6 g := by simp [LA_.s, LA_.r, LA_.nm, LA_.cs, setC, setS, setR, setN, e]
    rw [q]
    obtain ⟨c, d⟩ := h g (by omega)
    exact ⟨by omega, d⟩
theorem tj_gate {x : TX} (h : TJ x.2) : TJ (gateT tx k x).2 := by
  obtain ⟨x, t⟩ := x
  by_cases c : t.s 9 < 9
  · rw [gateT_1 c]
    exact tj_gx h rfl
  · rw [gateT_0 c]
    exact h
theorem jc_a {t : LA_} {g : Nat} {x : PS} (h : (jcS tx k t g x).1 = 0) : (olS tx k (t.nm 0) (t.s 9) x).1 = 0 ∧ nmF (t.nm 0) (t.s 9) (tlS tx k x) < t.s 9 ∧ ¬ nmF (t.nm 0) (t.s 9) (tlS tx k x) = g := by
  unfold jcS at h
  split at h
  · exact absurd h (fail_nz (by decide))
  · rename_i q
    have b := (ol_a h).2
    exact ⟨h, b, fun e => q ⟨b, Or.inl e⟩⟩
theorem ja_a {t : LA_} {x : PS} (h : (jaS tx k t x).1 = 0) : nmF (t.nm 0) (t.s 9) (tlS tx k x) < t.s 9 := by
  unfold jaS at h
  split at h
  · exact absurd h (fail_nz (by decide))
  · exact (ol_a h).2
theorem tj_set {t : LA_} {a b : Nat} (h : TJ t) (ha : a < t.s 9) (hb : b < t.s 9) (hne : ¬ b = a) : TJ (setR (setR t 6 a (b + 1)) 6 b (a + 1)) := by
  intro g hg
  have hg' : g < t.s 9 := hg
  by_cases e : g = b
  · have q : LA_.r (setR (setR t 6 a (b + 1)) 6 b (a + 1)) 6 g = a + 1 := if_pos ⟨rfl, e⟩
    rw [q]
    exact ⟨show a + 1 ≤ t.s 9 by omega, by omega⟩
  · by_cases f : g = a
    · have q : LA_.r (setR (setR t 6 a (b + 1)) 6 b (a + 1)) 6 g = b + 1 := (if_neg (fun z => e z.2)).trans (if_pos ⟨rfl, f⟩)
      rw [q]
      exact ⟨show b + 1 ≤ t.s 9 by omega, by omega⟩
    · have q : LA_.r (setR (setR t 6 a (b + 1)) 6 b (a + 1)) 6 g = t.r 6 g := (if_neg (fun z => e z.2)).trans (if_neg (fun z => f z.2))
      rw [q]
      exact h g hg'
theorem tj_join {x : TX} (h : TJ x.2) : TJ (joinT tx k x).2 := by
  unfold joinT
  show TJ (if _ then _ else _)
  split
  · rename_i c
    obtain ⟨a1, a2, a3⟩ := jc_a c
    have b1 := (rm_ok (ol_a a1).1).2.2
    exact tj_set h (ja_a b1) a2 a3
  · exact h
theorem tj_vx {t : LA_} {n g m : Nat} {w : List Nat} (h : TJ t) : TJ (setS (setR (setN t 1 n w) 8 n g) 4 m) := tj_same h rfl (fun j => by simp [LA_.s, LA_.r, LA_.nm, LA_.cs, setC, setS, setR, setN])
theorem tj_tx {t : LA_} {n m v9 v10 v11 v12 v13 v14 v15 : Nat} (h : TJ t) : TJ (setS (setR (setR (setR (setR (setR (setR (setR t 9 n v9) 10 n v10) 11 n v11) 12 n v12) 13 n v13) 14 n v14) 15 n v15) 10 m) := tj_same h rfl (fun j => by simp [LA_.s, LA_.r, LA_.nm, LA_.cs, setC, setS, setR, setN])
theorem tj_kx {t : LA_} {n m kd a b c : Nat} {cs : List Nat} (h : TJ t) : TJ (setC (setS (setR (setR (setR (setR t 16 n kd) 17 n a) 18 n b) 19 n c) 11 m) cs) := tj_same h rfl (fun j => by simp [LA_.s, LA_.r, LA_.nm, LA_.cs, setC, setS, setR, setN])
theorem tj_vill {x : TX} (h : TJ x.2) : TJ (villT tx k x).2 := by
  obtain ⟨x, t⟩ := x
  by_cases c : t.s 4 < 6
  · rw [villT_1 c]
    exact tj_vx h
  · rw [villT_0 c]
    exact h
theorem tj_thing {x : TX} (h : TJ x.2) : TJ (thingT tx k x).2 := by
  unfold thingT
  split
  · exact tj_tx h
  · exact h
theorem tj_loss {i : Nat} {x : TX} (hi : i = 5 ∨ i = 7) (h : TJ x.2) : TJ (lossT tx k i x).2 := by
  obtain ⟨x, t⟩ := x
  rw [lossT_1]
  rcases hi with rfl | rfl
  · exact tj_same h rfl (fun j => rfl)
  · exact tj_same h rfl (fun j => rfl)
theorem tj_rule {kd : Nat} {x : TX} (h : TJ x.2) : TJ (ruleT tx k kd x).2 := by
  obtain ⟨x, t⟩ := x
  by_cases c : t.s 11 < 8
  · rw [ruleT_1 c]
    exact tj_kx h
  · rw [ruleT_0 c]
    exact h
theorem tj_end {x : TX} (h : TJ x.2) : TJ (endT tx k x).2 := by
  show TJ (if _ then _ else _)
  split
  · exact tj_same h rfl (fun j => rfl)
  · exact h
theorem tj_stmt {x : TX} (h : TJ x.2) : TJ (stmtT tx k x).2 := by
  unfold stmtT
  split
  · exact tj_gate h
  · split
    · exact tj_join h
    · split
      · exact tj_vill h
      · split
        · exact tj_thing h
        · split
          · exact tj_loss (Or.inl rfl) h
          · split
            · exact tj_loss (Or.inr rfl) h
            · exact h
theorem tj_one {x : TX} (h : TJ x.2) : TJ (oneT tx k x).2 := by
  unfold oneT
  refine tj_end ?_
  split
  · exact h
  · split
    · exact tj_rule h
    · split
      · exact tj_rule h
      · exact tj_stmt h
theorem tj_all (n : Nat) : ∀ {x : TX}, TJ x.2 → TJ (allT tx k n x).2 := by
  induction n with
  | zero => exact fun h => h
  | succ n ih =>
    intro x h
    show TJ (if _ then _ else _ : TX).2
    split
    · exact h
    · exact ih (tj_one h)
theorem tj_read : TJ (readT tx k).2 := by
  unfold readT
  refine tj_all _ (tj_end ?_)
  rw [lk2c]
  exact fun j hj => absurd hj (Nat.not_lt_zero _)
end TJO
/-! the told lake, in the class's cells -/
def LKR (t : LA_) (d : LD) : Prop := RA t d ∧ RC t d ∧ TBo t ∧ WFA t ∧ TJ t
section LKRS
variable {t : LA_} {d : LD}
theorem lk_s (h : LKR t d) (i : Nat) (hi : i < 12) : d.1 i = nI (t.s i) := h.1.1 i hi
theorem lk_b (h : LKR t d) : t.s 9 ≤ 9 ∧ t.s 4 ≤ 6 ∧ t.s 10 ≤ 16 ∧ t.s 11 ≤ 8 := h.1.2.1
theorem lk_n (h : LKR t d) : 1 ≤ t.s 1 ∧ t.s 1 ≤ 999 ∧ 1 ≤ t.s 2 ∧ t.s 2 ≤ 9999 ∧ t.s 3 ≤ t.s 2 ∧ t.s 5 ≤ 9999 ∧ t.s 6 ≤ 99 ∧ t.s 7 ≤ 9999 ∧ t.s 8 ≤ 99 := h.2.2.1.1
theorem lk_gb (h : LKR t d) (j : Nat) (hj : j < t.s 9) : GB (t.r 1 j) (t.r 2 j) (t.r 3 j) (t.r 4 j) (t.r 5 j) := h.2.2.1.2.1 j hj
theorem lk_tb (h : LKR t d) (j : Nat) (hj : j < t.s 10) : HB_ (t.r 11 j) (t.r 12 j) (t.r 13 j) (t.r 14 j) (t.r 15 j) := h.2.2.1.2.2.1 j hj
theorem lk_kb (h : LKR t d) (j : Nat) (hj : j < t.s 11) : t.r 16 j ≤ 1 := h.2.2.1.2.2.2 j hj
theorem lk_wf (h : LKR t d) (j : Nat) (hj : j < t.s 11) : WFR t j := h.2.2.2.1 j hj
theorem lk_j (h : LKR t d) (j : Nat) (hj : j < t.s 9) : d.2 6 j = jn (t.r 6 j) ∧ t.r 6 j ≤ t.s 9 ∧ ¬ t.r 6 j = j + 1 := ⟨(h.2.1.2.2.1 j hj).2.2.2.2.2.1, h.2.2.2.2 j hj⟩
theorem lk_ja (h : LKR t d) {q : Nat} : 0 < t.s 4 → ¬ t.r 6 (t.r 8 (q % t.s 4)) = t.r 8 (q % t.s 4) + 1 := fun h0 => (h.2.2.2.2 _ ((h.2.1.2.2.2.1 _ (Nat.mod_lt _ h0)).2)).2
theorem lk_g1 (h : LKR t d) : XW (t.s 9) (d.2 1) (t.r 1) := fun j hj => (h.2.1.2.2.1 j hj).1
theorem lk_g2 (h : LKR t d) (j : Nat) (hj : j < t.s 9) (hk : ¬ t.r 1 j = 0) : d.2 2 j = nI (t.r 2 j) := (h.2.1.2.2.1 j hj).2.1 hk
theorem lk_g3 (h : LKR t d) (j : Nat) (hj : j < t.s 9) (hk : t.r 1 j = 3) : d.2 3 j = nI (t.r 3 j) := (h.2.1.2.2.1 j hj).2.2.1 hk
theorem lk_g4 (h : LKR t d) : XW (t.s 9) (d.2 4) (t.r 4) := fun j hj => (h.2.1.2.2.1 j hj).2.2.2.1
theorem lk_g5 (h : LKR t d) : XW (t.s 9) (d.2 5) (t.r 5) := fun j hj => (h.2.1.2.2.1 j hj).2.2.2.2.1
theorem lk_v (h : LKR t d) : XW (t.s 4) (d.2 8) (t.r 8) := fun j hj => (h.2.1.2.2.2.1 j hj).1
theorem lk_vb (h : LKR t d) (j : Nat) (hj : j < t.s 4) : t.r 8 j < t.s 9 := (h.2.1.2.2.2.1 j hj).2
theorem lk_t (h : LKR t d) (i : Nat) (h1 : 9 ≤ i) (h2 : i < 16) : XW (t.s 10) (d.2 i) (t.r i) := fun j hj => (h.2.1.2.2.2.2.1 j hj).1 i h1 h2
theorem lk_tv (h : LKR t d) (j : Nat) (hj : j < t.s 10) : t.r 9 j < t.s 4 := (h.2.1.2.2.2.2.1 j hj).2.1
theorem lk_tg (h : LKR t d) (j : Nat) (hj : j < t.s 10) : t.r 10 j < t.s 9 := (h.2.1.2.2.2.2.1 j hj).2.2
theorem lk_r (h : LKR t d) (i : Nat) (h1 : 16 ≤ i) (h2 : i < 20) : XW (t.s 11) (d.2 i) (t.r i) := fun j hj => h.2.1.2.2.2.2.2 j hj i h1 h2
theorem lk_c (h : LKR t d) : d.1 12 = nI t.cs.length ∧ t.cs.length ≤ 1600 ∧ ∀ j, j < t.cs.length → d.2 20 j = clsE (t.cs.getD j 0) := h.1.2.2
end LKRS
