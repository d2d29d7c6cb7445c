theorem nd_app {a b : List Nat} (ha : va_nd a = true) (hb : va_nd b = true) (hd : ∀ i ∈ b, i ∉ a) : va_nd (a ++ b) = true := by
  induction a with
  | nil => exact hb
  | cons x a ih =>
    simp only [va_nd, Bool.and_eq_true, decide_eq_true_eq, List.cons_append] at ha ⊢
    refine ⟨?_, ih ha.2 (fun i hi h => hd i hi (List.mem_cons_of_mem _ h))⟩
    intro h
    rcases List.mem_append.mp h with q | q
    · exact ha.1 q
    · exact hd x q List.mem_cons_self
theorem nd_of {l : List Nat} (h : l.Nodup) : va_nd l = true := by
  induction l with
  | nil => rfl
  | cons x a ih =>
    simp only [va_nd, Bool.and_eq_true, decide_eq_true_eq]
    exact ⟨(List.nodup_cons.mp h).1, ih (List.nodup_cons.mp h).2⟩
theorem rng_sub (w : va_W) : (List.range w.length).map (fun i => w[i]?) = w.map some := by
  apply List.ext_getElem
  · simp
  · intro i h1 h2
    simp only [List.getElem_map, List.getElem_range]
    exact List.getElem?_eq_getElem (by simpa using h2)
theorem perm_4 (a b f g : va_W) : ((a ++ b) ++ (f ++ g)).Perm ((a ++ f) ++ (b ++ g)) := by
  simp only [List.append_assoc]
  refine List.Perm.append_left a ?_
  rw [← List.append_assoc, ← List.append_assoc]
  exact List.Perm.append_right g List.perm_append_comm
theorem perm_5 (a f w g : va_W) : (([] ++ (a ++ f)) ++ (w ++ g)).Perm ((w ++ a) ++ (f ++ g)) := by
  rw [List.nil_append]
  exact (perm_4 a f w g).trans (List.Perm.append_right _ List.perm_append_comm)
section JF
variable {p : Program} {l : Launch} {e : Env} {R : Room} {s : State} {m : MethodId} {args : Array Value} {below : List Frame} {meth : Method} {c : Code} {Q : State → Prop} {D : va_G} {y : Nat → ClassId} {A : Nat → Prop} {cc : ByteArray} {nL : Nat} {own nm : String} {ws : va_W} {lv : List (Nat × Value)} {kc ks pc : Nat} {st : List Value}
variable {f : MethodName} {b : ByteArray} {mL n idx : Nat} {ret : Option FieldType} {rm : Room} {As rest : List Value} {wc wr X T : va_W} {Qf : Nat → Array Value → State → Outcome → State → Prop}
theorem j_callViF {Gx : va_W} (C : Cx p s m args meth c D y A cc nL own nm) {S : Type} {post : Int32 → S → Prop} {ws' : S → va_W} {T' : S → va_W} {rt : FieldType} {a : Nat} (hM : CT l D y f b mL (some rt) rm (.ref a :: As) (wc ++ T) (QI D (wc ++ T) post (fun u => ws' u ++ T' u))) (K : KW own idx f b mL (some rt) n) (K2 : Cond.instanceMethod f ∈ TB ∧ Cond.selects f.cls f f ∈ TB) (q0 ci : Nat) {fs : List Value} {U : u_T} {N : Nat} (he : (wc ++ T)[q0]? = some (a, .inr (ci, fs))) (hc : classes[ci]? = some (f.cls, U, N)) (hR : rm.frames + 1 ≤ R.frames ∧ 8 + (mL + 11) + rm.locals ≤ R.locals) (hf : kc + rm.cells ≤ R.cells ∧ ks + rm.slots ≤ R.slots) (isC isR : List Nat) (hC : isC.map (fun i => X[i]?) = wc.map some) (hW : isR.map (fun i => X[i]?) = wr.map some) (hnC : va_nd isC = true) (hnR : va_nd isR = true) (hdis : ∀ i ∈ isR, i ∉ isC) (hn : As.length = n) (hs : (rest.map fun v => v.category).sum ≤ 8) (hst : st = As.reverse ++ .ref a :: rest) (d : decode cc pc = .ok (.invokevirtual idx, 3)) (kk : ∀ (r : Int32) (u : S), post r u → J p l e R s m args below meth c Q D A nL ((wr ++ ws' u) ++ (T' u ++ Gx)) lv (kc + rm.cells) (ks + rm.slots) (pc + 3) (.int r :: rest)) : J p l e R s m args below meth c Q D A nL (X ++ (T ++ Gx)) lv kc ks pc st := by
  refine j_subT (X' := wc ++ wr) (isC ++ isR) (by rw [List.map_append, hC, hW, List.map_append]) (nd_app hnC hnR hdis) ?_
  refine j_perm (perm_4 wc wr T Gx) ?_
  refine j_callViT (X := wc ++ T) (T := wr ++ Gx) (wr := []) C hM K K2 q0 ci he hc hR hf (List.range (wc ++ T).length) [] (rng_sub _) rfl (nd_of List.nodup_range) rfl (by simp) hn hs hst d (fun r u h => ?_)
  exact j_perm (perm_5 _ _ _ _) (kk r u h)
theorem j_comm {Fa Fb : va_W} (kk : J p l e R s m args below meth c Q D A nL (X ++ (Fb ++ Fa)) lv kc ks pc st) : J p l e R s m args below meth c Q D A nL (X ++ (Fa ++ Fb)) lv kc ks pc st := j_perm (List.Perm.append_left _ List.perm_append_comm) kk
end JF
theorem st0_dy {d w l : Nat} {b : Nat → Nat} : ST_.dy (st0T d w l b) = d := rfl
theorem st0_wa {d w l : Nat} {b : Nat → Nat} : ST_.wa (st0T d w l b) = w := rfl
theorem st0_la {d w l : Nat} {b : Nat → Nat} : ST_.la (st0T d w l b) = l := rfl
abbrev ZC : Type := (Nat → Nat) × (Nat → Nat) × Int32 × Nat × (Nat → Nat) × Int32 × (Nat → Int32) × (Nat → Int32) × (Nat → Int32) × (Nat → Int64) × (Nat → Int32) × (Nat → Int32) × (Nat → Int32) × (Nat → Int64) × Int32 × Int32 × Int32 × (Nat → Int32) × (Nat → Int32) × (Nat → Int64) × (Nat → Int32) × (Nat → Int32) × (Nat → Int32) × (Nat → Int64) × Nat × Nat × LD × (Nat → Int32) × LD × (Nat → Int32) × Int32 × Int32 × Nat × Int32 × Int32 × Int32 × Int64 × Int32 × Int32 × Int32 × (Nat → Int64) × Nat × Int32 × Int32 × (Nat → SD) × (Nat → PB) × ST_ × (Nat → ST_)
abbrev ZC.A (z : ZC) : Nat → Nat := z.1
abbrev ZC.E (z : ZC) : Nat → Nat := z.2.1
abbrev ZC.dr (z : ZC) : Int32 := z.2.2.1
abbrev ZC.k (z : ZC) : Nat := z.2.2.2.1
abbrev ZC.tx (z : ZC) : Nat → Nat := z.2.2.2.2.1
abbrev ZC.pn (z : ZC) : Int32 := z.2.2.2.2.2.1
abbrev ZC.pf (z : ZC) : Nat → Int32 := z.2.2.2.2.2.2.1
abbrev ZC.f0 (z : ZC) : Nat → Int32 := z.2.2.2.2.2.2.2.1
abbrev ZC.f1 (z : ZC) : Nat → Int32 := z.2.2.2.2.2.2.2.2.1
abbrev ZC.f2 (z : ZC) : Nat → Int64 := z.2.2.2.2.2.2.2.2.2.1
abbrev ZC.f3 (z : ZC) : Nat → Int32 := z.2.2.2.2.2.2.2.2.2.2.1
abbrev ZC.f4 (z : ZC) : Nat → Int32 := z.2.2.2.2.2.2.2.2.2.2.2.1
abbrev ZC.f5 (z : ZC) : Nat → Int32 := z.2.2.2.2.2.2.2.2.2.2.2.2.1
abbrev ZC.f6 (z : ZC) : Nat → Int64 := z.2.2.2.2.2.2.2.2.2.2.2.2.2.1
abbrev ZC.ed (z : ZC) : Int32 := z.2.2.2.2.2.2.2.2.2.2.2.2.2.2.1
abbrev ZC.ew (z : ZC) : Int32 := z.2.2.2.2.2.2.2.2.2.2.2.2.2.2.2.1
abbrev ZC.el (z : ZC) : Int32 := z.2.2.2.2.2.2.2.2.2.2.2.2.2.2.2.2.1
abbrev ZC.e0 (z : ZC) : Nat → Int32 := z.2.2.2.2.2.2.2.2.2.2.2.2.2.2.2.2.2.1
abbrev ZC.e1 (z : ZC) : Nat → Int32 := z.2.2.2.2.2.2.2.2.2.2.2.2.2.2.2.2.2.2.1
abbrev ZC.e2 (z : ZC) : Nat → Int64 := z.2.2.2.2.2.2.2.2.2.2.2.2.2.2.2.2.2.2.2.1
abbrev ZC.e3 (z : ZC) : Nat → Int32 := z.2.2.2.2.2.2.2.2.2.2.2.2.2.2.2.2.2.2.2.2.1
abbrev ZC.e4 (z : ZC) : Nat → Int32 := z.2.2.2.2.2.2.2.2.2.2.2.2.2.2.2.2.2.2.2.2.2.1
abbrev ZC.e5 (z : ZC) : Nat → Int32 := z.2.2.2.2.2.2.2.2.2.2.2.2.2.2.2.2.2.2.2.2.2.2.1
abbrev ZC.e6 (z : ZC) : Nat → Int64 := z.2.2.2.2.2.2.2.2.2.2.2.2.2.2.2.2.2.2.2.2.2.2.2.1
abbrev ZC.cn (z : ZC) : Nat := z.2.2.2.2.2.2.2.2.2.2.2.2.2.2.2.2.2.2.2.2.2.2.2.2.1
abbrev ZC.ix (z : ZC) : Nat := z.2.2.2.2.2.2.2.2.2.2.2.2.2.2.2.2.2.2.2.2.2.2.2.2.2.1
abbrev ZC.d1 (z : ZC) : LD := z.2.2.2.2.2.2.2.2.2.2.2.2.2.2.2.2.2.2.2.2.2.2.2.2.2.2.1
abbrev ZC.v1 (z : ZC) : Nat → Int32 := z.2.2.2.2.2.2.2.2.2.2.2.2.2.2.2.2.2.2.2.2.2.2.2.2.2.2.2.1
abbrev ZC.d2 (z : ZC) : LD := z.2.2.2.2.2.2.2.2.2.2.2.2.2.2.2.2.2.2.2.2.2.2.2.2.2.2.2.2.1
abbrev ZC.v2 (z : ZC) : Nat → Int32 := z.2.2.2.2.2.2.2.2.2.2.2.2.2.2.2.2.2.2.2.2.2.2.2.2.2.2.2.2.2.1
abbrev ZC.fa (z : ZC) : Int32 := z.2.2.2.2.2.2.2.2.2.2.2.2.2.2.2.2.2.2.2.2.2.2.2.2.2.2.2.2.2.2.1
abbrev ZC.rpl (z : ZC) : Int32 := z.2.2.2.2.2.2.2.2.2.2.2.2.2.2.2.2.2.2.2.2.2.2.2.2.2.2.2.2.2.2.2.1
abbrev ZC.lk (z : ZC) : Nat := z.2.2.2.2.2.2.2.2.2.2.2.2.2.2.2.2.2.2.2.2.2.2.2.2.2.2.2.2.2.2.2.2.1
abbrev ZC.a0 (z : ZC) : Int32 := z.2.2.2.2.2.2.2.2.2.2.2.2.2.2.2.2.2.2.2.2.2.2.2.2.2.2.2.2.2.2.2.2.2.1
abbrev ZC.so (z : ZC) : Int32 := z.2.2.2.2.2.2.2.2.2.2.2.2.2.2.2.2.2.2.2.2.2.2.2.2.2.2.2.2.2.2.2.2.2.2.1
abbrev ZC.b0 (z : ZC) : Int32 := z.2.2.2.2.2.2.2.2.2.2.2.2.2.2.2.2.2.2.2.2.2.2.2.2.2.2.2.2.2.2.2.2.2.2.2.1
abbrev ZC.le (z : ZC) : Int64 := z.2.2.2.2.2.2.2.2.2.2.2.2.2.2.2.2.2.2.2.2.2.2.2.2.2.2.2.2.2.2.2.2.2.2.2.2.1
abbrev ZC.wo (z : ZC) : Int32 := z.2.2.2.2.2.2.2.2.2.2.2.2.2.2.2.2.2.2.2.2.2.2.2.2.2.2.2.2.2.2.2.2.2.2.2.2.2.1
abbrev ZC.nu (z : ZC) : Int32 := z.2.2.2.2.2.2.2.2.2.2.2.2.2.2.2.2.2.2.2.2.2.2.2.2.2.2.2.2.2.2.2.2.2.2.2.2.2.2.1
abbrev ZC.si (z : ZC) : Int32 := z.2.2.2.2.2.2.2.2.2.2.2.2.2.2.2.2.2.2.2.2.2.2.2.2.2.2.2.2.2.2.2.2.2.2.2.2.2.2.2.1
abbrev ZC.ww (z : ZC) : Nat → Int64 := z.2.2.2.2.2.2.2.2.2.2.2.2.2.2.2.2.2.2.2.2.2.2.2.2.2.2.2.2.2.2.2.2.2.2.2.2.2.2.2.2.1
abbrev ZC.pk (z : ZC) : Nat := z.2.2.2.2.2.2.2.2.2.2.2.2.2.2.2.2.2.2.2.2.2.2.2.2.2.2.2.2.2.2.2.2.2.2.2.2.2.2.2.2.2.1
abbrev ZC.dy (z : ZC) : Int32 := z.2.2.2.2.2.2.2.2.2.2.2.2.2.2.2.2.2.2.2.2.2.2.2.2.2.2.2.2.2.2.2.2.2.2.2.2.2.2.2.2.2.2.1
abbrev ZC.tg (z : ZC) : Int32 := z.2.2.2.2.2.2.2.2.2.2.2.2.2.2.2.2.2.2.2.2.2.2.2.2.2.2.2.2.2.2.2.2.2.2.2.2.2.2.2.2.2.2.2.1
abbrev ZC.dsp (z : ZC) : Nat → SD := z.2.2.2.2.2.2.2.2.2.2.2.2.2.2.2.2.2.2.2.2.2.2.2.2.2.2.2.2.2.2.2.2.2.2.2.2.2.2.2.2.2.2.2.2.1
abbrev ZC.pdq (z : ZC) : Nat → PB := z.2.2.2.2.2.2.2.2.2.2.2.2.2.2.2.2.2.2.2.2.2.2.2.2.2.2.2.2.2.2.2.2.2.2.2.2.2.2.2.2.2.2.2.2.2.1
abbrev ZC.S (z : ZC) : ST_ := z.2.2.2.2.2.2.2.2.2.2.2.2.2.2.2.2.2.2.2.2.2.2.2.2.2.2.2.2.2.2.2.2.2.2.2.2.2.2.2.2.2.2.2.2.2.2.1
abbrev ZC.P (z : ZC) : Nat → ST_ := z.2.2.2.2.2.2.2.2.2.2.2.2.2.2.2.2.2.2.2.2.2.2.2.2.2.2.2.2.2.2.2.2.2.2.2.2.2.2.2.2.2.2.2.2.2.2.2
abbrev ZM : Type := Nat × Int64 × (Nat → Int32) × (Nat → Nat → Int32) × (Nat → Nat → Int64)
abbrev ZM.t78 (z : ZM) : Nat := z.1
abbrev ZM.i76 (z : ZM) : Int64 := z.2.1
abbrev ZM.Ii (z : ZM) : Nat → Int32 := z.2.2.1
abbrev ZM.G (z : ZM) : Nat → Nat → Int32 := z.2.2.2.1
abbrev ZM.Gl (z : ZM) : Nat → Nat → Int64 := z.2.2.2.2
def up2 {α : Type} (G : Nat → α) (n : Nat) (f : α) : Nat → α := fun k => cond (Nat.beq k n) f (G k)
def INVC (z : ZC) : Prop := z.k ≤ 1600 ∧ z.ix < 30 ∧ LI z.d1 ∧ LV z.d1 ∧ LI z.d2 ∧ (∀ j, z.tx j < 256) ∧ (∀ w, w < 33 → z.ww w = nL (pk5 (owf w))) ∧ z.cn ≤ 30 ∧ KREL z.dsp z.cn z.ix z.P ∧ XW 9 z.f0 (ST_.bd z.S) ∧ XW 9 z.f1 (ST_.fl z.S) ∧ XL 9 z.f2 (ST_.st z.S) ∧ XZ 6 z.f3 (ST_.wo z.S) ∧ XZ 6 z.f4 (ST_.ly z.S) ∧ XW 16 z.f5 (ST_.se z.S) ∧ XL 5 z.f6 (ST_.su z.S)
def INVM (w : ZM) : Prop := ∃ c0 c1 c2 c3 dy, LSl (w.G 43) (w.G 45) (w.G 46) (w.G 47) (w.G 48) (w.G 50) (w.G 56) (w.G 57) (w.G 58) c0 c1 c2 c3 ∧ (w.G 62 0 = nI dy ∧ dy ≤ 999) ∧ (∀ j, ∃ q, q < 3 ∧ (w.G 71) j = nI q) ∧ (∀ j, j < 7 → (w.G 72) j = nI (3 ^ j)) ∧ w.t78 ≤ 15
def REL (z : ZC) (w : ZM) : Prop := ∃ t : LA_, LKR t z.d1 ∧ SLA t (w.G 43) (w.G 45) (w.G 46) (w.G 47) (w.G 48) (w.G 55) (w.G 56) (w.G 57) (w.G 58) (w.G 50) (w.Gl 44) ∧ NW (w.G 62) 0 (ST_.dy z.S) (ST_.wa z.S) (ST_.la z.S) (ST_.bd z.S) (ST_.fl z.S) (ST_.st z.S) (ST_.wo z.S) (ST_.ly z.S) (ST_.se z.S) (ST_.su z.S) ∧ DREL (w.G 65) z.cn z.ix z.P ∧ BND t z.S ∧ ∀ i, i < z.cn → BND t (z.P i)
theorem hg_of {f : Nat → Int32} (h : GAl f) : ∀ j, j < 9 → f (54 + 6 * j + 5) = -1 ∨ ∃ q, q < 9 ∧ f (54 + 6 * j + 5) = nI q := by
  intro j hj
  have := (h (9 + j) (by omega)).1
  rw [show 6 * (9 + j) + 5 = 54 + 6 * j + 5 by omega] at this
  exact this
theorem hs_of {f : Nat → Int32} (h : GAl f) : ∀ j, j < 9 → f (54 + 6 * j) = 2 → ¬ f (54 + 6 * j + 1) = 0 := by
  intro j hj
  have := (h (9 + j) (by omega)).2
  rw [show 6 * (9 + j) = 54 + 6 * j by omega] at this
  exact this
theorem ho_of {f : Nat → Int32} (h : OAl f) : ∀ j, j < 6 → ∃ q, q < 9 ∧ f (6 + j) = nI q := fun j hj => h (6 + j) (by omega)
theorem hth_of {f : Nat → Int32} (h : TAl f) : ∀ j, j < 16 → (∃ q, q < 6 ∧ f (112 + 7 * j) = nI q) ∧ ∃ q, q < 9 ∧ f (112 + 7 * j + 1) = nI q := by
  intro j hj
  have := h (16 + j) (by omega)
  rw [show 7 * (16 + j) = 112 + 7 * j by omega] at this
  exact this
