/-! sums by a pile of what waits, against sums by depth -/
abbrev MX : Type := PS × List Nat × List Nat × Nat
def mkB (v : Nat) : Bool := decide (20 ≤ v ∧ v ≤ 24)
def nMk (v : Nat) : Bool := decide (v < 20 ∨ 24 < v)
def isMo (v : Nat) : Bool := decide (v = 3 ∨ v = 4)
def isAo (v : Nat) : Bool := decide (1 ≤ v ∧ v ≤ 4)
def drp (p : Nat → Bool) : List Nat → List Nat → List Nat × List Nat
  | [], cs => ([], cs)
  | v :: S, cs => if p v = true then drp p S (putS v cs) else (v :: S, cs)
def emt : List Nat → List Nat → List Nat
  | [], cs => cs
  | v :: P, cs => emt P (putS v cs)
def mkf : List Nat → Nat
  | [] => 0
  | v :: S => if mkB v = true then v else mkf S
theorem drp_app {p : Nat → Bool} {P : List Nat} (h : ∀ v ∈ P, p v = true) (C cs : List Nat) : drp p (P ++ C) cs = drp p C (emt P cs) := by
  induction P generalizing cs with
  | nil => rfl
  | cons a P ih =>
    have : drp p (a :: (P ++ C)) cs = drp p (P ++ C) (putS a cs) := if_pos (h a List.mem_cons_self)
    rw [List.cons_append, this, ih (fun v hv => h v (List.mem_cons_of_mem _ hv))]
    rfl
theorem drp_stop {p : Nat → Bool} {C : List Nat} (h : ∀ v, C.head? = some v → ¬ p v = true) (cs : List Nat) : drp p C cs = (C, cs) := by
  cases C with
  | nil => rfl
  | cons a C => exact if_neg (h a rfl)
theorem emt_app (P Q cs : List Nat) : emt (P ++ Q) cs = emt Q (emt P cs) := by
  induction P generalizing cs with
  | nil => rfl
  | cons a P ih => exact ih _
theorem mkf_app {P : List Nat} (h : ∀ v ∈ P, isAo v = true) (C : List Nat) : mkf (P ++ C) = mkf C := by
  induction P with
  | nil => rfl
  | cons a P ih =>
    have ha := of_decide_eq_true (h a List.mem_cons_self)
    have : mkf (a :: (P ++ C)) = mkf (P ++ C) := if_neg (by
      unfold mkB
      rw [decide_eq_true_iff]
      omega)
    rw [List.cons_append, this, ih (fun v hv => h v (List.mem_cons_of_mem _ hv))]
section MA
variable (tx : Nat → Nat) (k : Nat)
def stepP (x : PS) (cs S : List Nat) (o : Nat) : Nat × MX :=
  if ¬ x.1 = 0 then (2, (x, cs, S, o))
  else if issS tx k 40 x = true then (if o = 6 then (2, (failS 4 (stS tx k x) x, cs, S, o)) else (0, (advS tx k x, cs, 20 :: S, o + 1)))
  else if iswS tx k 31 x = true ∨ iswS tx k 32 x = true then
    (if issS tx k 40 (advS tx k x) = true then (if o = 6 then (2, (failS 4 (stS tx k (advS tx k x)) (advS tx k x), cs, S, o)) else (0, (advS tx k (advS tx k x), cs, (if iswS tx k 31 x = true then 21 else 22) :: S, o + 1)))
      else (2, (failS 1 (stS tx k (advS tx k x)) (advS tx k x), cs, S, o)))
  else if iswS tx k 28 x = true then (1, (advS tx k x, putS 7 cs, S, o))
  else if iswS tx k 29 x = true then (1, (advS tx k x, putS 8 cs, S, o))
  else if iswS tx k 30 x = true then (1, (advS tx k x, putS 9 cs, S, o))
  else (1, (rnS tx k 0 9999 x, putS (1000 + rnV tx k 0 9999 x) cs, S, o))
def stepA (x : PS) (cs S : List Nat) (o : Nat) : Nat × MX :=
  if ¬ x.1 = 0 then (2, (x, cs, S, o))
  else if issS tx k 41 x = true ∧ (mkf S = 20 ∨ mkf S = 23 ∨ mkf S = 24) then
    (1, (advS tx k x, (if mkf S = 20 then (drp nMk S cs).2 else putS (if mkf S = 23 then 5 else 6) (drp nMk S cs).2), (drp nMk S cs).1.tail, o - 1))
  else if issS tx k 42 x = true ∨ issS tx k 47 x = true then (0, (advS tx k x, (drp isMo S cs).2, (if issS tx k 42 x = true then 3 else 4) :: (drp isMo S cs).1, o))
  else if issS tx k 43 x = true ∨ issS tx k 45 x = true then (0, (advS tx k x, (drp isAo S cs).2, (if issS tx k 43 x = true then 1 else 2) :: (drp isAo S cs).1, o))
  else if mkf S = 21 ∨ mkf S = 22 then (if issS tx k 44 x = true then (0, (advS tx k x, (drp nMk S cs).2, (mkf S + 2) :: (drp nMk S cs).1.tail, o)) else (2, (failS 1 (stS tx k x) x, cs, S, o)))
  else if mkf S = 0 then (2, (x, cs, S, o))
  else (2, (failS 1 (stS tx k x) x, cs, S, o))
def stepM (c : Nat × MX) : Nat × MX := if c.1 = 0 then stepP tx k c.2.1 c.2.2.1 c.2.2.2.1 c.2.2.2.2 else if c.1 = 1 then stepA tx k c.2.1 c.2.2.1 c.2.2.2.1 c.2.2.2.2 else c
def itM : Nat → Nat × MX → Nat × MX
  | 0, c => c
  | n + 1, c => itM n (stepM tx k c)
end MA
section MAL
variable {tx : Nat → Nat} {k : Nat}
theorem itM_add (m n : Nat) (c : Nat × MX) : itM tx k (m + n) c = itM tx k n (itM tx k m c) := by
  induction m generalizing c with
  | zero => rw [Nat.zero_add]; rfl
  | succ m ih =>
    rw [Nat.succ_add]
    exact ih _
def Rch (tx : Nat → Nat) (k : Nat) (c d : Nat × MX) : Prop := ∃ n, itM tx k n c = d
theorem Rch.rf (c : Nat × MX) : Rch tx k c c := ⟨0, rfl⟩
theorem Rch.tr {a b c : Nat × MX} (h : Rch tx k a b) (g : Rch tx k b c) : Rch tx k a c := by
  obtain ⟨m, rfl⟩ := h
  obtain ⟨n, rfl⟩ := g
  exact ⟨m + n, itM_add m n a⟩
theorem Rch.st {a b c : Nat × MX} (h : stepM tx k a = b) (g : Rch tx k b c) : Rch tx k a c := by
  obtain ⟨n, rfl⟩ := g
  exact ⟨n + 1, by rw [← h]; rfl⟩
theorem itM_2 (n : Nat) {c : Nat × MX} (h : c.1 = 2) : itM tx k n c = c := by
  induction n with
  | zero => rfl
  | succ n ih =>
    have : stepM tx k c = c := by
      unfold stepM
      rw [if_neg (by omega), if_neg (by omega)]
    show itM tx k n (stepM tx k c) = c
    rw [this, ih]
/-- what is reached and stands still is one -/
theorem Rch.un {a b c : Nat × MX} (h : Rch tx k a b) (g : Rch tx k a c) (hb : b.1 = 2) (hc : c.1 = 2) : b = c := by
  obtain ⟨m, hm⟩ := h
  obtain ⟨n, hn⟩ := g
  have e1 : itM tx k (m + n) a = b := by rw [itM_add, hm, itM_2 n hb]
  have e2 : itM tx k (m + n) a = c := by rw [Nat.add_comm, itM_add, hn, itM_2 m hc]
  exact e1.symm.trans e2
/-! one thing stands next -/
theorem iss_w {c w : Nat} {x : PS} (h : issS tx k c x = true) : ¬ iswS tx k w x = true := by
  intro g
  have a := (of_decide_eq_true h).1
  have b := (of_decide_eq_true g).1
  omega
theorem iss_n {c : Nat} {x : PS} (h : issS tx k c x = true) : ¬ isnS tx k x = true := by
  intro g
  have a := (of_decide_eq_true h).1
  have b := of_decide_eq_true g
  omega
theorem isw_n {w : Nat} {x : PS} (h : iswS tx k w x = true) : ¬ isnS tx k x = true := by
  intro g
  have a := (of_decide_eq_true h).1
  have b := of_decide_eq_true g
  omega
theorem iss_c {c d : Nat} {x : PS} (h : issS tx k c x = true) (hd : ¬ c = d) : ¬ issS tx k d x = true := by
  intro g
  exact hd ((of_decide_eq_true h).2.symm.trans (of_decide_eq_true g).2)
theorem isw_w {v w : Nat} {x : PS} (h : iswS tx k v x = true) (hv : v < 33) (hw : w < 33) (hd : ¬ v = w) : ¬ iswS tx k w x = true := by
  intro g
  exact hd (ow_inj hv hw ((of_decide_eq_true h).2.symm.trans (of_decide_eq_true g).2))
theorem sr_al {x : PS} (h : ¬ srS tx k x = 0) : x.1 = 0 := by
  by_cases e : x.1 = 0
  · exact e
  · exact absurd (if_neg e) h
theorem iss_al {c : Nat} {x : PS} (h : issS tx k c x = true) : x.1 = 0 := sr_al (tx := tx) (k := k) (by have q : srS tx k x = 3 ∧ tx (stS tx k x) = c := of_decide_eq_true h; omega)
theorem isw_al {c : Nat} {x : PS} (h : iswS tx k c x = true) : x.1 = 0 := sr_al (tx := tx) (k := k) (by have q : srS tx k x = 1 ∧ tlS tx k x = owf c := of_decide_eq_true h; have := q.1; omega)
theorem isn_al {x : PS} (h : isnS tx k x = true) : x.1 = 0 := sr_al (tx := tx) (k := k) (by have q : srS tx k x = 2 := of_decide_eq_true h; omega)
/-! places -/
theorem adv_ok {x : PS} (h : x.1 = 0) : (advS tx k x).1 = 0 := by
  unfold advS
  rw [if_pos h]
theorem adv_pos {x : PS} (h : x.1 = 0) (hs : ¬ srS tx k x = 0) (hk : x.2.2.1 ≤ k) : x.2.2.1 < (advS tx k x).2.2.1 ∧ (advS tx k x).2.2.1 ≤ k := by
  have e : advS tx k x = (0, 0, enS tx k x, tgl tx k x.2.2.1 x.2.2.2) := if_pos h
  have s : srS tx k x = tsr tx k x.2.2.1 x.2.2.2 := if_pos h
  rw [e]
  refine ⟨?_, ten_le _ _ hk⟩
  have a := tq_ge (tx := tx) (k := k) x.2.2.1
  show x.2.2.1 < ten tx k x.2.2.1 x.2.2.2
  unfold ten
  rw [if_neg (by rw [← s]; exact hs)]
  split
  · omega
  · have := sq_ge (fun i => decide (srt (tx i) = tsr tx k x.2.2.1 x.2.2.2)) k (tq tx k x.2.2.1 + 1)
    omega
theorem rn_ok {lo hi : Nat} {x : PS} (h : (rnS tx k lo hi x).1 = 0) : isnS tx k x = true ∧ rnS tx k lo hi x = advS tx k x := by
  by_cases a : isnS tx k x = true
  · by_cases b : 4 < enS tx k x - stS tx k x
    · rw [rnS_l a b] at h
      exact absurd h (fail_nz (by decide))
    · by_cases c : tvS tx k x < lo ∨ hi < tvS tx k x
      · rw [rnS_o a b c] at h
        exact absurd h (fail_nz (by decide))
      · exact ⟨a, rnS_k a b c⟩
  · rw [rnS_n a] at h
    exact absurd h (fail_nz (by decide))
theorem rs_ok {c : Nat} {x : PS} (h : (rsS tx k c x).1 = 0) : issS tx k c x = true ∧ rsS tx k c x = advS tx k x := by
  by_cases a : issS tx k c x = true
  · exact ⟨a, if_pos a⟩
  · rw [show rsS tx k c x = failS 1 (stS tx k x) x from if_neg a] at h
    exact absurd h (fail_nz (by decide))
end MAL
section MAS
variable {tx : Nat → Nat} {k : Nat} {x : PS} {cs S : List Nat} {o : Nat}
theorem nn {p : Prop} (h : p) : ¬ ¬ p := fun q => q h
theorem stP (x : PS) (cs S : List Nat) (o : Nat) : stepM tx k (0, (x, cs, S, o)) = stepP tx k x cs S o := rfl
theorem stA (x : PS) (cs S : List Nat) (o : Nat) : stepM tx k (1, (x, cs, S, o)) = stepA tx k x cs S o := rfl
theorem sP_num (n : isnS tx k x = true) : stepP tx k x cs S o = (1, (rnS tx k 0 9999 x, putS (1000 + rnV tx k 0 9999 x) cs, S, o)) := by
  unfold stepP
  rw [if_neg (nn (isn_al n)), if_neg (fun g => iss_n g n), if_neg (fun g => g.elim (fun g => isw_n g n) (fun g => isw_n g n)), if_neg (fun g => isw_n g n), if_neg (fun g => isw_n g n), if_neg (fun g => isw_n g n)]
theorem sP_28 (n : iswS tx k 28 x = true) : stepP tx k x cs S o = (1, (advS tx k x, putS 7 cs, S, o)) := by
  unfold stepP
  rw [if_neg (nn (isw_al n)), if_neg (fun g => iss_w g n), if_neg (fun g => g.elim (fun g => isw_w g (by decide) (by decide) (by decide) n) (fun g => isw_w g (by decide) (by decide) (by decide) n)), if_pos n]
theorem sP_29 (n : iswS tx k 29 x = true) : stepP tx k x cs S o = (1, (advS tx k x, putS 8 cs, S, o)) := by
  unfold stepP
  rw [if_neg (nn (isw_al n)), if_neg (fun g => iss_w g n), if_neg (fun g => g.elim (fun g => isw_w g (by decide) (by decide) (by decide) n) (fun g => isw_w g (by decide) (by decide) (by decide) n)), if_neg (fun g => isw_w g (by decide) (by decide) (by decide) n), if_pos n]
theorem sP_30 (n : iswS tx k 30 x = true) : stepP tx k x cs S o = (1, (advS tx k x, putS 9 cs, S, o)) := by
  unfold stepP
  rw [if_neg (nn (isw_al n)), if_neg (fun g => iss_w g n), if_neg (fun g => g.elim (fun g => isw_w g (by decide) (by decide) (by decide) n) (fun g => isw_w g (by decide) (by decide) (by decide) n)), if_neg (fun g => isw_w g (by decide) (by decide) (by decide) n), if_neg (fun g => isw_w g (by decide) (by decide) (by decide) n), if_pos n]
theorem sP_40 (n : issS tx k 40 x = true) : stepP tx k x cs S o = if o = 6 then (2, (failS 4 (stS tx k x) x, cs, S, o)) else (0, (advS tx k x, cs, 20 :: S, o + 1)) := by
  unfold stepP
  rw [if_neg (nn (iss_al n)), if_pos n]
theorem sP_mm (n : iswS tx k 31 x = true ∨ iswS tx k 32 x = true) : stepP tx k x cs S o = if issS tx k 40 (advS tx k x) = true then (if o = 6 then (2, (failS 4 (stS tx k (advS tx k x)) (advS tx k x), cs, S, o)) else (0, (advS tx k (advS tx k x), cs, (if iswS tx k 31 x = true then 21 else 22) :: S, o + 1))) else (2, (failS 1 (stS tx k (advS tx k x)) (advS tx k x), cs, S, o)) := by
  have a : x.1 = 0 := n.elim isw_al isw_al
  unfold stepP
  rw [if_neg (nn a), if_neg (fun g => n.elim (iss_w g) (iss_w g)), if_pos n]
theorem sP_no (h0 : x.1 = 0) (h1 : ¬ isnS tx k x = true) (h2 : ¬ iswS tx k 28 x = true) (h3 : ¬ iswS tx k 29 x = true) (h4 : ¬ iswS tx k 30 x = true) (h5 : ¬ iswS tx k 31 x = true) (h6 : ¬ iswS tx k 32 x = true) (h7 : ¬ issS tx k 40 x = true) : stepP tx k x cs S o = (1, (failS 1 (stS tx k x) x, putS (1000 + rnV tx k 0 9999 x) cs, S, o)) := by
  unfold stepP
  rw [if_neg (nn h0), if_neg h7, if_neg (fun g => g.elim h5 h6), if_neg h2, if_neg h3, if_neg h4, rnS_n h1]
theorem sA_d (h : ¬ x.1 = 0) : stepA tx k x cs S o = (2, (x, cs, S, o)) := if_pos h
theorem sA_41 (n : issS tx k 41 x = true) (h : mkf S = 20 ∨ mkf S = 23 ∨ mkf S = 24) : stepA tx k x cs S o = (1, (advS tx k x, (if mkf S = 20 then (drp nMk S cs).2 else putS (if mkf S = 23 then 5 else 6) (drp nMk S cs).2), (drp nMk S cs).1.tail, o - 1)) := by
  unfold stepA
  rw [if_neg (nn (iss_al n)), if_pos ⟨n, h⟩]
theorem sA_M (n : issS tx k 42 x = true ∨ issS tx k 47 x = true) : stepA tx k x cs S o = (0, (advS tx k x, (drp isMo S cs).2, (if issS tx k 42 x = true then 3 else 4) :: (drp isMo S cs).1, o)) := by
  have a : x.1 = 0 := n.elim iss_al iss_al
  unfold stepA
  rw [if_neg (nn a), if_neg (fun g => n.elim (iss_c g.1 (by decide)) (iss_c g.1 (by decide))), if_pos n]
theorem sA_A (n : issS tx k 43 x = true ∨ issS tx k 45 x = true) : stepA tx k x cs S o = (0, (advS tx k x, (drp isAo S cs).2, (if issS tx k 43 x = true then 1 else 2) :: (drp isAo S cs).1, o)) := by
  have a : x.1 = 0 := n.elim iss_al iss_al
  unfold stepA
  rw [if_neg (nn a), if_neg (fun g => n.elim (iss_c g.1 (by decide)) (iss_c g.1 (by decide))), if_neg (fun g => n.elim (fun z => g.elim (iss_c z (by decide)) (iss_c z (by decide))) (fun z => g.elim (iss_c z (by decide)) (iss_c z (by decide)))), if_pos n]
theorem opM_z (h : opM tx k x = 0) : ¬ (issS tx k 42 x = true ∨ issS tx k 47 x = true) := by
  intro g
  unfold opM at h
  split at h
  · omega
  · split at h
    · omega
    · rename_i a b
      exact g.elim a b
theorem opA_z (h : opA tx k x = 0) : ¬ (issS tx k 43 x = true ∨ issS tx k 45 x = true) := by
  intro g
  unfold opA at h
  split at h
  · omega
  · split at h
    · omega
    · rename_i a b
      exact g.elim a b
theorem sA_44 (h0 : x.1 = 0) (hm : opM tx k x = 0) (ha : opA tx k x = 0) (h : mkf S = 21 ∨ mkf S = 22) : stepA tx k x cs S o = if issS tx k 44 x = true then (0, (advS tx k x, (drp nMk S cs).2, (mkf S + 2) :: (drp nMk S cs).1.tail, o)) else (2, (failS 1 (stS tx k x) x, cs, S, o)) := by
  unfold stepA
  rw [if_neg (nn h0), if_neg (fun g => by have := g.2; omega), if_neg (opM_z hm), if_neg (opA_z ha), if_pos h]
theorem sA_no (h0 : x.1 = 0) (hm : opM tx k x = 0) (ha : opA tx k x = 0) (n : ¬ issS tx k 41 x = true) (h : mkf S = 20 ∨ mkf S = 23 ∨ mkf S = 24) : stepA tx k x cs S o = (2, (failS 1 (stS tx k x) x, cs, S, o)) := by
  unfold stepA
  rw [if_neg (nn h0), if_neg (fun g => n g.1), if_neg (opM_z hm), if_neg (opA_z ha), if_neg (by omega), if_neg (by omega)]
theorem sA_en (h0 : x.1 = 0) (hm : opM tx k x = 0) (ha : opA tx k x = 0) (h : mkf S = 0) : stepA tx k x cs S o = (2, (x, cs, S, o)) := by
  unfold stepA
  rw [if_neg (nn h0), if_neg (fun g => by have := g.2; omega), if_neg (opM_z hm), if_neg (opA_z ha), if_neg (by omega), if_pos h]
theorem rs_d {c : Nat} (h : ¬ x.1 = 0) : rsS tx k c x = x := by
  rw [show rsS tx k c x = failS 1 (stS tx k x) x from if_neg (fun g => h (iss_al g)), failS_d _ _ h]
theorem rn_d {lo hi : Nat} (h : ¬ x.1 = 0) : rnS tx k lo hi x = x := by
  rw [rnS_n (fun g => h (isn_al g)), failS_d _ _ h]
theorem rw_d {c : Nat} (h : ¬ x.1 = 0) : rwS tx k c x = x := by
  rw [show rwS tx k c x = failS 1 (stS tx k x) x from if_neg (fun g => h (isw_al g)), failS_d _ _ h]
theorem ao_mk {P : List Nat} (h : ∀ v ∈ P, isAo v = true) : ∀ v ∈ P, nMk v = true := fun v hv => by
  have := of_decide_eq_true (h v hv)
  exact decide_eq_true (by omega)
/-- what a mark's pile gives up -/
theorem drp_mk {P C : List Nat} {m : Nat} (h : ∀ v ∈ P, isAo v = true) (hm : 20 ≤ m ∧ m ≤ 24) (cs : List Nat) : drp nMk (P ++ m :: C) cs = (m :: C, emt P cs) ∧ mkf (P ++ m :: C) = m := by
  refine ⟨?_, ?_⟩
  · rw [drp_app (ao_mk h)]
    exact drp_stop (fun v hv => by
      have e : m = v := Option.some.inj hv
      rw [← e]
      unfold nMk
      rw [decide_eq_true_iff]
      omega) _
  · rw [mkf_app h]
    exact if_pos (decide_eq_true hm)
end MAS
/-! the one does what the other does -/
section MAT
variable {tx : Nat → Nat} {k : Nat}
/-- of a reading that is at fault already, nothing changes -/
def DOK (f : SX → SX) : Prop := ∀ x cs, ¬ x.1 = 0 → (f (x, cs)).1 = x
def POK (tx : Nat → Nat) (k : Nat) (f : SX → SX) (o : Nat) : Prop := ∀ x cs C, x.1 = 0 → x.2.2.1 ≤ k →
  ((f (x, cs)).1.1 = 0 → Rch tx k (0, (x, cs, C, o)) (1, ((f (x, cs)).1, (f (x, cs)).2, C, o)) ∧ x.2.2.1 < (f (x, cs)).1.2.2.1 ∧ (f (x, cs)).1.2.2.1 ≤ k) ∧
  (¬ (f (x, cs)).1.1 = 0 → ∃ cs' S' o', Rch tx k (0, (x, cs, C, o)) (2, ((f (x, cs)).1, cs', S', o')))
def SOK (tx : Nat → Nat) (k : Nat) (f : SX → SX) (o : Nat) : Prop := ∀ x cs C, x.1 = 0 → x.2.2.1 ≤ k → (∀ v, C.head? = some v → ¬ isAo v = true) →
  ((f (x, cs)).1.1 = 0 → ∃ cs' P, Rch tx k (0, (x, cs, C, o)) (1, ((f (x, cs)).1, cs', P ++ C, o)) ∧ (∀ v ∈ P, isAo v = true) ∧ (f (x, cs)).2 = emt P cs' ∧ opM tx k (f (x, cs)).1 = 0 ∧ opA tx k (f (x, cs)).1 = 0 ∧ x.2.2.1 < (f (x, cs)).1.2.2.1 ∧ (f (x, cs)).1.2.2.1 ≤ k) ∧
  (¬ (f (x, cs)).1.1 = 0 → ∃ cs' S' o', Rch tx k (0, (x, cs, C, o)) (2, ((f (x, cs)).1, cs', S', o')))
theorem mk_hd {m : Nat} {C : List Nat} (h : 20 ≤ m) : ∀ v, (m :: C).head? = some v → ¬ isAo v = true := fun v hv => by
  have e : m = v := Option.some.inj hv
  rw [← e]
  unfold isAo
  rw [decide_eq_true_iff]
  omega
theorem sw_ne {w : Nat} {x : PS} (h : iswS tx k w x = true) : ¬ srS tx k x = 0 := by
  have := (of_decide_eq_true h).1
  omega
theorem ss_ne {w : Nat} {x : PS} (h : issS tx k w x = true) : ¬ srS tx k x = 0 := by
  have := (of_decide_eq_true h).1
  omega
/-- behind what opens: the sum and its end -/
theorem par_ok {f : SX → SX} {o : Nat} (hS : SOK tx k f (o + 1)) {x : PS} {cs C : List Nat} (hx : x.1 = 0) (hp : x.2.2.1 ≤ k) {m : Nat} (hm : m = 20 ∨ m = 23 ∨ m = 24) :
    ((rsS tx k 41 (f (x, cs)).1).1 = 0 → Rch tx k (0, (x, cs, m :: C, o + 1)) (1, (rsS tx k 41 (f (x, cs)).1, (if m = 20 then (f (x, cs)).2 else putS (if m = 23 then 5 else 6) (f (x, cs)).2), C, o)) ∧ x.2.2.1 < (rsS tx k 41 (f (x, cs)).1).2.2.1 ∧ (rsS tx k 41 (f (x, cs)).1).2.2.1 ≤ k) ∧
    (¬ (rsS tx k 41 (f (x, cs)).1).1 = 0 → ∃ cs' S' o', Rch tx k (0, (x, cs, m :: C, o + 1)) (2, (rsS tx k 41 (f (x, cs)).1, cs', S', o'))) := by
  have hm2 : 20 ≤ m ∧ m ≤ 24 := by omega
  obtain ⟨a, b⟩ := hS x cs (m :: C) hx hp (mk_hd (by omega))
  by_cases z : (f (x, cs)).1.1 = 0
  · obtain ⟨cs', P, R, hP, hc, o1, o2, p1, p2⟩ := a z
    obtain ⟨d1, d2⟩ := drp_mk (C := C) hP hm2 cs'
    by_cases g : issS tx k 41 (f (x, cs)).1 = true
    · have e : rsS tx k 41 (f (x, cs)).1 = advS tx k (f (x, cs)).1 := if_pos g
      rw [e]
      refine ⟨fun _ => ⟨?_, ?_, ?_⟩, fun q => absurd (adv_ok z) q⟩
      · refine R.tr (Rch.st ((stA _ _ _ _).trans (sA_41 g (by rw [d2]; exact hm))) ?_)
        rw [d1, d2, hc]
        exact Rch.rf _
      · exact Nat.lt_trans p1 (adv_pos z (ss_ne g) p2).1
      · exact (adv_pos z (ss_ne g) p2).2
    · have e : rsS tx k 41 (f (x, cs)).1 = failS 1 (stS tx k (f (x, cs)).1) (f (x, cs)).1 := if_neg g
      rw [e]
      refine ⟨fun q => absurd q (fail_nz (by decide)), fun _ => ⟨cs', P ++ m :: C, o + 1, R.tr (Rch.st ((stA _ _ _ _).trans (sA_no z o1 o2 g (by rw [d2]; exact hm))) (Rch.rf _))⟩⟩
  · rw [rs_d z]
    exact ⟨fun q => absurd q z, fun _ => b z⟩
theorem pair_ok {f : SX → SX} {o : Nat} (hS : SOK tx k f (o + 1)) (hD : DOK f) {x : PS} {cs C : List Nat} (hx : x.1 = 0) (hp : x.2.2.1 ≤ k) {m : Nat} (hm : m = 21 ∨ m = 22) :
    ((rsS tx k 41 (f (rsS tx k 44 (f (x, cs)).1, (f (x, cs)).2)).1).1 = 0 → Rch tx k (0, (x, cs, m :: C, o + 1)) (1, (rsS tx k 41 (f (rsS tx k 44 (f (x, cs)).1, (f (x, cs)).2)).1, putS (if m = 21 then 5 else 6) (f (rsS tx k 44 (f (x, cs)).1, (f (x, cs)).2)).2, C, o)) ∧ x.2.2.1 < (rsS tx k 41 (f (rsS tx k 44 (f (x, cs)).1, (f (x, cs)).2)).1).2.2.1 ∧ (rsS tx k 41 (f (rsS tx k 44 (f (x, cs)).1, (f (x, cs)).2)).1).2.2.1 ≤ k) ∧
    (¬ (rsS tx k 41 (f (rsS tx k 44 (f (x, cs)).1, (f (x, cs)).2)).1).1 = 0 → ∃ cs' S' o', Rch tx k (0, (x, cs, m :: C, o + 1)) (2, (rsS tx k 41 (f (rsS tx k 44 (f (x, cs)).1, (f (x, cs)).2)).1, cs', S', o'))) := by
  obtain ⟨a, b⟩ := hS x cs (m :: C) hx hp (mk_hd (by omega))
  by_cases z : (f (x, cs)).1.1 = 0
  · obtain ⟨cs', P, R, hP, hc, o1, o2, p1, p2⟩ := a z
    obtain ⟨d1, d2⟩ := drp_mk (C := C) hP (show 20 ≤ m ∧ m ≤ 24 by omega) cs'
    by_cases g : issS tx k 44 (f (x, cs)).1 = true
    · have e : rsS tx k 44 (f (x, cs)).1 = advS tx k (f (x, cs)).1 := if_pos g
      rw [e]
      obtain ⟨q1, q2⟩ := adv_pos z (ss_ne g) p2
      have st : Rch tx k (0, (x, cs, m :: C, o + 1)) (0, (advS tx k (f (x, cs)).1, (f (x, cs)).2, (m + 2) :: C, o + 1)) := by
        refine R.tr (Rch.st ((stA _ _ _ _).trans (sA_44 z o1 o2 (by rw [d2]; exact hm))) ?_)
        rw [if_pos g, d1, d2, hc]
        exact Rch.rf _
      obtain ⟨u, v⟩ := par_ok hS (cs := (f (x, cs)).2) (C := C) (adv_ok z) q2 (m := m + 2) (by omega)
      refine ⟨fun h => ?_, fun h => ?_⟩
      · obtain ⟨u1, u2, u3⟩ := u h
        refine ⟨st.tr ?_, by omega, u3⟩
        have c1 : ¬ m + 2 = 20 := by omega
        have c2 : (if m + 2 = 23 then 5 else 6) = if m = 21 then 5 else 6 := by
          rcases hm with rfl | rfl <;> rfl
        rw [if_neg c1, c2] at u1
        exact u1
      · obtain ⟨a1, a2, a3, a4⟩ := v h
        exact ⟨a1, a2, a3, st.tr a4⟩
    · have e : rsS tx k 44 (f (x, cs)).1 = failS 1 (stS tx k (f (x, cs)).1) (f (x, cs)).1 := if_neg g
      rw [e, hD _ _ (fail_nz (by decide)), rs_d (fail_nz (by decide))]
      refine ⟨fun q => absurd q (fail_nz (by decide)), fun _ => ⟨cs', P ++ m :: C, o + 1, R.tr (Rch.st ((stA _ _ _ _).trans (sA_44 z o1 o2 (by rw [d2]; exact hm))) ?_)⟩⟩
      rw [if_neg g]
      exact Rch.rf _
  · rw [rs_d z, hD _ _ z, rs_d z]
    exact ⟨fun q => absurd q z, fun _ => b z⟩
end MAT
section MAU
variable {tx : Nat → Nat} {k : Nat}
theorem no_s {x : PS} (h : ¬ x.1 = 0) (c : Nat) : ¬ issS tx k c x = true := fun g => h (iss_al g)
theorem no_w {x : PS} (h : ¬ x.1 = 0) (c : Nat) : ¬ iswS tx k c x = true := fun g => h (isw_al g)
theorem no_n {x : PS} (h : ¬ x.1 = 0) : ¬ isnS tx k x = true := fun g => h (isn_al g)
theorem part_d (dp : Option (SX → SX)) : DOK (partF tx k dp) := by
  intro x cs h
  unfold partF
  dsimp only
  rw [if_neg (no_n h), if_neg (no_w h _), if_neg (no_w h _), if_neg (no_w h _), if_neg (no_w h _), if_neg (no_w h _), if_neg (no_s h _)]
  exact failS_d _ _ h
theorem bin_d {op : PS → Nat} {part : SX → SX} (ho : ∀ x, ¬ x.1 = 0 → op x = 0) (n : Nat) (hp : DOK part) (x : PS) (cs : List Nat) (h : ¬ x.1 = 0) : (binL tx k op part n (part (x, cs))).1 = x := by
  have e := hp x cs h
  have : binL tx k op part n (part (x, cs)) = part (x, cs) := by
    have : part (x, cs) = ((part (x, cs)).1, (part (x, cs)).2) := rfl
    rw [this]
    exact binL_st (ho _ (by rw [e]; exact h))
  rw [this, e]
theorem opM_d (x : PS) (h : ¬ x.1 = 0) : opM tx k x = 0 := opM_0 (no_s h _) (no_s h _)
theorem opA_d (x : PS) (h : ¬ x.1 = 0) : opA tx k x = 0 := opA_0 (no_s h _) (no_s h _)
theorem prod_d (dp : Option (SX → SX)) : DOK (prodF tx k dp) := fun x cs h => bin_d opM_d 1600 (part_d dp) x cs h
theorem sum_d (dp : Option (SX → SX)) : DOK (sumF tx k dp) := fun x cs h => bin_d opA_d 1600 (prod_d dp) x cs h
theorem sumE_d (e : Nat) : DOK (sumE tx k e) := by
  cases e with
  | zero => exact sum_d none
  | succ e => exact sum_d _
def DPO (tx : Nat → Nat) (k : Nat) (dp : Option (SX → SX)) (o : Nat) : Prop := match dp with
  | none => o = 6
  | some f => o < 6 ∧ SOK tx k f (o + 1) ∧ DOK f
theorem lone {x y : PS} {cs cs' C : List Nat} {o : Nat} (hs : stepM tx k (0, (x, cs, C, o)) = (1, (y, cs', C, o))) (hy : y.1 = 0 → x.2.2.1 < y.2.2.1 ∧ y.2.2.1 ≤ k) :
    (y.1 = 0 → Rch tx k (0, (x, cs, C, o)) (1, (y, cs', C, o)) ∧ x.2.2.1 < y.2.2.1 ∧ y.2.2.1 ≤ k) ∧ (¬ y.1 = 0 → ∃ cs'' S' o', Rch tx k (0, (x, cs, C, o)) (2, (y, cs'', S', o'))) :=
  ⟨fun h => ⟨Rch.st hs (Rch.rf _), hy h⟩, fun h => ⟨cs', C, o, Rch.st hs (Rch.st ((stA _ _ _ _).trans (sA_d h)) (Rch.rf _))⟩⟩
theorem part_ok {dp : Option (SX → SX)} {o : Nat} (ho : o ≤ 6) (hd : DPO tx k dp o) : POK tx k (partF tx k dp) o := by
  intro x cs C hx hp
  by_cases n : isnS tx k x = true
  · have e : partF tx k dp (x, cs) = (rnS tx k 0 9999 x, putS (1000 + rnV tx k 0 9999 x) cs) := if_pos n
    rw [e]
    exact lone ((stP _ _ _ _).trans (sP_num n)) (fun h => by
      obtain ⟨a, b⟩ := rn_ok h
      rw [b]
      exact adv_pos hx (isn_nz n) hp)
  by_cases w1 : iswS tx k 28 x = true
  · have e : partF tx k dp (x, cs) = (advS tx k x, putS 7 cs) := by
      unfold partF
      dsimp only
      rw [if_neg n, if_pos w1]
    rw [e]
    exact lone ((stP _ _ _ _).trans (sP_28 w1)) (fun _ => adv_pos hx (sw_ne w1) hp)
  by_cases w2 : iswS tx k 29 x = true
  · have e : partF tx k dp (x, cs) = (advS tx k x, putS 8 cs) := by
      unfold partF
      dsimp only
      rw [if_neg n, if_neg w1, if_pos w2]
    rw [e]
    exact lone ((stP _ _ _ _).trans (sP_29 w2)) (fun _ => adv_pos hx (sw_ne w2) hp)
  by_cases w3 : iswS tx k 30 x = true
  · have e : partF tx k dp (x, cs) = (advS tx k x, putS 9 cs) := by
      unfold partF
      dsimp only
      rw [if_neg n, if_neg w1, if_neg w2, if_pos w3]
    rw [e]
    exact lone ((stP _ _ _ _).trans (sP_30 w3)) (fun _ => adv_pos hx (sw_ne w3) hp)
  by_cases mm : iswS tx k 31 x = true ∨ iswS tx k 32 x = true
  · have e : partF tx k dp (x, cs) = pairF tx k dp (if iswS tx k 31 x = true then 5 else 6) (advS tx k x, cs) := by
      unfold partF
      dsimp only
      rw [if_neg n, if_neg w1, if_neg w2, if_neg w3]
      by_cases m : iswS tx k 31 x = true
      · rw [if_pos m, if_pos m]
      · rw [if_neg m, if_neg m, if_pos (mm.resolve_left m)]
    have sm := (stP x cs C o).trans (sP_mm mm)
    obtain ⟨q1, q2⟩ := adv_pos hx (mm.elim sw_ne sw_ne) hp
    have ya := adv_ok (tx := tx) (k := k) hx
    rw [e]
    by_cases g : issS tx k 40 (advS tx k x) = true
    · rw [if_pos g] at sm
      cases dp with
      | none =>
        have e2 : pairF tx k none (if iswS tx k 31 x = true then 5 else 6) (advS tx k x, cs) = (failS 4 (stS tx k (advS tx k x)) (advS tx k x), cs) := if_pos g
        rw [e2]
        rw [if_pos (show o = 6 from hd)] at sm
        exact ⟨fun h => absurd h (fail_nz (by decide)), fun _ => ⟨cs, C, o, Rch.st sm (Rch.rf _)⟩⟩
      | some f =>
        obtain ⟨d1, d2, d3⟩ := hd
        have e2 : pairF tx k (some f) (if iswS tx k 31 x = true then 5 else 6) (advS tx k x, cs) = (rsS tx k 41 (f (rsS tx k 44 (f (advS tx k (advS tx k x), cs)).1, (f (advS tx k (advS tx k x), cs)).2)).1, putS (if iswS tx k 31 x = true then 5 else 6) (f (rsS tx k 44 (f (advS tx k (advS tx k x), cs)).1, (f (advS tx k (advS tx k x), cs)).2)).2) := if_pos g
        rw [e2]
        rw [if_neg (by omega)] at sm
        obtain ⟨r1, r2⟩ := adv_pos ya (ss_ne g) q2
        have hm : (if iswS tx k 31 x = true then 21 else 22) = 21 ∨ (if iswS tx k 31 x = true then 21 else 22) = 22 := by
          split
          · exact Or.inl rfl
          · exact Or.inr rfl
        have hc : (if (if iswS tx k 31 x = true then 21 else 22) = 21 then 5 else 6) = (if iswS tx k 31 x = true then 5 else 6) := by
          by_cases m : iswS tx k 31 x = true
          · rw [if_pos m, if_pos m]
            rfl
          · rw [if_neg m, if_neg m]
            rfl
        obtain ⟨u, v⟩ := pair_ok d2 d3 (cs := cs) (C := C) (adv_ok ya) r2 hm
        rw [hc] at u
        exact ⟨fun h => ⟨Rch.st sm (u h).1, Nat.lt_trans (Nat.lt_trans q1 r1) (u h).2.1, (u h).2.2⟩, fun h => by
          obtain ⟨a1, a2, a3, a4⟩ := v h
          exact ⟨a1, a2, a3, Rch.st sm a4⟩⟩
    · have e2 : pairF tx k dp (if iswS tx k 31 x = true then 5 else 6) (advS tx k x, cs) = (failS 1 (stS tx k (advS tx k x)) (advS tx k x), cs) := if_neg g
      rw [e2]
      rw [if_neg g] at sm
      exact ⟨fun h => absurd h (fail_nz (by decide)), fun _ => ⟨cs, C, o, Rch.st sm (Rch.rf _)⟩⟩
  have m1 : ¬ iswS tx k 31 x = true := fun g => mm (Or.inl g)
  have m2 : ¬ iswS tx k 32 x = true := fun g => mm (Or.inr g)
  by_cases g : issS tx k 40 x = true
  · have sm := (stP x cs C o).trans (sP_40 g)
    cases dp with
    | none =>
      have e : partF tx k none (x, cs) = (failS 4 (stS tx k x) x, cs) := by
        unfold partF
        dsimp only
        rw [if_neg n, if_neg w1, if_neg w2, if_neg w3, if_neg m1, if_neg m2, if_pos g]
      rw [e]
      rw [if_pos (show o = 6 from hd)] at sm
      exact ⟨fun h => absurd h (fail_nz (by decide)), fun _ => ⟨cs, C, o, Rch.st sm (Rch.rf _)⟩⟩
    | some f =>
      obtain ⟨d1, d2, d3⟩ := hd
      have e : partF tx k (some f) (x, cs) = (rsS tx k 41 (f (advS tx k x, cs)).1, (f (advS tx k x, cs)).2) := by
        unfold partF
        dsimp only
        rw [if_neg n, if_neg w1, if_neg w2, if_neg w3, if_neg m1, if_neg m2, if_pos g]
      rw [e]
      rw [if_neg (by omega)] at sm
      obtain ⟨q1, q2⟩ := adv_pos hx (ss_ne g) hp
      obtain ⟨u, v⟩ := par_ok d2 (cs := cs) (C := C) (adv_ok (tx := tx) (k := k) hx) q2 (Or.inl rfl)
      exact ⟨fun h => ⟨Rch.st sm (u h).1, Nat.lt_trans q1 (u h).2.1, (u h).2.2⟩, fun h => by
        obtain ⟨a1, a2, a3, a4⟩ := v h
        exact ⟨a1, a2, a3, Rch.st sm a4⟩⟩
  · have e : partF tx k dp (x, cs) = (failS 1 (stS tx k x) x, cs) := by
      unfold partF
      dsimp only
      rw [if_neg n, if_neg w1, if_neg w2, if_neg w3, if_neg m1, if_neg m2, if_neg g]
    rw [e]
    refine ⟨fun h => absurd h (fail_nz (by decide)), fun h => ⟨_, _, _, Rch.st ((stP _ _ _ _).trans (sP_no hx n w1 w2 w3 m1 m2 g)) (Rch.st ((stA _ _ _ _).trans (sA_d h)) (Rch.rf _))⟩⟩
theorem opM_v {x : PS} (h : ¬ opM tx k x = 0) : (issS tx k 42 x = true ∨ issS tx k 47 x = true) ∧ opM tx k x = (if issS tx k 42 x = true then 3 else 4) := by
  by_cases a : issS tx k 42 x = true
  · exact ⟨Or.inl a, by rw [opM_1 a, if_pos a]⟩
  · by_cases b : issS tx k 47 x = true
    · exact ⟨Or.inr b, by rw [opM_2 a b, if_neg a]⟩
    · exact absurd (opM_0 a b) h
theorem opA_v {x : PS} (h : ¬ opA tx k x = 0) : (issS tx k 43 x = true ∨ issS tx k 45 x = true) ∧ opA tx k x = (if issS tx k 43 x = true then 1 else 2) := by
  by_cases a : issS tx k 43 x = true
  · exact ⟨Or.inl a, by rw [opA_1 a, if_pos a]⟩
  · by_cases b : issS tx k 45 x = true
    · exact ⟨Or.inr b, by rw [opA_2 a b, if_neg a]⟩
    · exact absurd (opA_0 a b) h
theorem binL_1 {op : PS → Nat} {part : SX → SX} {f : Nat} {x : PS} {c : List Nat} (h : ¬ op x = 0) : binL tx k op part (f + 1) (x, c) = binL tx k op part f ((part (advS tx k x, c)).1, putS (op x) (part (advS tx k x, c)).2) := if_neg h
/-- factors -/
theorem prodL_ok {dp : Option (SX → SX)} {o : Nat} (hP : POK tx k (partF tx k dp) o) (f : Nat) : ∀ x cs' P C, x.1 = 0 → x.2.2.1 ≤ k → k - x.2.2.1 < f → (∀ v ∈ P, isMo v = true) → (∀ v, C.head? = some v → ¬ isMo v = true) →
    ((binL tx k (opM tx k) (partF tx k dp) f (x, emt P cs')).1.1 = 0 → ∃ cs'' P', Rch tx k (1, (x, cs', P ++ C, o)) (1, ((binL tx k (opM tx k) (partF tx k dp) f (x, emt P cs')).1, cs'', P' ++ C, o)) ∧ (∀ v ∈ P', isMo v = true) ∧ (binL tx k (opM tx k) (partF tx k dp) f (x, emt P cs')).2 = emt P' cs'' ∧ opM tx k (binL tx k (opM tx k) (partF tx k dp) f (x, emt P cs')).1 = 0 ∧ x.2.2.1 ≤ (binL tx k (opM tx k) (partF tx k dp) f (x, emt P cs')).1.2.2.1 ∧ (binL tx k (opM tx k) (partF tx k dp) f (x, emt P cs')).1.2.2.1 ≤ k) ∧
    (¬ (binL tx k (opM tx k) (partF tx k dp) f (x, emt P cs')).1.1 = 0 → ∃ a S' o', Rch tx k (1, (x, cs', P ++ C, o)) (2, ((binL tx k (opM tx k) (partF tx k dp) f (x, emt P cs')).1, a, S', o'))) := by
  induction f with
  | zero => exact fun x _ _ _ _ _ h => absurd h (by omega)
  | succ f ih =>
    intro x cs' P C hx hp hf hPm hC
    by_cases op : opM tx k x = 0
    · rw [binL_st op]
      exact ⟨fun _ => ⟨cs', P, Rch.rf _, hPm, rfl, op, Nat.le_refl _, hp⟩, fun h => absurd hx h⟩
    · obtain ⟨g, ev⟩ := opM_v op
      have hne : ¬ srS tx k x = 0 := g.elim ss_ne ss_ne
      obtain ⟨q1, q2⟩ := adv_pos hx hne hp
      rw [binL_1 op]
      have st : Rch tx k (1, (x, cs', P ++ C, o)) (0, (advS tx k x, emt P cs', opM tx k x :: C, o)) := by
        refine Rch.st ((stA _ _ _ _).trans (sA_M g)) ?_
        rw [drp_app hPm, drp_stop hC, ev]
        exact Rch.rf _
      obtain ⟨a, b⟩ := hP (advS tx k x) (emt P cs') (opM tx k x :: C) (adv_ok hx) q2
      by_cases z : (partF tx k dp (advS tx k x, emt P cs')).1.1 = 0
      · obtain ⟨a1, a2, a3⟩ := a z
        have key := ih (partF tx k dp (advS tx k x, emt P cs')).1 (partF tx k dp (advS tx k x, emt P cs')).2 [opM tx k x] C z a3 (by omega) (fun v hv => by
          rw [List.mem_singleton.mp hv, ev]
          split <;> decide) hC
        obtain ⟨u, v⟩ := key
        refine ⟨fun h => ?_, fun h => ?_⟩
        · obtain ⟨c1, c2, c3, c4, c5, c6, c7, c8⟩ := u h
          exact ⟨c1, c2, st.tr (a1.tr c3), c4, c5, c6, Nat.le_trans (Nat.le_of_lt (Nat.lt_trans q1 a2)) c7, c8⟩
        · obtain ⟨c1, c2, c3, c4⟩ := v h
          exact ⟨c1, c2, c3, st.tr (a1.tr c4)⟩
      · have e : binL tx k (opM tx k) (partF tx k dp) f ((partF tx k dp (advS tx k x, emt P cs')).1, putS (opM tx k x) (partF tx k dp (advS tx k x, emt P cs')).2) = ((partF tx k dp (advS tx k x, emt P cs')).1, putS (opM tx k x) (partF tx k dp (advS tx k x, emt P cs')).2) := binL_st (opM_d _ z)
        rw [e]
        refine ⟨fun h => absurd h z, fun _ => ?_⟩
        obtain ⟨c1, c2, c3, c4⟩ := b z
        exact ⟨c1, c2, c3, st.tr c4⟩
theorem prod_ok {dp : Option (SX → SX)} {o : Nat} (hk : k ≤ 1600) (hP : POK tx k (partF tx k dp) o) : ∀ x cs C, x.1 = 0 → x.2.2.1 ≤ k → (∀ v, C.head? = some v → ¬ isMo v = true) →
    ((prodF tx k dp (x, cs)).1.1 = 0 → ∃ cs' P, Rch tx k (0, (x, cs, C, o)) (1, ((prodF tx k dp (x, cs)).1, cs', P ++ C, o)) ∧ (∀ v ∈ P, isMo v = true) ∧ (prodF tx k dp (x, cs)).2 = emt P cs' ∧ opM tx k (prodF tx k dp (x, cs)).1 = 0 ∧ x.2.2.1 < (prodF tx k dp (x, cs)).1.2.2.1 ∧ (prodF tx k dp (x, cs)).1.2.2.1 ≤ k) ∧
    (¬ (prodF tx k dp (x, cs)).1.1 = 0 → ∃ a S' o', Rch tx k (0, (x, cs, C, o)) (2, ((prodF tx k dp (x, cs)).1, a, S', o'))) := by
  intro x cs C hx hp hC
  obtain ⟨a, b⟩ := hP x cs C hx hp
  by_cases z : (partF tx k dp (x, cs)).1.1 = 0
  · obtain ⟨a1, a2, a3⟩ := a z
    obtain ⟨u, v⟩ := prodL_ok hP 1600 (partF tx k dp (x, cs)).1 (partF tx k dp (x, cs)).2 [] C z a3 (by omega) (fun v hv => absurd hv (by simp)) hC
    refine ⟨fun h => ?_, fun h => ?_⟩
    · obtain ⟨c1, c2, c3, c4, c5, c6, c7, c8⟩ := u h
      exact ⟨c1, c2, a1.tr c3, c4, c5, c6, Nat.lt_of_lt_of_le a2 c7, c8⟩
    · obtain ⟨c1, c2, c3, c4⟩ := v h
      exact ⟨c1, c2, c3, a1.tr c4⟩
  · have e : prodF tx k dp (x, cs) = ((partF tx k dp (x, cs)).1, (partF tx k dp (x, cs)).2) := binL_st (opM_d _ z)
    rw [e]
    exact ⟨fun h => absurd h z, fun _ => b z⟩
theorem a2_ao {P : List Nat} (h : ∀ v ∈ P, isMo v = true) : ∀ v ∈ P, isAo v = true := fun v hv => by
  have := of_decide_eq_true (h v hv)
  exact decide_eq_true (by omega)
/-- terms -/
theorem sumL_ok {dp : Option (SX → SX)} {o : Nat} (hk : k ≤ 1600) (hP : POK tx k (partF tx k dp) o) (f : Nat) : ∀ x cs' P C, x.1 = 0 → x.2.2.1 ≤ k → k - x.2.2.1 < f → opM tx k x = 0 → (∀ v ∈ P, isAo v = true) → (∀ v, C.head? = some v → ¬ isAo v = true) →
    ((binL tx k (opA tx k) (prodF tx k dp) f (x, emt P cs')).1.1 = 0 → ∃ cs'' P', Rch tx k (1, (x, cs', P ++ C, o)) (1, ((binL tx k (opA tx k) (prodF tx k dp) f (x, emt P cs')).1, cs'', P' ++ C, o)) ∧ (∀ v ∈ P', isAo v = true) ∧ (binL tx k (opA tx k) (prodF tx k dp) f (x, emt P cs')).2 = emt P' cs'' ∧ opM tx k (binL tx k (opA tx k) (prodF tx k dp) f (x, emt P cs')).1 = 0 ∧ opA tx k (binL tx k (opA tx k) (prodF tx k dp) f (x, emt P cs')).1 = 0 ∧ x.2.2.1 ≤ (binL tx k (opA tx k) (prodF tx k dp) f (x, emt P cs')).1.2.2.1 ∧ (binL tx k (opA tx k) (prodF tx k dp) f (x, emt P cs')).1.2.2.1 ≤ k) ∧
    (¬ (binL tx k (opA tx k) (prodF tx k dp) f (x, emt P cs')).1.1 = 0 → ∃ a S' o', Rch tx k (1, (x, cs', P ++ C, o)) (2, ((binL tx k (opA tx k) (prodF tx k dp) f (x, emt P cs')).1, a, S', o'))) := by
  induction f with
  | zero => exact fun x _ _ _ _ _ h => absurd h (by omega)
  | succ f ih =>
    intro x cs' P C hx hp hf hm hPm hC
    by_cases op : opA tx k x = 0
    · rw [binL_st op]
      exact ⟨fun _ => ⟨cs', P, Rch.rf _, hPm, rfl, hm, op, Nat.le_refl _, hp⟩, fun h => absurd hx h⟩
    · obtain ⟨g, ev⟩ := opA_v op
      have hne : ¬ srS tx k x = 0 := g.elim ss_ne ss_ne
      obtain ⟨q1, q2⟩ := adv_pos hx hne hp
      rw [binL_1 op]
      have st : Rch tx k (1, (x, cs', P ++ C, o)) (0, (advS tx k x, emt P cs', opA tx k x :: C, o)) := by
        refine Rch.st ((stA _ _ _ _).trans (sA_A g)) ?_
        rw [drp_app hPm, drp_stop hC, ev]
        exact Rch.rf _
      have hv : opA tx k x = 1 ∨ opA tx k x = 2 := by
        rw [ev]
        split
        · exact Or.inl rfl
        · exact Or.inr rfl
      obtain ⟨a, b⟩ := prod_ok hk hP (advS tx k x) (emt P cs') (opA tx k x :: C) (adv_ok hx) q2 (fun v hv' => by
        have e : opA tx k x = v := Option.some.inj hv'
        rw [← e]
        unfold isMo
        rw [decide_eq_true_iff]
        omega)
      by_cases z : (prodF tx k dp (advS tx k x, emt P cs')).1.1 = 0
      · obtain ⟨cs2, P2, a1, a4, a5, a6, a2, a3⟩ := a z
        have e2 : putS (opA tx k x) (prodF tx k dp (advS tx k x, emt P cs')).2 = emt (P2 ++ [opA tx k x]) cs2 := by
          rw [emt_app, ← a5]
          rfl
        rw [e2]
        have key := ih (prodF tx k dp (advS tx k x, emt P cs')).1 cs2 (P2 ++ [opA tx k x]) C z a3 (by omega) a6 (fun v hv' => by
          rcases List.mem_append.mp hv' with q | q
          · exact a2_ao a4 v q
          · rw [List.mem_singleton.mp q]
            exact decide_eq_true (by omega)) hC
        obtain ⟨u, v⟩ := key
        have a1' : Rch tx k (1, (x, cs', P ++ C, o)) (1, ((prodF tx k dp (advS tx k x, emt P cs')).1, cs2, (P2 ++ [opA tx k x]) ++ C, o)) := by
          rw [List.append_assoc]
          exact st.tr a1
        refine ⟨fun h => ?_, fun h => ?_⟩
        · obtain ⟨c1, c2, c3, c4, c5, c6, c6', c7, c8⟩ := u h
          exact ⟨c1, c2, a1'.tr c3, c4, c5, c6, c6', Nat.le_trans (Nat.le_of_lt (Nat.lt_trans q1 a2)) c7, c8⟩
        · obtain ⟨c1, c2, c3, c4⟩ := v h
          exact ⟨c1, c2, c3, a1'.tr c4⟩
      · have e : binL tx k (opA tx k) (prodF tx k dp) f ((prodF tx k dp (advS tx k x, emt P cs')).1, putS (opA tx k x) (prodF tx k dp (advS tx k x, emt P cs')).2) = ((prodF tx k dp (advS tx k x, emt P cs')).1, putS (opA tx k x) (prodF tx k dp (advS tx k x, emt P cs')).2) := binL_st (opA_d _ z)
        rw [e]
        refine ⟨fun h => absurd h z, fun _ => ?_⟩
        obtain ⟨c1, c2, c3, c4⟩ := b z
        exact ⟨c1, c2, c3, st.tr c4⟩
theorem sum_ok {dp : Option (SX → SX)} {o : Nat} (hk : k ≤ 1600) (hP : POK tx k (partF tx k dp) o) : SOK tx k (sumF tx k dp) o := by
  intro x cs C hx hp hC
  obtain ⟨a, b⟩ := prod_ok hk hP x cs C hx hp (fun v hv q => hC v hv (by
    have := of_decide_eq_true q
    exact decide_eq_true (by omega)))
  by_cases z : (prodF tx k dp (x, cs)).1.1 = 0
  · obtain ⟨cs2, P2, a1, a4, a5, a6, a2, a3⟩ := a z
    have e : sumF tx k dp (x, cs) = binL tx k (opA tx k) (prodF tx k dp) 1600 ((prodF tx k dp (x, cs)).1, emt P2 cs2) := by
      rw [← a5]
      rfl
    rw [e]
    obtain ⟨u, v⟩ := sumL_ok hk hP 1600 (prodF tx k dp (x, cs)).1 cs2 P2 C z a3 (by omega) a6 (a2_ao a4) hC
    refine ⟨fun h => ?_, fun h => ?_⟩
    · obtain ⟨c1, c2, c3, c4, c5, c6, c6', c7, c8⟩ := u h
      exact ⟨c1, c2, a1.tr c3, c4, c5, c6, c6', Nat.lt_of_lt_of_le a2 c7, c8⟩
    · obtain ⟨c1, c2, c3, c4⟩ := v h
      exact ⟨c1, c2, c3, a1.tr c4⟩
  · have e : sumF tx k dp (x, cs) = ((prodF tx k dp (x, cs)).1, (prodF tx k dp (x, cs)).2) := binL_st (opA_d _ z)
    rw [e]
    exact ⟨fun h => absurd h z, fun _ => b z⟩
/-- a sum with o open: by depth and by the pile alike -/
theorem sumE_ok (hk : k ≤ 1600) (e : Nat) : ∀ o, o + e = 6 → SOK tx k (sumE tx k e) o := by
  induction e with
  | zero =>
    intro o ho
    exact sum_ok hk (part_ok (dp := none) (by omega) (show o = 6 by omega))
  | succ e ih =>
    intro o ho
    exact sum_ok hk (part_ok (dp := some (sumE tx k e)) (by omega) ⟨by omega, ih (o + 1) (by omega), sumE_d e⟩)
end MAU
