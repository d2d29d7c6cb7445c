/-! a text, read -/
section RDY
variable {tx : Nat → Nat} {k : Nat} {x : PS} {a : Nat} {en bd bp : Int32}
theorem rr_ini : RR tx k (0, 0, 0, 0) 0 (-1) 0 (-1) := ⟨rfl, Nat.zero_le _, Nat.zero_le _, Or.inl ⟨rfl, rfl, Nat.le_refl _, Nat.zero_le _, Or.inr ⟨rfl, Or.inl rfl⟩⟩⟩
theorem rr_bp (h : RR tx k x a en bd bp) (hd : ¬ x.1 = 0) : bp = nI x.2.1 := by
  obtain ⟨_, _, _, d | d⟩ := h
  · exact absurd d.1 hd
  · exact d.2
theorem rl_sr (h0 : x.1 = 0) (ha : a = stS tx k x) (hk : a < k) : ¬ srS tx k x = 0 := by
  unfold srS
  rw [if_pos h0]
  unfold tsr
  rw [if_neg (show ¬ k ≤ tq tx k x.2.2.1 from by have : stS tx k x = tq tx k x.2.2.1 := rfl; omega)]
  split
  · decide
  · unfold srt
    split
    · decide
    · split <;> decide
theorem rla_0 {t : LA_} {L G O T A SF SE TE F : Nat → Int32} {N : Nat → Int64} (h9 : ∀ i, 9 ≤ i → t.s i = 0) (h4 : t.s 4 = 0) (hc : t.cs = []) (hl : LR t L) : RLA t L G O T A SF SE TE F N 0 := by
  have e9 := h9 9 (by decide)
  have e10 := h9 10 (by decide)
  have e11 := h9 11 (by decide)
  refine ⟨hl, ⟨?_, ?_⟩, ?_, ?_, ?_, ?_, ?_⟩
  · intro j hj
    omega
  · intro j hj
    omega
  · intro j hj
    omega
  · intro j hj
    omega
  · intro j hj
    omega
  · intro j hj
    omega
  · rw [hc]
    exact ⟨rfl, fun j hj => absurd hj (Nat.not_lt_zero _)⟩
theorem mc_0 {t : LA_} {M : Nat → Int32} (h9 : ∀ i, 9 ≤ i → t.s i = 0) (h4 : t.s 4 = 0) (h0 : M 0 = nI 0) (h1 : M 1 = nI 0) (h2 : M 2 = nI 0) (h3 : M 3 = nI 0) : MC t M := by
  unfold MC
  rw [h9 9 (by decide), h9 10 (by decide), h9 11 (by decide), h4]
  exact ⟨h0, h1, h2, h3, by decide, by decide, by decide, by decide⟩
end RDY
/-! a lake that stands in the reference's rows -/
def SLR (t : LA_) (A SF SE TE : Nat → Int32) : Prop := ∀ j, j < t.s 11 → A (8 + j) = vp_nar .boolean (nI (t.r 16 j)) ∧ SF (8 + j) = nI (t.r 17 j) ∧ SE (8 + j) = nI (t.r 18 j) ∧ TE (8 + j) = nI (t.r 19 j)
def SLA (t : LA_) (M L G O T A SF SE TE F : Nat → Int32) (N : Nat → Int64) : Prop := MC t (fun j => M (4 + j)) ∧ LR t (fun j => L (7 + j)) ∧ NM t (fun j => N (18 + j)) ∧ GR t (fun j => G (54 + j)) ∧ OR_ t (fun j => O (6 + j)) ∧ TR t (fun j => T (112 + j)) ∧ SLR t A SF SE TE ∧ CD t.cs (fun j => F (1600 + j)) t.cs.length
theorem gr_sh {t : LA_} {G G' : Nat → Int32} (h : GR t G) (h9 : t.s 9 ≤ 9) (k : ∀ j, j < 54 → G' j = G j) : GR t G' := by
  intro j hj
  have hj' : j < t.s 9 := hj
  rw [k (6 * j) (by omega), k (6 * j + 1) (by omega), k (6 * j + 2) (by omega), k (6 * j + 3) (by omega), k (6 * j + 4) (by omega), k (6 * j + 5) (by omega)]
  exact h j hj
theorem or_sh {t : LA_} {O O' : Nat → Int32} (h : OR_ t O) (h4 : t.s 4 ≤ 6) (k : ∀ j, j < 6 → O' j = O j) : OR_ t O' := by
  intro j hj
  have hj' : j < t.s 4 := hj
  rw [k j (by omega)]
  exact h j hj
theorem tr_sh {t : LA_} {T T' : Nat → Int32} (h : TR t T) (h10 : t.s 10 ≤ 16) (k : ∀ j, j < 112 → T' j = T j) : TR t T' := by
  intro j hj
  have hj' : j < t.s 10 := hj
  rw [k (7 * j) (by omega), k (7 * j + 1) (by omega), k (7 * j + 2) (by omega), k (7 * j + 3) (by omega), k (7 * j + 4) (by omega), k (7 * j + 5) (by omega), k (7 * j + 6) (by omega)]
  exact h j hj
theorem lr_sh {t : LA_} {L L' : Nat → Int32} (h : LR t L) (k : ∀ j, j < 7 → L' j = L j) : LR t L' := by
  unfold LR
  rw [k 0 (by decide), k 1 (by decide), k 2 (by decide), k 3 (by decide), k 4 (by decide), k 5 (by decide), k 6 (by decide)]
  exact h
theorem mc_sh {t : LA_} {M M' : Nat → Int32} (h : MC t M) (k : ∀ j, j < 4 → M' j = M j) : MC t M' := by
  unfold MC
  rw [k 0 (by decide), k 1 (by decide), k 2 (by decide), k 3 (by decide)]
  exact h
theorem nm_sh {t : LA_} {N N' : Nat → Int64} (h : NM t N) (h9 : t.s 9 ≤ 9) (h4 : t.s 4 ≤ 6) (k : ∀ j, j < 18 → N' j = N j) : NM t N' :=
  ⟨nl_same h.1 (fun j hj => k _ (by have h0 : j < t.s 9 := hj; omega)), nl_same h.2 (fun j hj => k _ (by have h0 : j < t.s 4 := hj; omega))⟩
theorem cd_sh {cs : List Nat} {F F' : Nat → Int32} {cd : Nat} (h : CD cs F cd) (k : ∀ j, j < cd → F' j = F j) : CD cs F' cs.length :=
  ⟨rfl, fun j hj => by rw [k j (by rw [h.1]; exact hj)]; exact h.2 j hj⟩
theorem sla_cp {t : LA_} {M L G O T A SF SE TE F M' L' G' O' T' A' SF' SE' TE' F' : Nat → Int32} {N N' : Nat → Int64} {cd : Nat} (h : RLA t L G O T A SF SE TE F N cd) (hm : MC t M) (k1 : CPy M' M 4 4) (k0 : CPL N' N 18 18) (k2 : CPy L' L 7 7) (k3 : CPy G' G 54 54) (k4 : CPy O' O 6 6) (k5 : CPy T' T 112 112) (ka : CPB A' A 8 8) (k6 : CPy SF' SF 8 8) (k7 : CPy SE' SE 8 8) (k8 : CPy TE' TE 8 8) (k9 : CPy F' F 1600 cd) : SLA t M' L' G' O' T' A' SF' SE' TE' F' N' := by
  obtain ⟨hl, hn, hg, ho, ht, hk, hc⟩ := h
  obtain ⟨_, _, _, _, b9, b4, b10, b11⟩ := id hm
  refine ⟨mc_sh hm (fun j hj => k1.2 j hj), lr_sh hl (fun j hj => k2.2 j hj), nm_sh hn b9 b4 (fun j hj => k0.2 j hj), gr_sh hg b9 (fun j hj => k3.2 j hj), or_sh ho b4 (fun j hj => k4.2 j hj), tr_sh ht b10 (fun j hj => k5.2 j hj), ?_, cd_sh hc (fun j hj => k9.2 j hj)⟩
  intro j hj
  have hj' : j < t.s 11 := hj
  rw [ka.2 j (by omega), k6.2 j (by omega), k7.2 j (by omega), k8.2 j (by omega)]
  obtain ⟨a, b, c, d⟩ := hk j hj
  exact ⟨by rw [a], b, c, d⟩
/-- what stands is as it was -/
def KSL (M L G O T A SF SE TE F : Nat → Int32) (N : Nat → Int64) (M' L' G' O' T' A' SF' SE' TE' F' : Nat → Int32) (N' : Nat → Int64) : Prop := (∀ j, j < 4 → M' (4 + j) = M (4 + j)) ∧ (∀ j, 7 ≤ j → L' j = L j) ∧ (∀ j, 18 ≤ j → N' j = N j) ∧ (∀ j, 54 ≤ j → G' j = G j) ∧ (∀ j, 6 ≤ j → O' j = O j) ∧ (∀ j, 112 ≤ j → T' j = T j) ∧ (∀ j, 8 ≤ j → A' j = A j) ∧ (∀ k, 8 ≤ k → SF' k = SF k ∧ SE' k = SE k ∧ TE' k = TE k) ∧ (∀ i, 1600 ≤ i → F' i = F i)
theorem sla_keep {t : LA_} {M L G O T A SF SE TE F M' L' G' O' T' A' SF' SE' TE' F' : Nat → Int32} {N N' : Nat → Int64} (h : SLA t M L G O T A SF SE TE F N) (k : KSL M L G O T A SF SE TE F N M' L' G' O' T' A' SF' SE' TE' F' N') : SLA t M' L' G' O' T' A' SF' SE' TE' F' N' := by
  obtain ⟨hm, hl, hn, hg, ho, ht, hk, hc⟩ := h
  obtain ⟨k1, k2, k0, k3, k4, k5, ka, k8, k9⟩ := k
  obtain ⟨_, _, _, _, b9, b4, b10, b11⟩ := id hm
  refine ⟨mc_sh hm k1, lr_sh hl (fun j hj => k2 _ (by omega)), nm_sh hn b9 b4 (fun j hj => k0 _ (by omega)), gr_sh hg b9 (fun j hj => k3 _ (by omega)), or_sh ho b4 (fun j hj => k4 _ (by omega)), tr_sh ht b10 (fun j hj => k5 _ (by omega)), ?_, cd_sh hc (fun j hj => k9 _ (by omega))⟩
  intro j hj
  obtain ⟨e1, e2, e3⟩ := k8 (8 + j) (by omega)
  rw [ka (8 + j) (by omega), e1, e2, e3]
  exact hk j hj
theorem ksl_m {M M' : Nat → Int32} {c0 c1 c2 c3 d0 d1 d2 d3 : Nat} (h : MQl M' c0 c1 c2 c3 d0 d1 d2 d3) (k : M 4 = nI c0 ∧ M 5 = nI c1 ∧ M 6 = nI c2 ∧ M 7 = nI c3) : ∀ j, j < 4 → M' (4 + j) = M (4 + j) := by
  obtain ⟨_, ⟨a, b, c, d⟩, _⟩ := h
  obtain ⟨e, f, g, i⟩ := k
  intro j hj
  have : j = 0 ∨ j = 1 ∨ j = 2 ∨ j = 3 := by omega
  rcases this with rfl | rfl | rfl | rfl
  · exact a.trans e.symm
  · exact b.trans f.symm
  · exact c.trans g.symm
  · exact d.trans i.symm
theorem d_Model_lake_0 : decode prog_13_method_29_code 0 = .ok (.aload_n 0, 1) := by decide +kernel
theorem d_Model_lake_1 : decode prog_13_method_29_code 1 = .ok (.aload_n 0, 1) := by decide +kernel
theorem d_Model_lake_2 : decode prog_13_method_29_code 2 = .ok (.getfield 198, 3) := by decide +kernel
theorem d_Model_lake_5 : decode prog_13_method_29_code 5 = .ok (.putfield 210, 3) := by decide +kernel
theorem pf_Model_210 : PF "NineBoardsModel" 210 10 3 (.int) false := ⟨_, _, _, ct_Model, rfl, ci_Model, by decide, (mt_5 (List.mem_of_getElem? (i := 91) rfl) rfl), cp_Model, cn_Model, rfl, by decide +kernel, (fun h => by cases h)⟩
theorem d_Model_lake_8 : decode prog_13_method_29_code 8 = .ok (.aload_n 0, 1) := by decide +kernel
theorem d_Model_lake_9 : decode prog_13_method_29_code 9 = .ok (.iconst 0, 1) := by decide +kernel
theorem d_Model_lake_10 : decode prog_13_method_29_code 10 = .ok (.putfield 198, 3) := by decide +kernel
theorem d_Model_lake_13 : decode prog_13_method_29_code 13 = .ok (.aload_n 0, 1) := by decide +kernel
theorem d_Model_lake_14 : decode prog_13_method_29_code 14 = .ok (.iconst 0, 1) := by decide +kernel
theorem d_Model_lake_15 : decode prog_13_method_29_code 15 = .ok (.putfield 207, 3) := by decide +kernel
theorem d_Model_lake_18 : decode prog_13_method_29_code 18 = .ok (.aload_n 0, 1) := by decide +kernel
theorem d_Model_lake_19 : decode prog_13_method_29_code 19 = .ok (.iconst (-1), 1) := by decide +kernel
theorem d_Model_lake_20 : decode prog_13_method_29_code 20 = .ok (.putfield 221, 3) := by decide +kernel
theorem d_Model_lake_23 : decode prog_13_method_29_code 23 = .ok (.aload_n 0, 1) := by decide +kernel
theorem d_Model_lake_24 : decode prog_13_method_29_code 24 = .ok (.iconst 0, 1) := by decide +kernel
theorem d_Model_lake_25 : decode prog_13_method_29_code 25 = .ok (.putfield 201, 3) := by decide +kernel
theorem d_Model_lake_28 : decode prog_13_method_29_code 28 = .ok (.aload_n 0, 1) := by decide +kernel
theorem d_Model_lake_29 : decode prog_13_method_29_code 29 = .ok (.iconst (-1), 1) := by decide +kernel
theorem d_Model_lake_30 : decode prog_13_method_29_code 30 = .ok (.putfield 204, 3) := by decide +kernel
theorem d_Model_lake_33 : decode prog_13_method_29_code 33 = .ok (.aload_n 0, 1) := by decide +kernel
theorem d_Model_lake_34 : decode prog_13_method_29_code 34 = .ok (.iconst 0, 1) := by decide +kernel
theorem d_Model_lake_35 : decode prog_13_method_29_code 35 = .ok (.putfield 289, 3) := by decide +kernel
theorem d_Model_lake_38 : decode prog_13_method_29_code 38 = .ok (.iconst 0, 1) := by decide +kernel
theorem d_Model_lake_39 : decode prog_13_method_29_code 39 = .ok (.istore_n 1, 1) := by decide +kernel
theorem d_Model_lake_40 : decode prog_13_method_29_code 40 = .ok (.iload_n 1, 1) := by decide +kernel
theorem d_Model_lake_41 : decode prog_13_method_29_code 41 = .ok (.iconst 4, 1) := by decide +kernel
theorem d_Model_lake_42 : decode prog_13_method_29_code 42 = .ok (.if_icmp .ge 16, 3) := by decide +kernel
theorem d_Model_lake_58 : decode prog_13_method_29_code 58 = .ok (.aload_n 0, 1) := by decide +kernel
theorem d_Model_lake_59 : decode prog_13_method_29_code 59 = .ok (.invokevirtual 326, 3) := by decide +kernel
theorem kw_Model_326 : KW "NineBoardsModel" 326 ⟨"NineBoardsModel", "lakeTold", "()V"⟩ prog_13_method_21_code 1 none 0 := ⟨(mt_6 (List.mem_of_getElem? (i := 100) rfl) rfl), (mt_1 (List.mem_of_getElem? (i := 16) rfl) rfl), (mt_6 (List.mem_of_getElem? (i := 103) rfl) rfl), by decide +kernel⟩
theorem kv_Model_lakeTold : Cond.instanceMethod ⟨"NineBoardsModel", "lakeTold", "()V"⟩ ∈ TB ∧ Cond.selects "NineBoardsModel" ⟨"NineBoardsModel", "lakeTold", "()V"⟩ ⟨"NineBoardsModel", "lakeTold", "()V"⟩ ∈ TB := ⟨(mt_6 (List.mem_of_getElem? (i := 102) rfl) rfl), (ms_0 (List.mem_map.mpr ⟨(⟨"NineBoardsModel", "lakeTold", "()V"⟩, 79), List.mem_of_getElem? (i := 49) (by decide +kernel), rfl⟩) rfl)⟩
theorem d_Model_lake_62 : decode prog_13_method_29_code 62 = .ok (.aload_n 0, 1) := by decide +kernel
theorem d_Model_lake_63 : decode prog_13_method_29_code 63 = .ok (.getfield 201, 3) := by decide +kernel
theorem d_Model_lake_66 : decode prog_13_method_29_code 66 = .ok (.ifCond .ne 18, 3) := by decide +kernel
theorem d_Model_lake_84 : decode prog_13_method_29_code 84 = .ok (.aload_n 0, 1) := by decide +kernel
theorem d_Model_lake_85 : decode prog_13_method_29_code 85 = .ok (.aload_n 0, 1) := by decide +kernel
theorem d_Model_lake_86 : decode prog_13_method_29_code 86 = .ok (.getfield 201, 3) := by decide +kernel
theorem d_Model_lake_89 : decode prog_13_method_29_code 89 = .ok (.putfield 332, 3) := by decide +kernel
theorem pf_Model_332 : PF "NineBoardsModel" 332 10 7 (.int) false := ⟨_, _, _, ct_Model, rfl, ci_Model, by decide, (mt_5 (List.mem_of_getElem? (i := 95) rfl) rfl), cp_Model, cn_Model, rfl, by decide +kernel, (fun h => by cases h)⟩
theorem d_Model_lake_92 : decode prog_13_method_29_code 92 = .ok (.aload_n 0, 1) := by decide +kernel
theorem d_Model_lake_93 : decode prog_13_method_29_code 93 = .ok (.aload_n 0, 1) := by decide +kernel
theorem d_Model_lake_94 : decode prog_13_method_29_code 94 = .ok (.getfield 204, 3) := by decide +kernel
theorem gf_Model_204 : GF "NineBoardsModel" 204 10 6 := ⟨_, _, _, rfl, ci_Model, by decide, (mt_5 (List.mem_of_getElem? (i := 94) rfl) rfl)⟩
theorem d_Model_lake_97 : decode prog_13_method_29_code 97 = .ok (.putfield 13, 3) := by decide +kernel
theorem pf_Model_13 : PF "NineBoardsModel" 13 10 8 (.int) false := ⟨_, _, _, ct_Model, rfl, ci_Model, by decide, (mt_5 (List.mem_of_getElem? (i := 96) rfl) rfl), cp_Model, cn_Model, rfl, by decide +kernel, (fun h => by cases h)⟩
theorem d_Model_lake_100 : decode prog_13_method_29_code 100 = .ok (.aload_n 0, 1) := by decide +kernel
theorem d_Model_lake_101 : decode prog_13_method_29_code 101 = .ok (.getfield 201, 3) := by decide +kernel
theorem d_Model_lake_104 : decode prog_13_method_29_code 104 = .ok (.ifCond .eq 5, 3) := by decide +kernel
theorem d_Model_lake_107 : decode prog_13_method_29_code 107 = .ok (.iconst (-1), 1) := by decide +kernel
theorem d_Model_lake_108 : decode prog_13_method_29_code 108 = .ok (.ireturn, 1) := by decide +kernel
theorem d_Model_lake_69 : decode prog_13_method_29_code 69 = .ok (.aload_n 0, 1) := by decide +kernel
theorem d_Model_lake_70 : decode prog_13_method_29_code 70 = .ok (.invokevirtual 213, 3) := by decide +kernel
theorem d_Model_lake_73 : decode prog_13_method_29_code 73 = .ok (.iconst (-1), 1) := by decide +kernel
theorem d_Model_lake_74 : decode prog_13_method_29_code 74 = .ok (.if_icmp .eq 10, 3) := by decide +kernel
theorem d_Model_lake_109 : decode prog_13_method_29_code 109 = .ok (.aload_n 0, 1) := by decide +kernel
theorem d_Model_lake_110 : decode prog_13_method_29_code 110 = .ok (.invokevirtual 335, 3) := by decide +kernel
theorem kw_Model_335 : KW "NineBoardsModel" 335 ⟨"NineBoardsModel", "stands", "()V"⟩ prog_13_method_30_code 2 none 0 := ⟨(mt_7 (List.mem_of_getElem? (i := 19) rfl) rfl), (mt_1 (List.mem_of_getElem? (i := 16) rfl) rfl), (mt_7 (List.mem_of_getElem? (i := 22) rfl) rfl), by decide +kernel⟩
theorem kv_Model_stands : Cond.instanceMethod ⟨"NineBoardsModel", "stands", "()V"⟩ ∈ TB ∧ Cond.selects "NineBoardsModel" ⟨"NineBoardsModel", "stands", "()V"⟩ ⟨"NineBoardsModel", "stands", "()V"⟩ ∈ TB := ⟨(mt_7 (List.mem_of_getElem? (i := 21) rfl) rfl), (ms_0 (List.mem_map.mpr ⟨(⟨"NineBoardsModel", "stands", "()V"⟩, 79), List.mem_of_getElem? (i := 86) (by decide +kernel), rfl⟩) rfl)⟩
theorem d_Model_lake_113 : decode prog_13_method_29_code 113 = .ok (.aload_n 0, 1) := by decide +kernel
theorem d_Model_lake_114 : decode prog_13_method_29_code 114 = .ok (.getfield 275, 3) := by decide +kernel
theorem d_Model_lake_117 : decode prog_13_method_29_code 117 = .ok (.ireturn, 1) := by decide +kernel
theorem d_Model_lake_77 : decode prog_13_method_29_code 77 = .ok (.aload_n 0, 1) := by decide +kernel
theorem d_Model_lake_78 : decode prog_13_method_29_code 78 = .ok (.invokevirtual 329, 3) := by decide +kernel
theorem kw_Model_329 : KW "NineBoardsModel" 329 ⟨"NineBoardsModel", "statementTold", "()V"⟩ prog_13_method_28_code 2 none 0 := ⟨(mt_6 (List.mem_of_getElem? (i := 145) rfl) rfl), (mt_1 (List.mem_of_getElem? (i := 16) rfl) rfl), (mt_6 (List.mem_of_getElem? (i := 148) rfl) rfl), by decide +kernel⟩
theorem kv_Model_statementTold : Cond.instanceMethod ⟨"NineBoardsModel", "statementTold", "()V"⟩ ∈ TB ∧ Cond.selects "NineBoardsModel" ⟨"NineBoardsModel", "statementTold", "()V"⟩ ⟨"NineBoardsModel", "statementTold", "()V"⟩ ∈ TB := ⟨(mt_6 (List.mem_of_getElem? (i := 147) rfl) rfl), (ms_0 (List.mem_map.mpr ⟨(⟨"NineBoardsModel", "statementTold", "()V"⟩, 79), List.mem_of_getElem? (i := 58) (by decide +kernel), rfl⟩) rfl)⟩
theorem d_Model_lake_81 : decode prog_13_method_29_code 81 = .ok (.goto (-19), 3) := by decide +kernel
theorem d_Model_lake_45 : decode prog_13_method_29_code 45 = .ok (.aload_n 0, 1) := by decide +kernel
theorem d_Model_lake_46 : decode prog_13_method_29_code 46 = .ok (.getfield 117, 3) := by decide +kernel
theorem d_Model_lake_49 : decode prog_13_method_29_code 49 = .ok (.iload_n 1, 1) := by decide +kernel
theorem d_Model_lake_50 : decode prog_13_method_29_code 50 = .ok (.iconst 0, 1) := by decide +kernel
theorem d_Model_lake_51 : decode prog_13_method_29_code 51 = .ok (.iastore, 1) := by decide +kernel
theorem d_Model_lake_52 : decode prog_13_method_29_code 52 = .ok (.iinc 1 1, 3) := by decide +kernel
theorem d_Model_lake_55 : decode prog_13_method_29_code 55 = .ok (.goto (-15), 3) := by decide +kernel
