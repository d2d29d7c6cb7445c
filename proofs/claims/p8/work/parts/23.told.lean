def LI (d : LD) : Prop := (∃ n, n ≤ 6 ∧ d.1 4 = nI n) ∧ (∃ n, n ≤ 9 ∧ d.1 9 = nI n) ∧ (∃ n, n ≤ 16 ∧ d.1 10 = nI n) ∧ (∃ n, n ≤ 8 ∧ d.1 11 = nI n) ∧ (∀ j, j < 9 → d.2 6 j = -1 ∨ ∃ q, q < 9 ∧ d.2 6 j = nI q)
def LV (d : LD) : Prop := (∀ n, n ≤ 6 → d.1 4 = nI n → ∀ j, j < n → ∃ q, q < 9 ∧ d.2 8 j = nI q) ∧ (∀ n, n ≤ 16 → d.1 10 = nI n → ∀ j, j < n → (∃ q, q < 6 ∧ d.2 9 j = nI q) ∧ ∃ q, q < 9 ∧ d.2 10 j = nI q)
theorem hJ_up {f : Nat → Int32} {g : Nat} {v : Int32} (h : ∀ j, j < 9 → f j = -1 ∨ ∃ q, q < 9 ∧ f j = nI q) (hv : v = -1 ∨ ∃ q, q < 9 ∧ v = nI q) : ∀ j, j < 9 → upd f g v j = -1 ∨ ∃ q, q < 9 ∧ upd f g v j = nI q := by
  intro j hj
  by_cases e : j = g
  · rw [e, pk_us]
    exact hv
  · rw [pk_un e]
    exact h j hj
theorem lv_same {d d' : LD} (a : d'.1 4 = d.1 4) (b : d'.1 10 = d.1 10) (f : d'.2 8 = d.2 8) (g : d'.2 9 = d.2 9) (h : d'.2 10 = d.2 10) (k : LV d) : LV d' := by
  unfold LV at *
  rw [a, b, f, g, h]
  exact k
theorem lv_vil {d d' : LD} {n q : Nat} (h4 : d.1 4 = nI n) (hn : n < 6) (a : d'.1 4 = nI (n + 1)) (b : d'.1 10 = d.1 10) (hq : q < 9) (f : d'.2 8 = upd (d.2 8) n (nI q)) (g : d'.2 9 = d.2 9) (h : d'.2 10 = d.2 10) (k : LV d) : LV d' := by
  refine ⟨fun n' hn' e j hj => ?_, ?_⟩
  · rw [a] at e
    have e2 : n + 1 = n' := (nI_eq (by omega) (by omega)).mp e
    rw [f]
    by_cases e3 : j = n
    · rw [e3, pk_us]
      exact ⟨q, hq, rfl⟩
    · rw [pk_un e3]
      exact k.1 n (by omega) h4 j (by omega)
  · rw [b, g, h]
    exact k.2
theorem lv_thg {d d' : LD} {n q v : Nat} (h10 : d.1 10 = nI n) (hn : n < 16) (a : d'.1 4 = d.1 4) (b : d'.1 10 = nI (n + 1)) (hv : v < 6) (hq : q < 9) (f : d'.2 8 = d.2 8) (g : d'.2 9 = upd (d.2 9) n (nI v)) (h : d'.2 10 = upd (d.2 10) n (nI q)) (k : LV d) : LV d' := by
  refine ⟨?_, fun n' hn' e j hj => ?_⟩
  · rw [a, f]
    exact k.1
  · rw [b] at e
    have e2 : n + 1 = n' := (nI_eq (by omega) (by omega)).mp e
    rw [g, h]
    by_cases e3 : j = n
    · rw [e3, pk_us, pk_us]
      exact ⟨⟨v, hv, rfl⟩, q, hq, rfl⟩
    · rw [pk_un e3, pk_un e3]
      exact k.2 n (by omega) h10 j (by omega)
theorem d_Reader_endStatement_0 : decode prog_8_method_4_code 0 = .ok (.aload_n 0, 1) := by decide +kernel
theorem d_Reader_endStatement_1 : decode prog_8_method_4_code 1 = .ok (.bipush 59, 2) := by decide +kernel
theorem d_Reader_endStatement_3 : decode prog_8_method_4_code 3 = .ok (.invokevirtual 101, 3) := by decide +kernel
theorem d_Reader_endStatement_6 : decode prog_8_method_4_code 6 = .ok (.aload_n 0, 1) := by decide +kernel
theorem d_Reader_endStatement_7 : decode prog_8_method_4_code 7 = .ok (.getfield 44, 3) := by decide +kernel
theorem d_Reader_endStatement_10 : decode prog_8_method_4_code 10 = .ok (.ifCond .ne 16, 3) := by decide +kernel
theorem d_Reader_endStatement_26 : decode prog_8_method_4_code 26 = .ok (.return_, 1) := by decide +kernel
theorem d_Reader_endStatement_13 : decode prog_8_method_4_code 13 = .ok (.aload_n 0, 1) := by decide +kernel
theorem d_Reader_endStatement_14 : decode prog_8_method_4_code 14 = .ok (.getfield 23, 3) := by decide +kernel
theorem d_Reader_endStatement_17 : decode prog_8_method_4_code 17 = .ok (.dup, 1) := by decide +kernel
theorem d_Reader_endStatement_18 : decode prog_8_method_4_code 18 = .ok (.getfield 105, 3) := by decide +kernel
theorem gf_Reader_105 : GF "NineBoards$Reader" 105 2 0 := ⟨_, _, _, rfl, ci_Lake, by decide, (mt_2 (List.mem_of_getElem? (i := 31) rfl) rfl)⟩
theorem d_Reader_endStatement_21 : decode prog_8_method_4_code 21 = .ok (.iconst 1, 1) := by decide +kernel
theorem d_Reader_endStatement_22 : decode prog_8_method_4_code 22 = .ok (.iadd, 1) := by decide +kernel
theorem d_Reader_endStatement_23 : decode prog_8_method_4_code 23 = .ok (.putfield 105, 3) := by decide +kernel
theorem pf_Reader_105 : PF "NineBoards$Reader" 105 2 0 (.int) false := ⟨_, _, _, ct_Lake, rfl, ci_Lake, by decide, (mt_2 (List.mem_of_getElem? (i := 31) rfl) rfl), cp_Lake, cn_Lake, rfl, by decide +kernel, (fun h => by cases h)⟩
theorem d_Reader_readLake_0 : decode prog_8_method_5_code 0 = .ok (.aload_n 0, 1) := by decide +kernel
theorem d_Reader_readLake_1 : decode prog_8_method_5_code 1 = .ok (.iconst 0, 1) := by decide +kernel
theorem d_Reader_readLake_2 : decode prog_8_method_5_code 2 = .ok (.invokevirtual 108, 3) := by decide +kernel
theorem kw_Reader_108 : KW "NineBoards$Reader" 108 ⟨"NineBoards$Reader", "readWord", "(I)V"⟩ prog_8_method_25_code 2 none 1 := ⟨(mt_3 (List.mem_of_getElem? (i := 73) rfl) rfl), (mt_1 (List.mem_of_getElem? (i := 10) rfl) rfl), (mt_3 (List.mem_of_getElem? (i := 76) rfl) rfl), by decide +kernel⟩
theorem kv_Reader_readWord : Cond.instanceMethod ⟨"NineBoards$Reader", "readWord", "(I)V"⟩ ∈ TB ∧ Cond.selects "NineBoards$Reader" ⟨"NineBoards$Reader", "readWord", "(I)V"⟩ ⟨"NineBoards$Reader", "readWord", "(I)V"⟩ ∈ TB := ⟨(mt_3 (List.mem_of_getElem? (i := 75) rfl) rfl), (ms_0 (List.mem_map.mpr ⟨(⟨"NineBoards$Reader", "readWord", "(I)V"⟩, 12), List.mem_of_getElem? (i := 4) (by decide +kernel), rfl⟩) rfl)⟩
theorem d_Reader_readLake_5 : decode prog_8_method_5_code 5 = .ok (.aload_n 0, 1) := by decide +kernel
theorem d_Reader_readLake_6 : decode prog_8_method_5_code 6 = .ok (.iconst 1, 1) := by decide +kernel
theorem d_Reader_readLake_7 : decode prog_8_method_5_code 7 = .ok (.invokevirtual 108, 3) := by decide +kernel
theorem d_Reader_readLake_10 : decode prog_8_method_5_code 10 = .ok (.aload_n 0, 1) := by decide +kernel
theorem d_Reader_readLake_11 : decode prog_8_method_5_code 11 = .ok (.getfield 23, 3) := by decide +kernel
theorem d_Reader_readLake_14 : decode prog_8_method_5_code 14 = .ok (.aload_n 0, 1) := by decide +kernel
theorem d_Reader_readLake_15 : decode prog_8_method_5_code 15 = .ok (.iconst 1, 1) := by decide +kernel
theorem d_Reader_readLake_16 : decode prog_8_method_5_code 16 = .ok (.sipush 999, 3) := by decide +kernel
theorem d_Reader_readLake_19 : decode prog_8_method_5_code 19 = .ok (.invokevirtual 111, 3) := by decide +kernel
theorem d_Reader_readLake_22 : decode prog_8_method_5_code 22 = .ok (.putfield 115, 3) := by decide +kernel
theorem pf_Reader_115 : PF "NineBoards$Reader" 115 2 1 (.int) false := ⟨_, _, _, ct_Lake, rfl, ci_Lake, by decide, (mt_2 (List.mem_of_getElem? (i := 34) rfl) rfl), cp_Lake, cn_Lake, rfl, by decide +kernel, (fun h => by cases h)⟩
theorem d_Reader_readLake_25 : decode prog_8_method_5_code 25 = .ok (.aload_n 0, 1) := by decide +kernel
theorem d_Reader_readLake_26 : decode prog_8_method_5_code 26 = .ok (.iconst 2, 1) := by decide +kernel
theorem d_Reader_readLake_27 : decode prog_8_method_5_code 27 = .ok (.invokevirtual 108, 3) := by decide +kernel
theorem d_Reader_readLake_30 : decode prog_8_method_5_code 30 = .ok (.aload_n 0, 1) := by decide +kernel
theorem d_Reader_readLake_31 : decode prog_8_method_5_code 31 = .ok (.getfield 23, 3) := by decide +kernel
theorem d_Reader_readLake_34 : decode prog_8_method_5_code 34 = .ok (.aload_n 0, 1) := by decide +kernel
theorem d_Reader_readLake_35 : decode prog_8_method_5_code 35 = .ok (.iconst 1, 1) := by decide +kernel
theorem d_Reader_readLake_36 : decode prog_8_method_5_code 36 = .ok (.sipush 9999, 3) := by decide +kernel
theorem d_Reader_readLake_39 : decode prog_8_method_5_code 39 = .ok (.invokevirtual 111, 3) := by decide +kernel
theorem d_Reader_readLake_42 : decode prog_8_method_5_code 42 = .ok (.putfield 118, 3) := by decide +kernel
theorem pf_Reader_118 : PF "NineBoards$Reader" 118 2 2 (.int) false := ⟨_, _, _, ct_Lake, rfl, ci_Lake, by decide, (mt_2 (List.mem_of_getElem? (i := 36) rfl) rfl), cp_Lake, cn_Lake, rfl, by decide +kernel, (fun h => by cases h)⟩
theorem d_Reader_readLake_45 : decode prog_8_method_5_code 45 = .ok (.aload_n 0, 1) := by decide +kernel
theorem d_Reader_readLake_46 : decode prog_8_method_5_code 46 = .ok (.iconst 3, 1) := by decide +kernel
theorem d_Reader_readLake_47 : decode prog_8_method_5_code 47 = .ok (.invokevirtual 108, 3) := by decide +kernel
theorem d_Reader_readLake_50 : decode prog_8_method_5_code 50 = .ok (.aload_n 0, 1) := by decide +kernel
theorem d_Reader_readLake_51 : decode prog_8_method_5_code 51 = .ok (.getfield 23, 3) := by decide +kernel
theorem d_Reader_readLake_54 : decode prog_8_method_5_code 54 = .ok (.aload_n 0, 1) := by decide +kernel
theorem d_Reader_readLake_55 : decode prog_8_method_5_code 55 = .ok (.iconst 0, 1) := by decide +kernel
theorem d_Reader_readLake_56 : decode prog_8_method_5_code 56 = .ok (.aload_n 0, 1) := by decide +kernel
theorem d_Reader_readLake_57 : decode prog_8_method_5_code 57 = .ok (.getfield 23, 3) := by decide +kernel
theorem d_Reader_readLake_60 : decode prog_8_method_5_code 60 = .ok (.getfield 118, 3) := by decide +kernel
theorem gf_Reader_118 : GF "NineBoards$Reader" 118 2 2 := ⟨_, _, _, rfl, ci_Lake, by decide, (mt_2 (List.mem_of_getElem? (i := 36) rfl) rfl)⟩
theorem d_Reader_readLake_63 : decode prog_8_method_5_code 63 = .ok (.invokevirtual 111, 3) := by decide +kernel
theorem d_Reader_readLake_66 : decode prog_8_method_5_code 66 = .ok (.putfield 121, 3) := by decide +kernel
theorem pf_Reader_121 : PF "NineBoards$Reader" 121 2 3 (.int) false := ⟨_, _, _, ct_Lake, rfl, ci_Lake, by decide, (mt_2 (List.mem_of_getElem? (i := 41) rfl) rfl), cp_Lake, cn_Lake, rfl, by decide +kernel, (fun h => by cases h)⟩
theorem d_Reader_readLake_69 : decode prog_8_method_5_code 69 = .ok (.return_, 1) := by decide +kernel
theorem d_Reader_readChapel_0 : decode prog_8_method_11_code 0 = .ok (.aload_n 0, 1) := by decide +kernel
theorem d_Reader_readChapel_1 : decode prog_8_method_11_code 1 = .ok (.invokevirtual 53, 3) := by decide +kernel
theorem d_Reader_readChapel_4 : decode prog_8_method_11_code 4 = .ok (.aload_n 0, 1) := by decide +kernel
theorem d_Reader_readChapel_5 : decode prog_8_method_11_code 5 = .ok (.getfield 23, 3) := by decide +kernel
theorem d_Reader_readChapel_8 : decode prog_8_method_11_code 8 = .ok (.aload_n 0, 1) := by decide +kernel
theorem d_Reader_readChapel_9 : decode prog_8_method_11_code 9 = .ok (.iconst 0, 1) := by decide +kernel
theorem d_Reader_readChapel_10 : decode prog_8_method_11_code 10 = .ok (.sipush 9999, 3) := by decide +kernel
theorem d_Reader_readChapel_13 : decode prog_8_method_11_code 13 = .ok (.invokevirtual 111, 3) := by decide +kernel
theorem d_Reader_readChapel_16 : decode prog_8_method_11_code 16 = .ok (.putfield 209, 3) := by decide +kernel
theorem pf_Reader_209 : PF "NineBoards$Reader" 209 2 10 (.int) false := ⟨_, _, _, ct_Lake, rfl, ci_Lake, by decide, (mt_2 (List.mem_of_getElem? (i := 68) rfl) rfl), cp_Lake, cn_Lake, rfl, by decide +kernel, (fun h => by cases h)⟩
theorem d_Reader_readChapel_19 : decode prog_8_method_11_code 19 = .ok (.aload_n 0, 1) := by decide +kernel
theorem d_Reader_readChapel_20 : decode prog_8_method_11_code 20 = .ok (.bipush 19, 2) := by decide +kernel
theorem d_Reader_readChapel_22 : decode prog_8_method_11_code 22 = .ok (.invokevirtual 108, 3) := by decide +kernel
theorem d_Reader_readChapel_25 : decode prog_8_method_11_code 25 = .ok (.aload_n 0, 1) := by decide +kernel
theorem d_Reader_readChapel_26 : decode prog_8_method_11_code 26 = .ok (.getfield 23, 3) := by decide +kernel
theorem d_Reader_readChapel_29 : decode prog_8_method_11_code 29 = .ok (.aload_n 0, 1) := by decide +kernel
theorem d_Reader_readChapel_30 : decode prog_8_method_11_code 30 = .ok (.iconst 0, 1) := by decide +kernel
theorem d_Reader_readChapel_31 : decode prog_8_method_11_code 31 = .ok (.bipush 99, 2) := by decide +kernel
theorem d_Reader_readChapel_33 : decode prog_8_method_11_code 33 = .ok (.invokevirtual 111, 3) := by decide +kernel
theorem d_Reader_readChapel_36 : decode prog_8_method_11_code 36 = .ok (.putfield 212, 3) := by decide +kernel
theorem pf_Reader_212 : PF "NineBoards$Reader" 212 2 11 (.int) false := ⟨_, _, _, ct_Lake, rfl, ci_Lake, by decide, (mt_2 (List.mem_of_getElem? (i := 71) rfl) rfl), cp_Lake, cn_Lake, rfl, by decide +kernel, (fun h => by cases h)⟩
theorem d_Reader_readChapel_39 : decode prog_8_method_11_code 39 = .ok (.return_, 1) := by decide +kernel
theorem d_Reader_readBank_0 : decode prog_8_method_12_code 0 = .ok (.aload_n 0, 1) := by decide +kernel
theorem d_Reader_readBank_1 : decode prog_8_method_12_code 1 = .ok (.invokevirtual 53, 3) := by decide +kernel
theorem d_Reader_readBank_4 : decode prog_8_method_12_code 4 = .ok (.aload_n 0, 1) := by decide +kernel
theorem d_Reader_readBank_5 : decode prog_8_method_12_code 5 = .ok (.getfield 23, 3) := by decide +kernel
theorem d_Reader_readBank_8 : decode prog_8_method_12_code 8 = .ok (.aload_n 0, 1) := by decide +kernel
theorem d_Reader_readBank_9 : decode prog_8_method_12_code 9 = .ok (.iconst 0, 1) := by decide +kernel
theorem d_Reader_readBank_10 : decode prog_8_method_12_code 10 = .ok (.sipush 9999, 3) := by decide +kernel
theorem d_Reader_readBank_13 : decode prog_8_method_12_code 13 = .ok (.invokevirtual 111, 3) := by decide +kernel
theorem d_Reader_readBank_16 : decode prog_8_method_12_code 16 = .ok (.putfield 215, 3) := by decide +kernel
theorem pf_Reader_215 : PF "NineBoards$Reader" 215 2 12 (.int) false := ⟨_, _, _, ct_Lake, rfl, ci_Lake, by decide, (mt_2 (List.mem_of_getElem? (i := 74) rfl) rfl), cp_Lake, cn_Lake, rfl, by decide +kernel, (fun h => by cases h)⟩
theorem d_Reader_readBank_19 : decode prog_8_method_12_code 19 = .ok (.aload_n 0, 1) := by decide +kernel
theorem d_Reader_readBank_20 : decode prog_8_method_12_code 20 = .ok (.bipush 19, 2) := by decide +kernel
theorem d_Reader_readBank_22 : decode prog_8_method_12_code 22 = .ok (.invokevirtual 108, 3) := by decide +kernel
theorem d_Reader_readBank_25 : decode prog_8_method_12_code 25 = .ok (.aload_n 0, 1) := by decide +kernel
theorem d_Reader_readBank_26 : decode prog_8_method_12_code 26 = .ok (.getfield 23, 3) := by decide +kernel
theorem d_Reader_readBank_29 : decode prog_8_method_12_code 29 = .ok (.aload_n 0, 1) := by decide +kernel
theorem d_Reader_readBank_30 : decode prog_8_method_12_code 30 = .ok (.iconst 0, 1) := by decide +kernel
theorem d_Reader_readBank_31 : decode prog_8_method_12_code 31 = .ok (.bipush 99, 2) := by decide +kernel
theorem d_Reader_readBank_33 : decode prog_8_method_12_code 33 = .ok (.invokevirtual 111, 3) := by decide +kernel
theorem d_Reader_readBank_36 : decode prog_8_method_12_code 36 = .ok (.putfield 218, 3) := by decide +kernel
theorem pf_Reader_218 : PF "NineBoards$Reader" 218 2 13 (.int) false := ⟨_, _, _, ct_Lake, rfl, ci_Lake, by decide, (mt_2 (List.mem_of_getElem? (i := 77) rfl) rfl), cp_Lake, cn_Lake, rfl, by decide +kernel, (fun h => by cases h)⟩
theorem d_Reader_readBank_39 : decode prog_8_method_12_code 39 = .ok (.return_, 1) := by decide +kernel
theorem d_Reader_readGateKind_0 : decode prog_8_method_7_code 0 = .ok (.aload_n 0, 1) := by decide +kernel
theorem d_Reader_readGateKind_1 : decode prog_8_method_7_code 1 = .ok (.getfield 50, 3) := by decide +kernel
theorem d_Reader_readGateKind_4 : decode prog_8_method_7_code 4 = .ok (.iconst 1, 1) := by decide +kernel
theorem d_Reader_readGateKind_5 : decode prog_8_method_7_code 5 = .ok (.if_icmp .ne 10, 3) := by decide +kernel
theorem d_Reader_readGateKind_15 : decode prog_8_method_7_code 15 = .ok (.iconst (-1), 1) := by decide +kernel
theorem d_Reader_readGateKind_16 : decode prog_8_method_7_code 16 = .ok (.tableswitch 153 5 8 #[32, 46, 73, 100], 32) := by decide +kernel
theorem d_Reader_readGateKind_169 : decode prog_8_method_7_code 169 = .ok (.aload_n 0, 1) := by decide +kernel
theorem d_Reader_readGateKind_170 : decode prog_8_method_7_code 170 = .ok (.iconst 1, 1) := by decide +kernel
theorem d_Reader_readGateKind_171 : decode prog_8_method_7_code 171 = .ok (.aload_n 0, 1) := by decide +kernel
theorem d_Reader_readGateKind_172 : decode prog_8_method_7_code 172 = .ok (.getfield 62, 3) := by decide +kernel
theorem d_Reader_readGateKind_175 : decode prog_8_method_7_code 175 = .ok (.invokevirtual 65, 3) := by decide +kernel
theorem d_Reader_readGateKind_178 : decode prog_8_method_7_code 178 = .ok (.return_, 1) := by decide +kernel
theorem d_Reader_readGateKind_8 : decode prog_8_method_7_code 8 = .ok (.aload_n 0, 1) := by decide +kernel
theorem d_Reader_readGateKind_9 : decode prog_8_method_7_code 9 = .ok (.getfield 80, 3) := by decide +kernel
theorem d_Reader_readGateKind_12 : decode prog_8_method_7_code 12 = .ok (.goto 4, 3) := by decide +kernel
theorem d_Reader_readGateKind_48 : decode prog_8_method_7_code 48 = .ok (.aload_n 1, 1) := by decide +kernel
theorem d_Reader_readGateKind_49 : decode prog_8_method_7_code 49 = .ok (.getfield 157, 3) := by decide +kernel
theorem gf_Reader_157 : GF "NineBoards$Reader" 157 1 2 := ⟨_, _, _, rfl, ci_Gates, by decide, (mt_1 (List.mem_of_getElem? (i := 148) rfl) rfl)⟩
theorem d_Reader_readGateKind_52 : decode prog_8_method_7_code 52 = .ok (.iload_n 2, 1) := by decide +kernel
theorem d_Reader_readGateKind_53 : decode prog_8_method_7_code 53 = .ok (.iconst 0, 1) := by decide +kernel
theorem d_Reader_readGateKind_54 : decode prog_8_method_7_code 54 = .ok (.iastore, 1) := by decide +kernel
theorem d_Reader_readGateKind_55 : decode prog_8_method_7_code 55 = .ok (.aload_n 0, 1) := by decide +kernel
theorem d_Reader_readGateKind_56 : decode prog_8_method_7_code 56 = .ok (.invokevirtual 53, 3) := by decide +kernel
theorem d_Reader_readGateKind_59 : decode prog_8_method_7_code 59 = .ok (.goto 119, 3) := by decide +kernel
theorem d_Reader_readGateKind_62 : decode prog_8_method_7_code 62 = .ok (.aload_n 1, 1) := by decide +kernel
theorem d_Reader_readGateKind_63 : decode prog_8_method_7_code 63 = .ok (.getfield 157, 3) := by decide +kernel
theorem d_Reader_readGateKind_66 : decode prog_8_method_7_code 66 = .ok (.iload_n 2, 1) := by decide +kernel
theorem d_Reader_readGateKind_67 : decode prog_8_method_7_code 67 = .ok (.iconst 1, 1) := by decide +kernel
theorem d_Reader_readGateKind_68 : decode prog_8_method_7_code 68 = .ok (.iastore, 1) := by decide +kernel
theorem d_Reader_readGateKind_69 : decode prog_8_method_7_code 69 = .ok (.aload_n 0, 1) := by decide +kernel
theorem d_Reader_readGateKind_70 : decode prog_8_method_7_code 70 = .ok (.invokevirtual 53, 3) := by decide +kernel
theorem d_Reader_readGateKind_73 : decode prog_8_method_7_code 73 = .ok (.aload_n 1, 1) := by decide +kernel
theorem d_Reader_readGateKind_74 : decode prog_8_method_7_code 74 = .ok (.getfield 160, 3) := by decide +kernel
theorem gf_Reader_160 : GF "NineBoards$Reader" 160 1 3 := ⟨_, _, _, rfl, ci_Gates, by decide, (mt_1 (List.mem_of_getElem? (i := 151) rfl) rfl)⟩
theorem d_Reader_readGateKind_77 : decode prog_8_method_7_code 77 = .ok (.iload_n 2, 1) := by decide +kernel
theorem d_Reader_readGateKind_78 : decode prog_8_method_7_code 78 = .ok (.aload_n 0, 1) := by decide +kernel
theorem d_Reader_readGateKind_79 : decode prog_8_method_7_code 79 = .ok (.iconst 1, 1) := by decide +kernel
theorem d_Reader_readGateKind_80 : decode prog_8_method_7_code 80 = .ok (.bipush 99, 2) := by decide +kernel
theorem d_Reader_readGateKind_82 : decode prog_8_method_7_code 82 = .ok (.invokevirtual 111, 3) := by decide +kernel
theorem d_Reader_readGateKind_85 : decode prog_8_method_7_code 85 = .ok (.iastore, 1) := by decide +kernel
theorem d_Reader_readGateKind_86 : decode prog_8_method_7_code 86 = .ok (.goto 92, 3) := by decide +kernel
theorem d_Reader_readGateKind_89 : decode prog_8_method_7_code 89 = .ok (.aload_n 1, 1) := by decide +kernel
theorem d_Reader_readGateKind_90 : decode prog_8_method_7_code 90 = .ok (.getfield 157, 3) := by decide +kernel
theorem d_Reader_readGateKind_93 : decode prog_8_method_7_code 93 = .ok (.iload_n 2, 1) := by decide +kernel
theorem d_Reader_readGateKind_94 : decode prog_8_method_7_code 94 = .ok (.iconst 2, 1) := by decide +kernel
theorem d_Reader_readGateKind_95 : decode prog_8_method_7_code 95 = .ok (.iastore, 1) := by decide +kernel
theorem d_Reader_readGateKind_96 : decode prog_8_method_7_code 96 = .ok (.aload_n 0, 1) := by decide +kernel
theorem d_Reader_readGateKind_97 : decode prog_8_method_7_code 97 = .ok (.invokevirtual 53, 3) := by decide +kernel
theorem d_Reader_readGateKind_100 : decode prog_8_method_7_code 100 = .ok (.aload_n 1, 1) := by decide +kernel
theorem d_Reader_readGateKind_101 : decode prog_8_method_7_code 101 = .ok (.getfield 160, 3) := by decide +kernel
theorem d_Reader_readGateKind_104 : decode prog_8_method_7_code 104 = .ok (.iload_n 2, 1) := by decide +kernel
theorem d_Reader_readGateKind_105 : decode prog_8_method_7_code 105 = .ok (.aload_n 0, 1) := by decide +kernel
theorem d_Reader_readGateKind_106 : decode prog_8_method_7_code 106 = .ok (.iconst 1, 1) := by decide +kernel
theorem d_Reader_readGateKind_107 : decode prog_8_method_7_code 107 = .ok (.bipush 9, 2) := by decide +kernel
theorem d_Reader_readGateKind_109 : decode prog_8_method_7_code 109 = .ok (.invokevirtual 111, 3) := by decide +kernel
theorem d_Reader_readGateKind_112 : decode prog_8_method_7_code 112 = .ok (.iastore, 1) := by decide +kernel
theorem d_Reader_readGateKind_113 : decode prog_8_method_7_code 113 = .ok (.goto 65, 3) := by decide +kernel
theorem d_Reader_readGateKind_116 : decode prog_8_method_7_code 116 = .ok (.aload_n 1, 1) := by decide +kernel
theorem d_Reader_readGateKind_117 : decode prog_8_method_7_code 117 = .ok (.getfield 157, 3) := by decide +kernel
theorem d_Reader_readGateKind_120 : decode prog_8_method_7_code 120 = .ok (.iload_n 2, 1) := by decide +kernel
theorem d_Reader_readGateKind_121 : decode prog_8_method_7_code 121 = .ok (.iconst 3, 1) := by decide +kernel
theorem d_Reader_readGateKind_122 : decode prog_8_method_7_code 122 = .ok (.iastore, 1) := by decide +kernel
theorem d_Reader_readGateKind_123 : decode prog_8_method_7_code 123 = .ok (.aload_n 0, 1) := by decide +kernel
theorem d_Reader_readGateKind_124 : decode prog_8_method_7_code 124 = .ok (.invokevirtual 53, 3) := by decide +kernel
theorem d_Reader_readGateKind_127 : decode prog_8_method_7_code 127 = .ok (.aload_n 1, 1) := by decide +kernel
theorem d_Reader_readGateKind_128 : decode prog_8_method_7_code 128 = .ok (.getfield 160, 3) := by decide +kernel
theorem d_Reader_readGateKind_131 : decode prog_8_method_7_code 131 = .ok (.iload_n 2, 1) := by decide +kernel
theorem d_Reader_readGateKind_132 : decode prog_8_method_7_code 132 = .ok (.aload_n 0, 1) := by decide +kernel
theorem d_Reader_readGateKind_133 : decode prog_8_method_7_code 133 = .ok (.iconst 0, 1) := by decide +kernel
theorem d_Reader_readGateKind_134 : decode prog_8_method_7_code 134 = .ok (.sipush 999, 3) := by decide +kernel
theorem d_Reader_readGateKind_137 : decode prog_8_method_7_code 137 = .ok (.invokevirtual 111, 3) := by decide +kernel
theorem d_Reader_readGateKind_140 : decode prog_8_method_7_code 140 = .ok (.iastore, 1) := by decide +kernel
theorem d_Reader_readGateKind_141 : decode prog_8_method_7_code 141 = .ok (.aload_n 0, 1) := by decide +kernel
theorem d_Reader_readGateKind_142 : decode prog_8_method_7_code 142 = .ok (.bipush 9, 2) := by decide +kernel
theorem d_Reader_readGateKind_144 : decode prog_8_method_7_code 144 = .ok (.invokevirtual 108, 3) := by decide +kernel
theorem d_Reader_readGateKind_147 : decode prog_8_method_7_code 147 = .ok (.aload_n 1, 1) := by decide +kernel
theorem d_Reader_readGateKind_148 : decode prog_8_method_7_code 148 = .ok (.getfield 163, 3) := by decide +kernel
theorem gf_Reader_163 : GF "NineBoards$Reader" 163 1 4 := ⟨_, _, _, rfl, ci_Gates, by decide, (mt_1 (List.mem_of_getElem? (i := 153) rfl) rfl)⟩
theorem d_Reader_readGateKind_151 : decode prog_8_method_7_code 151 = .ok (.iload_n 2, 1) := by decide +kernel
theorem d_Reader_readGateKind_152 : decode prog_8_method_7_code 152 = .ok (.aload_n 0, 1) := by decide +kernel
theorem d_Reader_readGateKind_153 : decode prog_8_method_7_code 153 = .ok (.aload_n 1, 1) := by decide +kernel
theorem d_Reader_readGateKind_154 : decode prog_8_method_7_code 154 = .ok (.getfield 160, 3) := by decide +kernel
theorem d_Reader_readGateKind_157 : decode prog_8_method_7_code 157 = .ok (.iload_n 2, 1) := by decide +kernel
theorem d_Reader_readGateKind_158 : decode prog_8_method_7_code 158 = .ok (.iaload, 1) := by decide +kernel
theorem d_Reader_readGateKind_159 : decode prog_8_method_7_code 159 = .ok (.sipush 999, 3) := by decide +kernel
theorem d_Reader_readGateKind_162 : decode prog_8_method_7_code 162 = .ok (.invokevirtual 111, 3) := by decide +kernel
theorem d_Reader_readGateKind_165 : decode prog_8_method_7_code 165 = .ok (.iastore, 1) := by decide +kernel
theorem d_Reader_readGateKind_166 : decode prog_8_method_7_code 166 = .ok (.goto 12, 3) := by decide +kernel
theorem to_5_8 {x : Int32} (h0 : ¬ x = 5) (h1 : ¬ x = 6) (h2 : ¬ x = 7) (h3 : ¬ x = 8) : x.toInt < 5 ∨ 8 < x.toInt := by
  have g0 : x.toInt ≠ 5 := fun e => h0 (Int32.toInt_inj.mp (e.trans (by decide)))
  have g1 : x.toInt ≠ 6 := fun e => h1 (Int32.toInt_inj.mp (e.trans (by decide)))
  have g2 : x.toInt ≠ 7 := fun e => h2 (Int32.toInt_inj.mp (e.trans (by decide)))
  have g3 : x.toInt ≠ 8 := fun e => h3 (Int32.toInt_inj.mp (e.trans (by decide)))
  omega
theorem d_Reader_readGate_0 : decode prog_8_method_6_code 0 = .ok (.aload_n 0, 1) := by decide +kernel
theorem d_Reader_readGate_1 : decode prog_8_method_6_code 1 = .ok (.getfield 23, 3) := by decide +kernel
theorem d_Reader_readGate_4 : decode prog_8_method_6_code 4 = .ok (.getfield 124, 3) := by decide +kernel
theorem d_Reader_readGate_7 : decode prog_8_method_6_code 7 = .ok (.astore_n 1, 1) := by decide +kernel
theorem d_Reader_readGate_8 : decode prog_8_method_6_code 8 = .ok (.aload_n 1, 1) := by decide +kernel
theorem d_Reader_readGate_9 : decode prog_8_method_6_code 9 = .ok (.getfield 128, 3) := by decide +kernel
theorem gf_Reader_128 : GF "NineBoards$Reader" 128 1 0 := ⟨_, _, _, rfl, ci_Gates, by decide, (mt_1 (List.mem_of_getElem? (i := 142) rfl) rfl)⟩
theorem d_Reader_readGate_12 : decode prog_8_method_6_code 12 = .ok (.istore_n 2, 1) := by decide +kernel
theorem d_Reader_readGate_13 : decode prog_8_method_6_code 13 = .ok (.aload_n 0, 1) := by decide +kernel
theorem d_Reader_readGate_14 : decode prog_8_method_6_code 14 = .ok (.iload_n 2, 1) := by decide +kernel
theorem d_Reader_readGate_15 : decode prog_8_method_6_code 15 = .ok (.bipush 9, 2) := by decide +kernel
theorem d_Reader_readGate_17 : decode prog_8_method_6_code 17 = .ok (.invokevirtual 133, 3) := by decide +kernel
theorem kw_Reader_133 : KW "NineBoards$Reader" 133 ⟨"NineBoards$Reader", "readKind", "(II)Z"⟩ prog_8_method_14_code 3 (some .boolean) 2 := ⟨(mt_3 (List.mem_of_getElem? (i := 105) rfl) rfl), (mt_1 (List.mem_of_getElem? (i := 10) rfl) rfl), (mt_3 (List.mem_of_getElem? (i := 108) rfl) rfl), by decide +kernel⟩
theorem kv_Reader_readKind : Cond.instanceMethod ⟨"NineBoards$Reader", "readKind", "(II)Z"⟩ ∈ TB ∧ Cond.selects "NineBoards$Reader" ⟨"NineBoards$Reader", "readKind", "(II)Z"⟩ ⟨"NineBoards$Reader", "readKind", "(II)Z"⟩ ∈ TB := ⟨(mt_3 (List.mem_of_getElem? (i := 107) rfl) rfl), (ms_0 (List.mem_map.mpr ⟨(⟨"NineBoards$Reader", "readKind", "(II)Z"⟩, 12), List.mem_of_getElem? (i := 12) (by decide +kernel), rfl⟩) rfl)⟩
theorem d_Reader_readGate_20 : decode prog_8_method_6_code 20 = .ok (.ifCond .ne 4, 3) := by decide +kernel
theorem d_Reader_readGate_23 : decode prog_8_method_6_code 23 = .ok (.return_, 1) := by decide +kernel
theorem d_Reader_readGate_24 : decode prog_8_method_6_code 24 = .ok (.aload_n 1, 1) := by decide +kernel
theorem d_Reader_readGate_25 : decode prog_8_method_6_code 25 = .ok (.getfield 137, 3) := by decide +kernel
theorem gf_Reader_137 : GF "NineBoards$Reader" 137 1 1 := ⟨_, _, _, rfl, ci_Gates, by decide, (mt_1 (List.mem_of_getElem? (i := 145) rfl) rfl)⟩
theorem d_Reader_readGate_28 : decode prog_8_method_6_code 28 = .ok (.iload_n 2, 1) := by decide +kernel
theorem d_Reader_readGate_29 : decode prog_8_method_6_code 29 = .ok (.aload_n 0, 1) := by decide +kernel
theorem d_Reader_readGate_30 : decode prog_8_method_6_code 30 = .ok (.invokevirtual 141, 3) := by decide +kernel
theorem kw_Reader_141 : KW "NineBoards$Reader" 141 ⟨"NineBoards$Reader", "readNewName", "()I"⟩ prog_8_method_29_code 3 (some .int) 0 := ⟨(mt_3 (List.mem_of_getElem? (i := 153) rfl) rfl), (mt_1 (List.mem_of_getElem? (i := 10) rfl) rfl), (mt_3 (List.mem_of_getElem? (i := 156) rfl) rfl), by decide +kernel⟩
theorem kv_Reader_readNewName : Cond.instanceMethod ⟨"NineBoards$Reader", "readNewName", "()I"⟩ ∈ TB ∧ Cond.selects "NineBoards$Reader" ⟨"NineBoards$Reader", "readNewName", "()I"⟩ ⟨"NineBoards$Reader", "readNewName", "()I"⟩ ∈ TB := ⟨(mt_3 (List.mem_of_getElem? (i := 155) rfl) rfl), (ms_0 (List.mem_map.mpr ⟨(⟨"NineBoards$Reader", "readNewName", "()I"⟩, 12), List.mem_of_getElem? (i := 23) (by decide +kernel), rfl⟩) rfl)⟩
theorem d_Reader_readGate_33 : decode prog_8_method_6_code 33 = .ok (.iastore, 1) := by decide +kernel
theorem d_Reader_readGate_34 : decode prog_8_method_6_code 34 = .ok (.aload_n 0, 1) := by decide +kernel
theorem d_Reader_readGate_35 : decode prog_8_method_6_code 35 = .ok (.aload_n 1, 1) := by decide +kernel
theorem d_Reader_readGate_36 : decode prog_8_method_6_code 36 = .ok (.iload_n 2, 1) := by decide +kernel
theorem d_Reader_readGate_37 : decode prog_8_method_6_code 37 = .ok (.invokevirtual 144, 3) := by decide +kernel
theorem kw_Reader_144 : KW "NineBoards$Reader" 144 ⟨"NineBoards$Reader", "readGateKind", "(LNineBoards$Gates;I)V"⟩ prog_8_method_7_code 3 none 2 := ⟨(mt_3 (List.mem_of_getElem? (i := 169) rfl) rfl), (mt_1 (List.mem_of_getElem? (i := 10) rfl) rfl), (mt_3 (List.mem_of_getElem? (i := 172) rfl) rfl), by decide +kernel⟩
theorem kv_Reader_readGateKind : Cond.instanceMethod ⟨"NineBoards$Reader", "readGateKind", "(LNineBoards$Gates;I)V"⟩ ∈ TB ∧ Cond.selects "NineBoards$Reader" ⟨"NineBoards$Reader", "readGateKind", "(LNineBoards$Gates;I)V"⟩ ⟨"NineBoards$Reader", "readGateKind", "(LNineBoards$Gates;I)V"⟩ ∈ TB := ⟨(mt_3 (List.mem_of_getElem? (i := 171) rfl) rfl), (ms_0 (List.mem_map.mpr ⟨(⟨"NineBoards$Reader", "readGateKind", "(LNineBoards$Gates;I)V"⟩, 12), List.mem_of_getElem? (i := 25) (by decide +kernel), rfl⟩) rfl)⟩
theorem d_Reader_readGate_40 : decode prog_8_method_6_code 40 = .ok (.aload_n 0, 1) := by decide +kernel
theorem d_Reader_readGate_41 : decode prog_8_method_6_code 41 = .ok (.bipush 10, 2) := by decide +kernel
theorem d_Reader_readGate_43 : decode prog_8_method_6_code 43 = .ok (.invokevirtual 108, 3) := by decide +kernel
theorem d_Reader_readGate_46 : decode prog_8_method_6_code 46 = .ok (.aload_n 1, 1) := by decide +kernel
theorem d_Reader_readGate_47 : decode prog_8_method_6_code 47 = .ok (.getfield 148, 3) := by decide +kernel
theorem gf_Reader_148 : GF "NineBoards$Reader" 148 1 5 := ⟨_, _, _, rfl, ci_Gates, by decide, (mt_1 (List.mem_of_getElem? (i := 156) rfl) rfl)⟩
theorem d_Reader_readGate_50 : decode prog_8_method_6_code 50 = .ok (.iload_n 2, 1) := by decide +kernel
theorem d_Reader_readGate_51 : decode prog_8_method_6_code 51 = .ok (.aload_n 0, 1) := by decide +kernel
theorem d_Reader_readGate_52 : decode prog_8_method_6_code 52 = .ok (.iconst 0, 1) := by decide +kernel
theorem d_Reader_readGate_53 : decode prog_8_method_6_code 53 = .ok (.bipush 20, 2) := by decide +kernel
theorem d_Reader_readGate_55 : decode prog_8_method_6_code 55 = .ok (.invokevirtual 111, 3) := by decide +kernel
theorem d_Reader_readGate_58 : decode prog_8_method_6_code 58 = .ok (.iastore, 1) := by decide +kernel
theorem d_Reader_readGate_59 : decode prog_8_method_6_code 59 = .ok (.aload_n 0, 1) := by decide +kernel
theorem d_Reader_readGate_60 : decode prog_8_method_6_code 60 = .ok (.bipush 11, 2) := by decide +kernel
theorem d_Reader_readGate_62 : decode prog_8_method_6_code 62 = .ok (.invokevirtual 108, 3) := by decide +kernel
theorem d_Reader_readGate_65 : decode prog_8_method_6_code 65 = .ok (.aload_n 1, 1) := by decide +kernel
theorem d_Reader_readGate_66 : decode prog_8_method_6_code 66 = .ok (.getfield 151, 3) := by decide +kernel
theorem gf_Reader_151 : GF "NineBoards$Reader" 151 1 6 := ⟨_, _, _, rfl, ci_Gates, by decide, (mt_1 (List.mem_of_getElem? (i := 158) rfl) rfl)⟩
theorem d_Reader_readGate_69 : decode prog_8_method_6_code 69 = .ok (.iload_n 2, 1) := by decide +kernel
theorem d_Reader_readGate_70 : decode prog_8_method_6_code 70 = .ok (.aload_n 0, 1) := by decide +kernel
theorem d_Reader_readGate_71 : decode prog_8_method_6_code 71 = .ok (.iconst 1, 1) := by decide +kernel
theorem d_Reader_readGate_72 : decode prog_8_method_6_code 72 = .ok (.bipush 99, 2) := by decide +kernel
theorem d_Reader_readGate_74 : decode prog_8_method_6_code 74 = .ok (.invokevirtual 111, 3) := by decide +kernel
theorem d_Reader_readGate_77 : decode prog_8_method_6_code 77 = .ok (.iastore, 1) := by decide +kernel
theorem d_Reader_readGate_78 : decode prog_8_method_6_code 78 = .ok (.aload_n 1, 1) := by decide +kernel
theorem d_Reader_readGate_79 : decode prog_8_method_6_code 79 = .ok (.getfield 154, 3) := by decide +kernel
theorem gf_Reader_154 : GF "NineBoards$Reader" 154 1 7 := ⟨_, _, _, rfl, ci_Gates, by decide, (mt_1 (List.mem_of_getElem? (i := 162) rfl) rfl)⟩
theorem d_Reader_readGate_82 : decode prog_8_method_6_code 82 = .ok (.iload_n 2, 1) := by decide +kernel
theorem d_Reader_readGate_83 : decode prog_8_method_6_code 83 = .ok (.iconst (-1), 1) := by decide +kernel
theorem d_Reader_readGate_84 : decode prog_8_method_6_code 84 = .ok (.iastore, 1) := by decide +kernel
theorem d_Reader_readGate_85 : decode prog_8_method_6_code 85 = .ok (.aload_n 1, 1) := by decide +kernel
theorem d_Reader_readGate_86 : decode prog_8_method_6_code 86 = .ok (.iload_n 2, 1) := by decide +kernel
theorem d_Reader_readGate_87 : decode prog_8_method_6_code 87 = .ok (.iconst 1, 1) := by decide +kernel
theorem d_Reader_readGate_88 : decode prog_8_method_6_code 88 = .ok (.iadd, 1) := by decide +kernel
theorem d_Reader_readGate_89 : decode prog_8_method_6_code 89 = .ok (.putfield 128, 3) := by decide +kernel
theorem pf_Reader_128 : PF "NineBoards$Reader" 128 1 0 (.int) false := ⟨_, _, _, ct_Gates, rfl, ci_Gates, by decide, (mt_1 (List.mem_of_getElem? (i := 142) rfl) rfl), cp_Gates, cn_Gates, rfl, by decide +kernel, (fun h => by cases h)⟩
theorem d_Reader_readGate_92 : decode prog_8_method_6_code 92 = .ok (.return_, 1) := by decide +kernel
theorem d_Reader_readJoin_0 : decode prog_8_method_8_code 0 = .ok (.aload_n 0, 1) := by decide +kernel
theorem d_Reader_readJoin_1 : decode prog_8_method_8_code 1 = .ok (.invokevirtual 53, 3) := by decide +kernel
theorem d_Reader_readJoin_4 : decode prog_8_method_8_code 4 = .ok (.aload_n 0, 1) := by decide +kernel
theorem d_Reader_readJoin_5 : decode prog_8_method_8_code 5 = .ok (.getfield 62, 3) := by decide +kernel
theorem d_Reader_readJoin_8 : decode prog_8_method_8_code 8 = .ok (.istore_n 1, 1) := by decide +kernel
theorem d_Reader_readJoin_9 : decode prog_8_method_8_code 9 = .ok (.aload_n 0, 1) := by decide +kernel
theorem d_Reader_readJoin_10 : decode prog_8_method_8_code 10 = .ok (.invokevirtual 166, 3) := by decide +kernel
theorem kw_Reader_166 : KW "NineBoards$Reader" 166 ⟨"NineBoards$Reader", "readGateName", "()I"⟩ prog_8_method_30_code 3 (some .int) 0 := ⟨(mt_3 (List.mem_of_getElem? (i := 177) rfl) rfl), (mt_1 (List.mem_of_getElem? (i := 10) rfl) rfl), (mt_3 (List.mem_of_getElem? (i := 180) rfl) rfl), by decide +kernel⟩
theorem kv_Reader_readGateName : Cond.instanceMethod ⟨"NineBoards$Reader", "readGateName", "()I"⟩ ∈ TB ∧ Cond.selects "NineBoards$Reader" ⟨"NineBoards$Reader", "readGateName", "()I"⟩ ⟨"NineBoards$Reader", "readGateName", "()I"⟩ ∈ TB := ⟨(mt_3 (List.mem_of_getElem? (i := 179) rfl) rfl), (ms_0 (List.mem_map.mpr ⟨(⟨"NineBoards$Reader", "readGateName", "()I"⟩, 12), List.mem_of_getElem? (i := 27) (by decide +kernel), rfl⟩) rfl)⟩
theorem d_Reader_readJoin_13 : decode prog_8_method_8_code 13 = .ok (.istore_n 2, 1) := by decide +kernel
theorem d_Reader_readJoin_14 : decode prog_8_method_8_code 14 = .ok (.iload_n 2, 1) := by decide +kernel
theorem d_Reader_readJoin_15 : decode prog_8_method_8_code 15 = .ok (.iconst (-1), 1) := by decide +kernel
theorem d_Reader_readJoin_16 : decode prog_8_method_8_code 16 = .ok (.if_icmp .eq 25, 3) := by decide +kernel
theorem d_Reader_readJoin_41 : decode prog_8_method_8_code 41 = .ok (.aload_n 0, 1) := by decide +kernel
theorem d_Reader_readJoin_42 : decode prog_8_method_8_code 42 = .ok (.getfield 62, 3) := by decide +kernel
theorem d_Reader_readJoin_45 : decode prog_8_method_8_code 45 = .ok (.istore_n 1, 1) := by decide +kernel
theorem d_Reader_readJoin_46 : decode prog_8_method_8_code 46 = .ok (.aload_n 0, 1) := by decide +kernel
theorem d_Reader_readJoin_47 : decode prog_8_method_8_code 47 = .ok (.invokevirtual 166, 3) := by decide +kernel
theorem d_Reader_readJoin_50 : decode prog_8_method_8_code 50 = .ok (.istore_n 3, 1) := by decide +kernel
theorem d_Reader_readJoin_51 : decode prog_8_method_8_code 51 = .ok (.iload_n 3, 1) := by decide +kernel
theorem d_Reader_readJoin_52 : decode prog_8_method_8_code 52 = .ok (.iconst (-1), 1) := by decide +kernel
theorem d_Reader_readJoin_53 : decode prog_8_method_8_code 53 = .ok (.if_icmp .eq 30, 3) := by decide +kernel
theorem d_Reader_readJoin_83 : decode prog_8_method_8_code 83 = .ok (.aload_n 0, 1) := by decide +kernel
theorem d_Reader_readJoin_84 : decode prog_8_method_8_code 84 = .ok (.getfield 44, 3) := by decide +kernel
theorem d_Reader_readJoin_87 : decode prog_8_method_8_code 87 = .ok (.ifCond .ne 39, 3) := by decide +kernel
theorem d_Reader_readJoin_126 : decode prog_8_method_8_code 126 = .ok (.return_, 1) := by decide +kernel
theorem d_Reader_readJoin_90 : decode prog_8_method_8_code 90 = .ok (.iload_n 2, 1) := by decide +kernel
theorem d_Reader_readJoin_91 : decode prog_8_method_8_code 91 = .ok (.iconst (-1), 1) := by decide +kernel
theorem d_Reader_readJoin_92 : decode prog_8_method_8_code 92 = .ok (.if_icmp .eq 34, 3) := by decide +kernel
theorem d_Reader_readJoin_56 : decode prog_8_method_8_code 56 = .ok (.iload_n 3, 1) := by decide +kernel
theorem d_Reader_readJoin_57 : decode prog_8_method_8_code 57 = .ok (.iload_n 2, 1) := by decide +kernel
theorem d_Reader_readJoin_58 : decode prog_8_method_8_code 58 = .ok (.if_icmp .eq 19, 3) := by decide +kernel
theorem d_Reader_readJoin_61 : decode prog_8_method_8_code 61 = .ok (.aload_n 0, 1) := by decide +kernel
theorem d_Reader_readJoin_62 : decode prog_8_method_8_code 62 = .ok (.getfield 23, 3) := by decide +kernel
theorem d_Reader_readJoin_65 : decode prog_8_method_8_code 65 = .ok (.getfield 124, 3) := by decide +kernel
theorem d_Reader_readJoin_68 : decode prog_8_method_8_code 68 = .ok (.getfield 154, 3) := by decide +kernel
theorem d_Reader_readJoin_71 : decode prog_8_method_8_code 71 = .ok (.iload_n 3, 1) := by decide +kernel
theorem d_Reader_readJoin_72 : decode prog_8_method_8_code 72 = .ok (.iaload, 1) := by decide +kernel
theorem d_Reader_readJoin_73 : decode prog_8_method_8_code 73 = .ok (.iconst (-1), 1) := by decide +kernel
theorem d_Reader_readJoin_74 : decode prog_8_method_8_code 74 = .ok (.if_icmp .eq 9, 3) := by decide +kernel
theorem d_Reader_readJoin_77 : decode prog_8_method_8_code 77 = .ok (.aload_n 0, 1) := by decide +kernel
theorem d_Reader_readJoin_78 : decode prog_8_method_8_code 78 = .ok (.iconst 3, 1) := by decide +kernel
theorem d_Reader_readJoin_79 : decode prog_8_method_8_code 79 = .ok (.iload_n 1, 1) := by decide +kernel
theorem d_Reader_readJoin_80 : decode prog_8_method_8_code 80 = .ok (.invokevirtual 65, 3) := by decide +kernel
theorem d_Reader_readJoin_19 : decode prog_8_method_8_code 19 = .ok (.aload_n 0, 1) := by decide +kernel
theorem d_Reader_readJoin_20 : decode prog_8_method_8_code 20 = .ok (.getfield 23, 3) := by decide +kernel
theorem d_Reader_readJoin_23 : decode prog_8_method_8_code 23 = .ok (.getfield 124, 3) := by decide +kernel
theorem d_Reader_readJoin_26 : decode prog_8_method_8_code 26 = .ok (.getfield 154, 3) := by decide +kernel
theorem d_Reader_readJoin_29 : decode prog_8_method_8_code 29 = .ok (.iload_n 2, 1) := by decide +kernel
theorem d_Reader_readJoin_30 : decode prog_8_method_8_code 30 = .ok (.iaload, 1) := by decide +kernel
theorem d_Reader_readJoin_31 : decode prog_8_method_8_code 31 = .ok (.iconst (-1), 1) := by decide +kernel
theorem d_Reader_readJoin_32 : decode prog_8_method_8_code 32 = .ok (.if_icmp .eq 9, 3) := by decide +kernel
theorem d_Reader_readJoin_95 : decode prog_8_method_8_code 95 = .ok (.iload_n 3, 1) := by decide +kernel
theorem d_Reader_readJoin_96 : decode prog_8_method_8_code 96 = .ok (.iconst (-1), 1) := by decide +kernel
theorem d_Reader_readJoin_97 : decode prog_8_method_8_code 97 = .ok (.if_icmp .eq 29, 3) := by decide +kernel
theorem d_Reader_readJoin_100 : decode prog_8_method_8_code 100 = .ok (.aload_n 0, 1) := by decide +kernel
theorem d_Reader_readJoin_101 : decode prog_8_method_8_code 101 = .ok (.getfield 23, 3) := by decide +kernel
theorem d_Reader_readJoin_104 : decode prog_8_method_8_code 104 = .ok (.getfield 124, 3) := by decide +kernel
theorem d_Reader_readJoin_107 : decode prog_8_method_8_code 107 = .ok (.getfield 154, 3) := by decide +kernel
theorem d_Reader_readJoin_110 : decode prog_8_method_8_code 110 = .ok (.iload_n 2, 1) := by decide +kernel
theorem d_Reader_readJoin_111 : decode prog_8_method_8_code 111 = .ok (.iload_n 3, 1) := by decide +kernel
theorem d_Reader_readJoin_112 : decode prog_8_method_8_code 112 = .ok (.iastore, 1) := by decide +kernel
theorem d_Reader_readJoin_113 : decode prog_8_method_8_code 113 = .ok (.aload_n 0, 1) := by decide +kernel
theorem d_Reader_readJoin_114 : decode prog_8_method_8_code 114 = .ok (.getfield 23, 3) := by decide +kernel
theorem d_Reader_readJoin_117 : decode prog_8_method_8_code 117 = .ok (.getfield 124, 3) := by decide +kernel
theorem d_Reader_readJoin_120 : decode prog_8_method_8_code 120 = .ok (.getfield 154, 3) := by decide +kernel
theorem d_Reader_readJoin_123 : decode prog_8_method_8_code 123 = .ok (.iload_n 3, 1) := by decide +kernel
theorem d_Reader_readJoin_124 : decode prog_8_method_8_code 124 = .ok (.iload_n 2, 1) := by decide +kernel
theorem d_Reader_readJoin_125 : decode prog_8_method_8_code 125 = .ok (.iastore, 1) := by decide +kernel
theorem d_Reader_readJoin_35 : decode prog_8_method_8_code 35 = .ok (.aload_n 0, 1) := by decide +kernel
theorem d_Reader_readJoin_36 : decode prog_8_method_8_code 36 = .ok (.iconst 3, 1) := by decide +kernel
theorem d_Reader_readJoin_37 : decode prog_8_method_8_code 37 = .ok (.iload_n 1, 1) := by decide +kernel
theorem d_Reader_readJoin_38 : decode prog_8_method_8_code 38 = .ok (.invokevirtual 65, 3) := by decide +kernel
theorem d_Reader_readVillage_0 : decode prog_8_method_9_code 0 = .ok (.aload_n 0, 1) := by decide +kernel
theorem d_Reader_readVillage_1 : decode prog_8_method_9_code 1 = .ok (.getfield 23, 3) := by decide +kernel
theorem d_Reader_readVillage_4 : decode prog_8_method_9_code 4 = .ok (.getfield 169, 3) := by decide +kernel
theorem gf_Reader_169 : GF "NineBoards$Reader" 169 2 5 := ⟨_, _, _, rfl, ci_Lake, by decide, (mt_2 (List.mem_of_getElem? (i := 49) rfl) rfl)⟩
theorem d_Reader_readVillage_7 : decode prog_8_method_9_code 7 = .ok (.istore_n 1, 1) := by decide +kernel
theorem d_Reader_readVillage_8 : decode prog_8_method_9_code 8 = .ok (.aload_n 0, 1) := by decide +kernel
theorem d_Reader_readVillage_9 : decode prog_8_method_9_code 9 = .ok (.iload_n 1, 1) := by decide +kernel
theorem d_Reader_readVillage_10 : decode prog_8_method_9_code 10 = .ok (.bipush 6, 2) := by decide +kernel
theorem d_Reader_readVillage_12 : decode prog_8_method_9_code 12 = .ok (.invokevirtual 133, 3) := by decide +kernel
theorem d_Reader_readVillage_15 : decode prog_8_method_9_code 15 = .ok (.ifCond .ne 4, 3) := by decide +kernel
theorem d_Reader_readVillage_18 : decode prog_8_method_9_code 18 = .ok (.return_, 1) := by decide +kernel
theorem d_Reader_readVillage_19 : decode prog_8_method_9_code 19 = .ok (.aload_n 0, 1) := by decide +kernel
theorem d_Reader_readVillage_20 : decode prog_8_method_9_code 20 = .ok (.getfield 23, 3) := by decide +kernel
theorem d_Reader_readVillage_23 : decode prog_8_method_9_code 23 = .ok (.getfield 172, 3) := by decide +kernel
theorem gf_Reader_172 : GF "NineBoards$Reader" 172 2 6 := ⟨_, _, _, rfl, ci_Lake, by decide, (mt_2 (List.mem_of_getElem? (i := 53) rfl) rfl)⟩
theorem d_Reader_readVillage_26 : decode prog_8_method_9_code 26 = .ok (.iload_n 1, 1) := by decide +kernel
theorem d_Reader_readVillage_27 : decode prog_8_method_9_code 27 = .ok (.aload_n 0, 1) := by decide +kernel
theorem d_Reader_readVillage_28 : decode prog_8_method_9_code 28 = .ok (.invokevirtual 141, 3) := by decide +kernel
theorem d_Reader_readVillage_31 : decode prog_8_method_9_code 31 = .ok (.iastore, 1) := by decide +kernel
theorem d_Reader_readVillage_32 : decode prog_8_method_9_code 32 = .ok (.aload_n 0, 1) := by decide +kernel
theorem d_Reader_readVillage_33 : decode prog_8_method_9_code 33 = .ok (.iconst 4, 1) := by decide +kernel
theorem d_Reader_readVillage_34 : decode prog_8_method_9_code 34 = .ok (.invokevirtual 108, 3) := by decide +kernel
theorem d_Reader_readVillage_37 : decode prog_8_method_9_code 37 = .ok (.aload_n 0, 1) := by decide +kernel
theorem d_Reader_readVillage_38 : decode prog_8_method_9_code 38 = .ok (.getfield 23, 3) := by decide +kernel
theorem d_Reader_readVillage_41 : decode prog_8_method_9_code 41 = .ok (.getfield 175, 3) := by decide +kernel
theorem gf_Reader_175 : GF "NineBoards$Reader" 175 2 7 := ⟨_, _, _, rfl, ci_Lake, by decide, (mt_2 (List.mem_of_getElem? (i := 56) rfl) rfl)⟩
theorem d_Reader_readVillage_44 : decode prog_8_method_9_code 44 = .ok (.iload_n 1, 1) := by decide +kernel
theorem d_Reader_readVillage_45 : decode prog_8_method_9_code 45 = .ok (.aload_n 0, 1) := by decide +kernel
theorem d_Reader_readVillage_46 : decode prog_8_method_9_code 46 = .ok (.invokevirtual 166, 3) := by decide +kernel
theorem d_Reader_readVillage_49 : decode prog_8_method_9_code 49 = .ok (.iastore, 1) := by decide +kernel
theorem d_Reader_readVillage_50 : decode prog_8_method_9_code 50 = .ok (.aload_n 0, 1) := by decide +kernel
theorem d_Reader_readVillage_51 : decode prog_8_method_9_code 51 = .ok (.getfield 23, 3) := by decide +kernel
theorem d_Reader_readVillage_54 : decode prog_8_method_9_code 54 = .ok (.iload_n 1, 1) := by decide +kernel
theorem d_Reader_readVillage_55 : decode prog_8_method_9_code 55 = .ok (.iconst 1, 1) := by decide +kernel
theorem d_Reader_readVillage_56 : decode prog_8_method_9_code 56 = .ok (.iadd, 1) := by decide +kernel
theorem d_Reader_readVillage_57 : decode prog_8_method_9_code 57 = .ok (.putfield 169, 3) := by decide +kernel
theorem pf_Reader_169 : PF "NineBoards$Reader" 169 2 5 (.int) false := ⟨_, _, _, ct_Lake, rfl, ci_Lake, by decide, (mt_2 (List.mem_of_getElem? (i := 49) rfl) rfl), cp_Lake, cn_Lake, rfl, by decide +kernel, (fun h => by cases h)⟩
theorem d_Reader_readVillage_60 : decode prog_8_method_9_code 60 = .ok (.return_, 1) := by decide +kernel
theorem d_Reader_readThing_0 : decode prog_8_method_10_code 0 = .ok (.aload_n 0, 1) := by decide +kernel
theorem d_Reader_readThing_1 : decode prog_8_method_10_code 1 = .ok (.getfield 23, 3) := by decide +kernel
theorem d_Reader_readThing_4 : decode prog_8_method_10_code 4 = .ok (.getfield 178, 3) := by decide +kernel
theorem gf_Reader_178 : GF "NineBoards$Reader" 178 2 8 := ⟨_, _, _, rfl, ci_Lake, by decide, (mt_2 (List.mem_of_getElem? (i := 60) rfl) rfl)⟩
theorem d_Reader_readThing_7 : decode prog_8_method_10_code 7 = .ok (.astore_n 1, 1) := by decide +kernel
theorem d_Reader_readThing_8 : decode prog_8_method_10_code 8 = .ok (.aload_n 1, 1) := by decide +kernel
theorem d_Reader_readThing_9 : decode prog_8_method_10_code 9 = .ok (.getfield 182, 3) := by decide +kernel
theorem gf_Reader_182 : GF "NineBoards$Reader" 182 8 0 := ⟨_, _, _, rfl, ci_Things, by decide, (mt_1 (List.mem_of_getElem? (i := 189) rfl) rfl)⟩
theorem d_Reader_readThing_12 : decode prog_8_method_10_code 12 = .ok (.istore_n 2, 1) := by decide +kernel
theorem d_Reader_readThing_13 : decode prog_8_method_10_code 13 = .ok (.aload_n 0, 1) := by decide +kernel
theorem d_Reader_readThing_14 : decode prog_8_method_10_code 14 = .ok (.iload_n 2, 1) := by decide +kernel
theorem d_Reader_readThing_15 : decode prog_8_method_10_code 15 = .ok (.bipush 16, 2) := by decide +kernel
theorem d_Reader_readThing_17 : decode prog_8_method_10_code 17 = .ok (.invokevirtual 133, 3) := by decide +kernel
theorem d_Reader_readThing_20 : decode prog_8_method_10_code 20 = .ok (.ifCond .ne 4, 3) := by decide +kernel
theorem d_Reader_readThing_23 : decode prog_8_method_10_code 23 = .ok (.return_, 1) := by decide +kernel
theorem d_Reader_readThing_24 : decode prog_8_method_10_code 24 = .ok (.aload_n 0, 1) := by decide +kernel
theorem d_Reader_readThing_25 : decode prog_8_method_10_code 25 = .ok (.getfield 62, 3) := by decide +kernel
theorem d_Reader_readThing_28 : decode prog_8_method_10_code 28 = .ok (.istore_n 3, 1) := by decide +kernel
theorem d_Reader_readThing_29 : decode prog_8_method_10_code 29 = .ok (.aload_n 1, 1) := by decide +kernel
theorem d_Reader_readThing_30 : decode prog_8_method_10_code 30 = .ok (.getfield 185, 3) := by decide +kernel
theorem gf_Reader_185 : GF "NineBoards$Reader" 185 8 1 := ⟨_, _, _, rfl, ci_Things, by decide, (mt_1 (List.mem_of_getElem? (i := 192) rfl) rfl)⟩
theorem d_Reader_readThing_33 : decode prog_8_method_10_code 33 = .ok (.iload_n 2, 1) := by decide +kernel
theorem d_Reader_readThing_34 : decode prog_8_method_10_code 34 = .ok (.aload_n 0, 1) := by decide +kernel
theorem d_Reader_readThing_35 : decode prog_8_method_10_code 35 = .ok (.getfield 23, 3) := by decide +kernel
theorem d_Reader_readThing_38 : decode prog_8_method_10_code 38 = .ok (.aload_n 0, 1) := by decide +kernel
theorem d_Reader_readThing_39 : decode prog_8_method_10_code 39 = .ok (.invokevirtual 188, 3) := by decide +kernel
theorem d_Reader_readThing_42 : decode prog_8_method_10_code 42 = .ok (.invokevirtual 191, 3) := by decide +kernel
theorem d_Reader_readThing_45 : decode prog_8_method_10_code 45 = .ok (.iastore, 1) := by decide +kernel
theorem d_Reader_readThing_46 : decode prog_8_method_10_code 46 = .ok (.aload_n 1, 1) := by decide +kernel
theorem d_Reader_readThing_47 : decode prog_8_method_10_code 47 = .ok (.getfield 185, 3) := by decide +kernel
theorem d_Reader_readThing_50 : decode prog_8_method_10_code 50 = .ok (.iload_n 2, 1) := by decide +kernel
theorem d_Reader_readThing_51 : decode prog_8_method_10_code 51 = .ok (.iaload, 1) := by decide +kernel
theorem d_Reader_readThing_52 : decode prog_8_method_10_code 52 = .ok (.iconst (-1), 1) := by decide +kernel
theorem d_Reader_readThing_53 : decode prog_8_method_10_code 53 = .ok (.if_icmp .ne 9, 3) := by decide +kernel
theorem d_Reader_readThing_56 : decode prog_8_method_10_code 56 = .ok (.aload_n 0, 1) := by decide +kernel
theorem d_Reader_readThing_57 : decode prog_8_method_10_code 57 = .ok (.iconst 3, 1) := by decide +kernel
theorem d_Reader_readThing_58 : decode prog_8_method_10_code 58 = .ok (.iload_n 3, 1) := by decide +kernel
theorem d_Reader_readThing_59 : decode prog_8_method_10_code 59 = .ok (.invokevirtual 65, 3) := by decide +kernel
theorem d_Reader_readThing_62 : decode prog_8_method_10_code 62 = .ok (.aload_n 0, 1) := by decide +kernel
theorem d_Reader_readThing_63 : decode prog_8_method_10_code 63 = .ok (.iconst 4, 1) := by decide +kernel
theorem d_Reader_readThing_64 : decode prog_8_method_10_code 64 = .ok (.invokevirtual 108, 3) := by decide +kernel
theorem d_Reader_readThing_67 : decode prog_8_method_10_code 67 = .ok (.aload_n 1, 1) := by decide +kernel
theorem d_Reader_readThing_68 : decode prog_8_method_10_code 68 = .ok (.getfield 195, 3) := by decide +kernel
theorem gf_Reader_195 : GF "NineBoards$Reader" 195 8 2 := ⟨_, _, _, rfl, ci_Things, by decide, (mt_1 (List.mem_of_getElem? (i := 196) rfl) rfl)⟩
theorem d_Reader_readThing_71 : decode prog_8_method_10_code 71 = .ok (.iload_n 2, 1) := by decide +kernel
theorem d_Reader_readThing_72 : decode prog_8_method_10_code 72 = .ok (.aload_n 0, 1) := by decide +kernel
theorem d_Reader_readThing_73 : decode prog_8_method_10_code 73 = .ok (.invokevirtual 166, 3) := by decide +kernel
theorem d_Reader_readThing_76 : decode prog_8_method_10_code 76 = .ok (.iastore, 1) := by decide +kernel
theorem d_Reader_readThing_77 : decode prog_8_method_10_code 77 = .ok (.aload_n 0, 1) := by decide +kernel
theorem d_Reader_readThing_78 : decode prog_8_method_10_code 78 = .ok (.bipush 15, 2) := by decide +kernel
theorem d_Reader_readThing_80 : decode prog_8_method_10_code 80 = .ok (.invokevirtual 108, 3) := by decide +kernel
theorem d_Reader_readThing_83 : decode prog_8_method_10_code 83 = .ok (.aload_n 1, 1) := by decide +kernel
theorem d_Reader_readThing_84 : decode prog_8_method_10_code 84 = .ok (.getfield 198, 3) := by decide +kernel
theorem gf_Reader_198 : GF "NineBoards$Reader" 198 8 3 := ⟨_, _, _, rfl, ci_Things, by decide, (mt_1 (List.mem_of_getElem? (i := 199) rfl) rfl)⟩
theorem d_Reader_readThing_87 : decode prog_8_method_10_code 87 = .ok (.iload_n 2, 1) := by decide +kernel
theorem d_Reader_readThing_88 : decode prog_8_method_10_code 88 = .ok (.aload_n 0, 1) := by decide +kernel
theorem d_Reader_readThing_89 : decode prog_8_method_10_code 89 = .ok (.iconst 0, 1) := by decide +kernel
theorem d_Reader_readThing_90 : decode prog_8_method_10_code 90 = .ok (.sipush 9999, 3) := by decide +kernel
theorem d_Reader_readThing_93 : decode prog_8_method_10_code 93 = .ok (.invokevirtual 111, 3) := by decide +kernel
theorem d_Reader_readThing_96 : decode prog_8_method_10_code 96 = .ok (.iastore, 1) := by decide +kernel
theorem d_Reader_readThing_97 : decode prog_8_method_10_code 97 = .ok (.aload_n 0, 1) := by decide +kernel
theorem d_Reader_readThing_98 : decode prog_8_method_10_code 98 = .ok (.bipush 9, 2) := by decide +kernel
theorem d_Reader_readThing_100 : decode prog_8_method_10_code 100 = .ok (.invokevirtual 108, 3) := by decide +kernel
theorem d_Reader_readThing_103 : decode prog_8_method_10_code 103 = .ok (.aload_n 1, 1) := by decide +kernel
theorem d_Reader_readThing_104 : decode prog_8_method_10_code 104 = .ok (.getfield 199, 3) := by decide +kernel
theorem gf_Reader_199 : GF "NineBoards$Reader" 199 8 4 := ⟨_, _, _, rfl, ci_Things, by decide, (mt_1 (List.mem_of_getElem? (i := 201) rfl) rfl)⟩
theorem d_Reader_readThing_107 : decode prog_8_method_10_code 107 = .ok (.iload_n 2, 1) := by decide +kernel
theorem d_Reader_readThing_108 : decode prog_8_method_10_code 108 = .ok (.aload_n 0, 1) := by decide +kernel
theorem d_Reader_readThing_109 : decode prog_8_method_10_code 109 = .ok (.aload_n 1, 1) := by decide +kernel
theorem d_Reader_readThing_110 : decode prog_8_method_10_code 110 = .ok (.getfield 198, 3) := by decide +kernel
theorem d_Reader_readThing_113 : decode prog_8_method_10_code 113 = .ok (.iload_n 2, 1) := by decide +kernel
theorem d_Reader_readThing_114 : decode prog_8_method_10_code 114 = .ok (.iaload, 1) := by decide +kernel
theorem d_Reader_readThing_115 : decode prog_8_method_10_code 115 = .ok (.sipush 9999, 3) := by decide +kernel
theorem d_Reader_readThing_118 : decode prog_8_method_10_code 118 = .ok (.invokevirtual 111, 3) := by decide +kernel
theorem d_Reader_readThing_121 : decode prog_8_method_10_code 121 = .ok (.iastore, 1) := by decide +kernel
theorem d_Reader_readThing_122 : decode prog_8_method_10_code 122 = .ok (.aload_n 0, 1) := by decide +kernel
theorem d_Reader_readThing_123 : decode prog_8_method_10_code 123 = .ok (.bipush 16, 2) := by decide +kernel
theorem d_Reader_readThing_125 : decode prog_8_method_10_code 125 = .ok (.invokevirtual 108, 3) := by decide +kernel
theorem d_Reader_readThing_128 : decode prog_8_method_10_code 128 = .ok (.aload_n 1, 1) := by decide +kernel
theorem d_Reader_readThing_129 : decode prog_8_method_10_code 129 = .ok (.getfield 200, 3) := by decide +kernel
theorem gf_Reader_200 : GF "NineBoards$Reader" 200 8 5 := ⟨_, _, _, rfl, ci_Things, by decide, (mt_1 (List.mem_of_getElem? (i := 203) rfl) rfl)⟩
theorem d_Reader_readThing_132 : decode prog_8_method_10_code 132 = .ok (.iload_n 2, 1) := by decide +kernel
theorem d_Reader_readThing_133 : decode prog_8_method_10_code 133 = .ok (.aload_n 0, 1) := by decide +kernel
theorem d_Reader_readThing_134 : decode prog_8_method_10_code 134 = .ok (.iconst 0, 1) := by decide +kernel
theorem d_Reader_readThing_135 : decode prog_8_method_10_code 135 = .ok (.sipush 999, 3) := by decide +kernel
theorem d_Reader_readThing_138 : decode prog_8_method_10_code 138 = .ok (.invokevirtual 111, 3) := by decide +kernel
theorem d_Reader_readThing_141 : decode prog_8_method_10_code 141 = .ok (.iastore, 1) := by decide +kernel
theorem d_Reader_readThing_142 : decode prog_8_method_10_code 142 = .ok (.aload_n 0, 1) := by decide +kernel
theorem d_Reader_readThing_143 : decode prog_8_method_10_code 143 = .ok (.bipush 9, 2) := by decide +kernel
theorem d_Reader_readThing_145 : decode prog_8_method_10_code 145 = .ok (.invokevirtual 108, 3) := by decide +kernel
theorem d_Reader_readThing_148 : decode prog_8_method_10_code 148 = .ok (.aload_n 1, 1) := by decide +kernel
theorem d_Reader_readThing_149 : decode prog_8_method_10_code 149 = .ok (.getfield 203, 3) := by decide +kernel
theorem gf_Reader_203 : GF "NineBoards$Reader" 203 8 6 := ⟨_, _, _, rfl, ci_Things, by decide, (mt_1 (List.mem_of_getElem? (i := 205) rfl) rfl)⟩
theorem d_Reader_readThing_152 : decode prog_8_method_10_code 152 = .ok (.iload_n 2, 1) := by decide +kernel
theorem d_Reader_readThing_153 : decode prog_8_method_10_code 153 = .ok (.aload_n 0, 1) := by decide +kernel
theorem d_Reader_readThing_154 : decode prog_8_method_10_code 154 = .ok (.aload_n 1, 1) := by decide +kernel
theorem d_Reader_readThing_155 : decode prog_8_method_10_code 155 = .ok (.getfield 200, 3) := by decide +kernel
theorem d_Reader_readThing_158 : decode prog_8_method_10_code 158 = .ok (.iload_n 2, 1) := by decide +kernel
theorem d_Reader_readThing_159 : decode prog_8_method_10_code 159 = .ok (.iaload, 1) := by decide +kernel
theorem d_Reader_readThing_160 : decode prog_8_method_10_code 160 = .ok (.sipush 999, 3) := by decide +kernel
theorem d_Reader_readThing_163 : decode prog_8_method_10_code 163 = .ok (.invokevirtual 111, 3) := by decide +kernel
theorem d_Reader_readThing_166 : decode prog_8_method_10_code 166 = .ok (.iastore, 1) := by decide +kernel
theorem d_Reader_readThing_167 : decode prog_8_method_10_code 167 = .ok (.aload_n 0, 1) := by decide +kernel
theorem d_Reader_readThing_168 : decode prog_8_method_10_code 168 = .ok (.bipush 17, 2) := by decide +kernel
theorem d_Reader_readThing_170 : decode prog_8_method_10_code 170 = .ok (.invokevirtual 108, 3) := by decide +kernel
theorem d_Reader_readThing_173 : decode prog_8_method_10_code 173 = .ok (.aload_n 1, 1) := by decide +kernel
theorem d_Reader_readThing_174 : decode prog_8_method_10_code 174 = .ok (.getfield 206, 3) := by decide +kernel
theorem gf_Reader_206 : GF "NineBoards$Reader" 206 8 7 := ⟨_, _, _, rfl, ci_Things, by decide, (mt_1 (List.mem_of_getElem? (i := 208) rfl) rfl)⟩
theorem d_Reader_readThing_177 : decode prog_8_method_10_code 177 = .ok (.iload_n 2, 1) := by decide +kernel
theorem d_Reader_readThing_178 : decode prog_8_method_10_code 178 = .ok (.aload_n 0, 1) := by decide +kernel
theorem d_Reader_readThing_179 : decode prog_8_method_10_code 179 = .ok (.iconst 1, 1) := by decide +kernel
theorem d_Reader_readThing_180 : decode prog_8_method_10_code 180 = .ok (.bipush 99, 2) := by decide +kernel
theorem d_Reader_readThing_182 : decode prog_8_method_10_code 182 = .ok (.invokevirtual 111, 3) := by decide +kernel
theorem d_Reader_readThing_185 : decode prog_8_method_10_code 185 = .ok (.iastore, 1) := by decide +kernel
theorem d_Reader_readThing_186 : decode prog_8_method_10_code 186 = .ok (.aload_n 1, 1) := by decide +kernel
theorem d_Reader_readThing_187 : decode prog_8_method_10_code 187 = .ok (.iload_n 2, 1) := by decide +kernel
theorem d_Reader_readThing_188 : decode prog_8_method_10_code 188 = .ok (.iconst 1, 1) := by decide +kernel
theorem d_Reader_readThing_189 : decode prog_8_method_10_code 189 = .ok (.iadd, 1) := by decide +kernel
theorem d_Reader_readThing_190 : decode prog_8_method_10_code 190 = .ok (.putfield 182, 3) := by decide +kernel
theorem pf_Reader_182 : PF "NineBoards$Reader" 182 8 0 (.int) false := ⟨_, _, _, ct_Things, rfl, ci_Things, by decide, (mt_1 (List.mem_of_getElem? (i := 189) rfl) rfl), cp_Things, cn_Things, rfl, by decide +kernel, (fun h => by cases h)⟩
theorem d_Reader_readThing_193 : decode prog_8_method_10_code 193 = .ok (.return_, 1) := by decide +kernel
theorem d_Reader_readRule_0 : decode prog_8_method_13_code 0 = .ok (.aload_n 0, 1) := by decide +kernel
theorem d_Reader_readRule_1 : decode prog_8_method_13_code 1 = .ok (.getfield 23, 3) := by decide +kernel
theorem d_Reader_readRule_4 : decode prog_8_method_13_code 4 = .ok (.getfield 221, 3) := by decide +kernel
theorem d_Reader_readRule_7 : decode prog_8_method_13_code 7 = .ok (.astore_n 2, 1) := by decide +kernel
theorem d_Reader_readRule_8 : decode prog_8_method_13_code 8 = .ok (.aload_n 2, 1) := by decide +kernel
theorem d_Reader_readRule_9 : decode prog_8_method_13_code 9 = .ok (.getfield 225, 3) := by decide +kernel
theorem gf_Reader_225 : GF "NineBoards$Reader" 225 6 0 := ⟨_, _, _, rfl, ci_Rules, by decide, (mt_1 (List.mem_of_getElem? (i := 235) rfl) rfl)⟩
theorem d_Reader_readRule_12 : decode prog_8_method_13_code 12 = .ok (.istore_n 3, 1) := by decide +kernel
theorem d_Reader_readRule_13 : decode prog_8_method_13_code 13 = .ok (.aload_n 0, 1) := by decide +kernel
theorem d_Reader_readRule_14 : decode prog_8_method_13_code 14 = .ok (.iload_n 3, 1) := by decide +kernel
theorem d_Reader_readRule_15 : decode prog_8_method_13_code 15 = .ok (.bipush 8, 2) := by decide +kernel
theorem d_Reader_readRule_17 : decode prog_8_method_13_code 17 = .ok (.invokevirtual 133, 3) := by decide +kernel
theorem d_Reader_readRule_20 : decode prog_8_method_13_code 20 = .ok (.ifCond .ne 4, 3) := by decide +kernel
theorem d_Reader_readRule_23 : decode prog_8_method_13_code 23 = .ok (.return_, 1) := by decide +kernel
theorem d_Reader_readRule_24 : decode prog_8_method_13_code 24 = .ok (.aload_n 2, 1) := by decide +kernel
theorem d_Reader_readRule_25 : decode prog_8_method_13_code 25 = .ok (.getfield 228, 3) := by decide +kernel
theorem gf_Reader_228 : GF "NineBoards$Reader" 228 6 2 := ⟨_, _, _, rfl, ci_Rules, by decide, (mt_2 (List.mem_of_getElem? (i := 0) rfl) rfl)⟩
theorem d_Reader_readRule_28 : decode prog_8_method_13_code 28 = .ok (.iload_n 3, 1) := by decide +kernel
theorem d_Reader_readRule_29 : decode prog_8_method_13_code 29 = .ok (.iload_n 1, 1) := by decide +kernel
theorem d_Reader_readRule_30 : decode prog_8_method_13_code 30 = .ok (.iastore, 1) := by decide +kernel
theorem d_Reader_readRule_31 : decode prog_8_method_13_code 31 = .ok (.aload_n 2, 1) := by decide +kernel
theorem d_Reader_readRule_32 : decode prog_8_method_13_code 32 = .ok (.getfield 229, 3) := by decide +kernel
theorem gf_Reader_229 : GF "NineBoards$Reader" 229 6 3 := ⟨_, _, _, rfl, ci_Rules, by decide, (mt_2 (List.mem_of_getElem? (i := 2) rfl) rfl)⟩
theorem d_Reader_readRule_35 : decode prog_8_method_13_code 35 = .ok (.iload_n 3, 1) := by decide +kernel
theorem d_Reader_readRule_36 : decode prog_8_method_13_code 36 = .ok (.aload_n 2, 1) := by decide +kernel
theorem d_Reader_readRule_37 : decode prog_8_method_13_code 37 = .ok (.getfield 232, 3) := by decide +kernel
theorem gf_Reader_232 : GF "NineBoards$Reader" 232 6 1 := ⟨_, _, _, rfl, ci_Rules, by decide, (mt_1 (List.mem_of_getElem? (i := 238) rfl) rfl)⟩
theorem d_Reader_readRule_40 : decode prog_8_method_13_code 40 = .ok (.iastore, 1) := by decide +kernel
theorem d_Reader_readRule_41 : decode prog_8_method_13_code 41 = .ok (.aload_n 0, 1) := by decide +kernel
theorem d_Reader_readRule_42 : decode prog_8_method_13_code 42 = .ok (.iconst 0, 1) := by decide +kernel
theorem d_Reader_readRule_43 : decode prog_8_method_13_code 43 = .ok (.invokevirtual 235, 3) := by decide +kernel
theorem d_Reader_readRule_46 : decode prog_8_method_13_code 46 = .ok (.aload_n 0, 1) := by decide +kernel
theorem d_Reader_readRule_47 : decode prog_8_method_13_code 47 = .ok (.bipush 23, 2) := by decide +kernel
theorem d_Reader_readRule_49 : decode prog_8_method_13_code 49 = .ok (.invokevirtual 108, 3) := by decide +kernel
theorem d_Reader_readRule_52 : decode prog_8_method_13_code 52 = .ok (.aload_n 2, 1) := by decide +kernel
theorem d_Reader_readRule_53 : decode prog_8_method_13_code 53 = .ok (.getfield 238, 3) := by decide +kernel
theorem gf_Reader_238 : GF "NineBoards$Reader" 238 6 4 := ⟨_, _, _, rfl, ci_Rules, by decide, (mt_2 (List.mem_of_getElem? (i := 4) rfl) rfl)⟩
theorem d_Reader_readRule_56 : decode prog_8_method_13_code 56 = .ok (.iload_n 3, 1) := by decide +kernel
theorem d_Reader_readRule_57 : decode prog_8_method_13_code 57 = .ok (.aload_n 2, 1) := by decide +kernel
theorem d_Reader_readRule_58 : decode prog_8_method_13_code 58 = .ok (.getfield 232, 3) := by decide +kernel
theorem d_Reader_readRule_61 : decode prog_8_method_13_code 61 = .ok (.iastore, 1) := by decide +kernel
theorem d_Reader_readRule_62 : decode prog_8_method_13_code 62 = .ok (.aload_n 0, 1) := by decide +kernel
theorem d_Reader_readRule_63 : decode prog_8_method_13_code 63 = .ok (.iconst 0, 1) := by decide +kernel
theorem d_Reader_readRule_64 : decode prog_8_method_13_code 64 = .ok (.invokevirtual 241, 3) := by decide +kernel
theorem d_Reader_readRule_67 : decode prog_8_method_13_code 67 = .ok (.aload_n 2, 1) := by decide +kernel
theorem d_Reader_readRule_68 : decode prog_8_method_13_code 68 = .ok (.getfield 244, 3) := by decide +kernel
theorem gf_Reader_244 : GF "NineBoards$Reader" 244 6 5 := ⟨_, _, _, rfl, ci_Rules, by decide, (mt_2 (List.mem_of_getElem? (i := 6) rfl) rfl)⟩
theorem d_Reader_readRule_71 : decode prog_8_method_13_code 71 = .ok (.iload_n 3, 1) := by decide +kernel
theorem d_Reader_readRule_72 : decode prog_8_method_13_code 72 = .ok (.aload_n 2, 1) := by decide +kernel
theorem d_Reader_readRule_73 : decode prog_8_method_13_code 73 = .ok (.getfield 232, 3) := by decide +kernel
theorem d_Reader_readRule_76 : decode prog_8_method_13_code 76 = .ok (.iastore, 1) := by decide +kernel
theorem d_Reader_readRule_77 : decode prog_8_method_13_code 77 = .ok (.aload_n 2, 1) := by decide +kernel
theorem d_Reader_readRule_78 : decode prog_8_method_13_code 78 = .ok (.iload_n 3, 1) := by decide +kernel
theorem d_Reader_readRule_79 : decode prog_8_method_13_code 79 = .ok (.iconst 1, 1) := by decide +kernel
theorem d_Reader_readRule_80 : decode prog_8_method_13_code 80 = .ok (.iadd, 1) := by decide +kernel
theorem d_Reader_readRule_81 : decode prog_8_method_13_code 81 = .ok (.putfield 225, 3) := by decide +kernel
theorem pf_Reader_225 : PF "NineBoards$Reader" 225 6 0 (.int) false := ⟨_, _, _, ct_Rules, rfl, ci_Rules, by decide, (mt_1 (List.mem_of_getElem? (i := 235) rfl) rfl), cp_Rules, cn_Rules, rfl, by decide +kernel, (fun h => by cases h)⟩
theorem d_Reader_readRule_84 : decode prog_8_method_13_code 84 = .ok (.return_, 1) := by decide +kernel
theorem d_Reader_readStatement_0 : decode prog_8_method_3_code 0 = .ok (.aload_n 0, 1) := by decide +kernel
theorem d_Reader_readStatement_1 : decode prog_8_method_3_code 1 = .ok (.getfield 50, 3) := by decide +kernel
theorem d_Reader_readStatement_4 : decode prog_8_method_3_code 4 = .ok (.iconst 1, 1) := by decide +kernel
theorem d_Reader_readStatement_5 : decode prog_8_method_3_code 5 = .ok (.if_icmp .ne 10, 3) := by decide +kernel
theorem d_Reader_readStatement_15 : decode prog_8_method_3_code 15 = .ok (.iconst (-1), 1) := by decide +kernel
theorem d_Reader_readStatement_16 : decode prog_8_method_3_code 16 = .ok (.tableswitch 126 4 20 #[84, 126, 126, 126, 126, 126, 126, 126, 91, 98, 105, 126, 126, 126, 112, 126, 119], 84) := by decide +kernel
theorem d_Reader_readStatement_142 : decode prog_8_method_3_code 142 = .ok (.aload_n 0, 1) := by decide +kernel
theorem d_Reader_readStatement_143 : decode prog_8_method_3_code 143 = .ok (.iconst 1, 1) := by decide +kernel
theorem d_Reader_readStatement_144 : decode prog_8_method_3_code 144 = .ok (.aload_n 0, 1) := by decide +kernel
theorem d_Reader_readStatement_145 : decode prog_8_method_3_code 145 = .ok (.getfield 62, 3) := by decide +kernel
theorem d_Reader_readStatement_148 : decode prog_8_method_3_code 148 = .ok (.invokevirtual 65, 3) := by decide +kernel
theorem d_Reader_readStatement_151 : decode prog_8_method_3_code 151 = .ok (.return_, 1) := by decide +kernel
theorem d_Reader_readStatement_8 : decode prog_8_method_3_code 8 = .ok (.aload_n 0, 1) := by decide +kernel
theorem d_Reader_readStatement_9 : decode prog_8_method_3_code 9 = .ok (.getfield 80, 3) := by decide +kernel
theorem d_Reader_readStatement_12 : decode prog_8_method_3_code 12 = .ok (.goto 4, 3) := by decide +kernel
theorem d_Reader_readStatement_100 : decode prog_8_method_3_code 100 = .ok (.aload_n 0, 1) := by decide +kernel
theorem d_Reader_readStatement_101 : decode prog_8_method_3_code 101 = .ok (.invokevirtual 83, 3) := by decide +kernel
theorem kw_Reader_83 : KW "NineBoards$Reader" 83 ⟨"NineBoards$Reader", "readGate", "()V"⟩ prog_8_method_6_code 3 none 0 := ⟨(mt_3 (List.mem_of_getElem? (i := 149) rfl) rfl), (mt_1 (List.mem_of_getElem? (i := 10) rfl) rfl), (mt_3 (List.mem_of_getElem? (i := 152) rfl) rfl), by decide +kernel⟩
theorem kv_Reader_readGate : Cond.instanceMethod ⟨"NineBoards$Reader", "readGate", "()V"⟩ ∈ TB ∧ Cond.selects "NineBoards$Reader" ⟨"NineBoards$Reader", "readGate", "()V"⟩ ⟨"NineBoards$Reader", "readGate", "()V"⟩ ∈ TB := ⟨(mt_3 (List.mem_of_getElem? (i := 151) rfl) rfl), (ms_0 (List.mem_map.mpr ⟨(⟨"NineBoards$Reader", "readGate", "()V"⟩, 12), List.mem_of_getElem? (i := 22) (by decide +kernel), rfl⟩) rfl)⟩
theorem d_Reader_readStatement_104 : decode prog_8_method_3_code 104 = .ok (.goto 47, 3) := by decide +kernel
theorem d_Reader_readStatement_107 : decode prog_8_method_3_code 107 = .ok (.aload_n 0, 1) := by decide +kernel
theorem d_Reader_readStatement_108 : decode prog_8_method_3_code 108 = .ok (.invokevirtual 86, 3) := by decide +kernel
theorem kw_Reader_86 : KW "NineBoards$Reader" 86 ⟨"NineBoards$Reader", "readJoin", "()V"⟩ prog_8_method_8_code 4 none 0 := ⟨(mt_3 (List.mem_of_getElem? (i := 173) rfl) rfl), (mt_1 (List.mem_of_getElem? (i := 10) rfl) rfl), (mt_3 (List.mem_of_getElem? (i := 176) rfl) rfl), by decide +kernel⟩
theorem kv_Reader_readJoin : Cond.instanceMethod ⟨"NineBoards$Reader", "readJoin", "()V"⟩ ∈ TB ∧ Cond.selects "NineBoards$Reader" ⟨"NineBoards$Reader", "readJoin", "()V"⟩ ⟨"NineBoards$Reader", "readJoin", "()V"⟩ ∈ TB := ⟨(mt_3 (List.mem_of_getElem? (i := 175) rfl) rfl), (ms_0 (List.mem_map.mpr ⟨(⟨"NineBoards$Reader", "readJoin", "()V"⟩, 12), List.mem_of_getElem? (i := 26) (by decide +kernel), rfl⟩) rfl)⟩
theorem d_Reader_readStatement_111 : decode prog_8_method_3_code 111 = .ok (.goto 40, 3) := by decide +kernel
theorem d_Reader_readStatement_114 : decode prog_8_method_3_code 114 = .ok (.aload_n 0, 1) := by decide +kernel
theorem d_Reader_readStatement_115 : decode prog_8_method_3_code 115 = .ok (.invokevirtual 89, 3) := by decide +kernel
theorem kw_Reader_89 : KW "NineBoards$Reader" 89 ⟨"NineBoards$Reader", "readVillage", "()V"⟩ prog_8_method_9_code 2 none 0 := ⟨(mt_3 (List.mem_of_getElem? (i := 181) rfl) rfl), (mt_1 (List.mem_of_getElem? (i := 10) rfl) rfl), (mt_3 (List.mem_of_getElem? (i := 184) rfl) rfl), by decide +kernel⟩
theorem kv_Reader_readVillage : Cond.instanceMethod ⟨"NineBoards$Reader", "readVillage", "()V"⟩ ∈ TB ∧ Cond.selects "NineBoards$Reader" ⟨"NineBoards$Reader", "readVillage", "()V"⟩ ⟨"NineBoards$Reader", "readVillage", "()V"⟩ ∈ TB := ⟨(mt_3 (List.mem_of_getElem? (i := 183) rfl) rfl), (ms_0 (List.mem_map.mpr ⟨(⟨"NineBoards$Reader", "readVillage", "()V"⟩, 12), List.mem_of_getElem? (i := 28) (by decide +kernel), rfl⟩) rfl)⟩
theorem d_Reader_readStatement_118 : decode prog_8_method_3_code 118 = .ok (.goto 33, 3) := by decide +kernel
theorem d_Reader_readStatement_121 : decode prog_8_method_3_code 121 = .ok (.aload_n 0, 1) := by decide +kernel
theorem d_Reader_readStatement_122 : decode prog_8_method_3_code 122 = .ok (.invokevirtual 92, 3) := by decide +kernel
theorem kw_Reader_92 : KW "NineBoards$Reader" 92 ⟨"NineBoards$Reader", "readThing", "()V"⟩ prog_8_method_10_code 4 none 0 := ⟨(mt_3 (List.mem_of_getElem? (i := 185) rfl) rfl), (mt_1 (List.mem_of_getElem? (i := 10) rfl) rfl), (mt_3 (List.mem_of_getElem? (i := 188) rfl) rfl), by decide +kernel⟩
theorem kv_Reader_readThing : Cond.instanceMethod ⟨"NineBoards$Reader", "readThing", "()V"⟩ ∈ TB ∧ Cond.selects "NineBoards$Reader" ⟨"NineBoards$Reader", "readThing", "()V"⟩ ⟨"NineBoards$Reader", "readThing", "()V"⟩ ∈ TB := ⟨(mt_3 (List.mem_of_getElem? (i := 187) rfl) rfl), (ms_0 (List.mem_map.mpr ⟨(⟨"NineBoards$Reader", "readThing", "()V"⟩, 12), List.mem_of_getElem? (i := 29) (by decide +kernel), rfl⟩) rfl)⟩
theorem d_Reader_readStatement_125 : decode prog_8_method_3_code 125 = .ok (.goto 26, 3) := by decide +kernel
theorem d_Reader_readStatement_128 : decode prog_8_method_3_code 128 = .ok (.aload_n 0, 1) := by decide +kernel
theorem d_Reader_readStatement_129 : decode prog_8_method_3_code 129 = .ok (.invokevirtual 95, 3) := by decide +kernel
theorem kw_Reader_95 : KW "NineBoards$Reader" 95 ⟨"NineBoards$Reader", "readChapel", "()V"⟩ prog_8_method_11_code 1 none 0 := ⟨(mt_3 (List.mem_of_getElem? (i := 189) rfl) rfl), (mt_1 (List.mem_of_getElem? (i := 10) rfl) rfl), (mt_3 (List.mem_of_getElem? (i := 192) rfl) rfl), by decide +kernel⟩
theorem kv_Reader_readChapel : Cond.instanceMethod ⟨"NineBoards$Reader", "readChapel", "()V"⟩ ∈ TB ∧ Cond.selects "NineBoards$Reader" ⟨"NineBoards$Reader", "readChapel", "()V"⟩ ⟨"NineBoards$Reader", "readChapel", "()V"⟩ ∈ TB := ⟨(mt_3 (List.mem_of_getElem? (i := 191) rfl) rfl), (ms_0 (List.mem_map.mpr ⟨(⟨"NineBoards$Reader", "readChapel", "()V"⟩, 12), List.mem_of_getElem? (i := 30) (by decide +kernel), rfl⟩) rfl)⟩
theorem d_Reader_readStatement_132 : decode prog_8_method_3_code 132 = .ok (.goto 19, 3) := by decide +kernel
theorem d_Reader_readStatement_135 : decode prog_8_method_3_code 135 = .ok (.aload_n 0, 1) := by decide +kernel
theorem d_Reader_readStatement_136 : decode prog_8_method_3_code 136 = .ok (.invokevirtual 98, 3) := by decide +kernel
theorem kw_Reader_98 : KW "NineBoards$Reader" 98 ⟨"NineBoards$Reader", "readBank", "()V"⟩ prog_8_method_12_code 1 none 0 := ⟨(mt_3 (List.mem_of_getElem? (i := 193) rfl) rfl), (mt_1 (List.mem_of_getElem? (i := 10) rfl) rfl), (mt_3 (List.mem_of_getElem? (i := 196) rfl) rfl), by decide +kernel⟩
theorem kv_Reader_readBank : Cond.instanceMethod ⟨"NineBoards$Reader", "readBank", "()V"⟩ ∈ TB ∧ Cond.selects "NineBoards$Reader" ⟨"NineBoards$Reader", "readBank", "()V"⟩ ⟨"NineBoards$Reader", "readBank", "()V"⟩ ∈ TB := ⟨(mt_3 (List.mem_of_getElem? (i := 195) rfl) rfl), (ms_0 (List.mem_map.mpr ⟨(⟨"NineBoards$Reader", "readBank", "()V"⟩, 12), List.mem_of_getElem? (i := 31) (by decide +kernel), rfl⟩) rfl)⟩
theorem d_Reader_readStatement_139 : decode prog_8_method_3_code 139 = .ok (.goto 12, 3) := by decide +kernel
theorem to_4_20 {x : Int32} (h0 : ¬ x = 4) (h1 : ¬ x = 5) (h2 : ¬ x = 6) (h3 : ¬ x = 7) (h4 : ¬ x = 8) (h5 : ¬ x = 9) (h6 : ¬ x = 10) (h7 : ¬ x = 11) (h8 : ¬ x = 12) (h9 : ¬ x = 13) (h10 : ¬ x = 14) (h11 : ¬ x = 15) (h12 : ¬ x = 16) (h13 : ¬ x = 17) (h14 : ¬ x = 18) (h15 : ¬ x = 19) (h16 : ¬ x = 20) : x.toInt < 4 ∨ 20 < x.toInt := by
  have g0 : x.toInt ≠ 4 := fun e => h0 (Int32.toInt_inj.mp (e.trans (by decide)))
  have g1 : x.toInt ≠ 5 := fun e => h1 (Int32.toInt_inj.mp (e.trans (by decide)))
  have g2 : x.toInt ≠ 6 := fun e => h2 (Int32.toInt_inj.mp (e.trans (by decide)))
  have g3 : x.toInt ≠ 7 := fun e => h3 (Int32.toInt_inj.mp (e.trans (by decide)))
  have g4 : x.toInt ≠ 8 := fun e => h4 (Int32.toInt_inj.mp (e.trans (by decide)))
  have g5 : x.toInt ≠ 9 := fun e => h5 (Int32.toInt_inj.mp (e.trans (by decide)))
  have g6 : x.toInt ≠ 10 := fun e => h6 (Int32.toInt_inj.mp (e.trans (by decide)))
  have g7 : x.toInt ≠ 11 := fun e => h7 (Int32.toInt_inj.mp (e.trans (by decide)))
  have g8 : x.toInt ≠ 12 := fun e => h8 (Int32.toInt_inj.mp (e.trans (by decide)))
  have g9 : x.toInt ≠ 13 := fun e => h9 (Int32.toInt_inj.mp (e.trans (by decide)))
  have g10 : x.toInt ≠ 14 := fun e => h10 (Int32.toInt_inj.mp (e.trans (by decide)))
  have g11 : x.toInt ≠ 15 := fun e => h11 (Int32.toInt_inj.mp (e.trans (by decide)))
  have g12 : x.toInt ≠ 16 := fun e => h12 (Int32.toInt_inj.mp (e.trans (by decide)))
  have g13 : x.toInt ≠ 17 := fun e => h13 (Int32.toInt_inj.mp (e.trans (by decide)))
  have g14 : x.toInt ≠ 18 := fun e => h14 (Int32.toInt_inj.mp (e.trans (by decide)))
  have g15 : x.toInt ≠ 19 := fun e => h15 (Int32.toInt_inj.mp (e.trans (by decide)))
  have g16 : x.toInt ≠ 20 := fun e => h16 (Int32.toInt_inj.mp (e.trans (by decide)))
  omega
