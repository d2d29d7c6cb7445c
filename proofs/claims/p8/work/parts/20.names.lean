section JLO
variable {p : Program} {l : Launch} {e : Env} {R : Room} {s : State} {m : MethodId} {args : Array Value} {below : List Frame} {meth : Method} {c : Code} {Q : State → Prop} {D : va_G} {A : Nat → Prop} {nL : Nat} {ws : va_W} {lv : List (Nat × Value)} {kc ks pc : Nat} {st : List Value}
/-- a loop: what is shown at its head for a state, may rest on the same for states of less measure -/
theorem j_loop {α : Type} (μ : α → Nat) (P : α → Prop) (ws' : α → va_W) (lv' : α → List (Nat × Value)) (a0 : α) (hw : ws = ws' a0) (hl : lv = lv' a0) (h0 : P a0) (step : ∀ a, P a → (∀ b, P b → μ b < μ a → J p l e R s m args below meth c Q D A nL (ws' b) (lv' b) kc ks pc []) → J p l e R s m args below meth c Q D A nL (ws' a) (lv' a) kc ks pc []) : J p l e R s m args below meth c Q D A nL ws lv kc ks pc [] := by
  have h : ∀ n a, μ a < n → P a → J p l e R s m args below meth c Q D A nL (ws' a) (lv' a) kc ks pc [] := by
    intro n
    induction n with
    | zero => exact fun a h => absurd h (Nat.not_lt_zero _)
    | succ n ih => exact fun a h hP => step a hP (fun b hb hlt => ih b (by omega) hb)
  rw [hw, hl]
  exact h (μ a0 + 1) a0 (Nat.lt_succ_self _) h0
theorem j_anyI {x : Int32} (k : ∀ v : Int32, J p l e R s m args below meth c Q D A nL ws lv kc ks pc (.int v :: st)) : J p l e R s m args below meth c Q D A nL ws lv kc ks pc (.int x :: st) := k x
theorem j_anyL {x : Int64} (k : ∀ v : Int64, J p l e R s m args below meth c Q D A nL ws lv kc ks pc (.long v :: st)) : J p l e R s m args below meth c Q D A nL ws lv kc ks pc (.long x :: st) := k x
theorem j_anyW {α : Type} (F : α → va_W) (f0 : α) (h : ws = F f0) (k : ∀ f, J p l e R s m args below meth c Q D A nL (F f) lv kc ks pc st) : J p l e R s m args below meth c Q D A nL ws lv kc ks pc st := h ▸ k f0
theorem j_genW {α : Type} (F : α → va_W) (f0 : α) (h : ws = F f0) (P : α → Prop) (hp : P f0) (k : ∀ f, P f → J p l e R s m args below meth c Q D A nL (F f) lv kc ks pc st) : J p l e R s m args below meth c Q D A nL ws lv kc ks pc st := h ▸ k f0 hp
end JLO
theorem m1_lt {n : Nat} (h : n < 2 ^ 31) : (-1 : Int32) < nI n := by
  rw [Int32.lt_iff_toInt_lt, nI_toInt h, (by decide : Int32.toInt (-1) = -1)]
  omega
theorem d_Reader_readNumber_0 : decode prog_8_method_27_code 0 = .ok (.aload_n 0, 1) := by decide +kernel
theorem d_Reader_readNumber_1 : decode prog_8_method_27_code 1 = .ok (.getfield 62, 3) := by decide +kernel
theorem d_Reader_readNumber_4 : decode prog_8_method_27_code 4 = .ok (.istore_n 3, 1) := by decide +kernel
theorem d_Reader_readNumber_5 : decode prog_8_method_27_code 5 = .ok (.aload_n 0, 1) := by decide +kernel
theorem d_Reader_readNumber_6 : decode prog_8_method_27_code 6 = .ok (.getfield 275, 3) := by decide +kernel
theorem d_Reader_readNumber_9 : decode prog_8_method_27_code 9 = .ok (.istore 4, 2) := by decide +kernel
theorem d_Reader_readNumber_11 : decode prog_8_method_27_code 11 = .ok (.aload_n 0, 1) := by decide +kernel
theorem d_Reader_readNumber_12 : decode prog_8_method_27_code 12 = .ok (.getfield 50, 3) := by decide +kernel
theorem d_Reader_readNumber_15 : decode prog_8_method_27_code 15 = .ok (.iconst 2, 1) := by decide +kernel
theorem d_Reader_readNumber_16 : decode prog_8_method_27_code 16 = .ok (.if_icmp .eq 11, 3) := by decide +kernel
theorem d_Reader_readNumber_27 : decode prog_8_method_27_code 27 = .ok (.aload_n 0, 1) := by decide +kernel
theorem d_Reader_readNumber_28 : decode prog_8_method_27_code 28 = .ok (.getfield 47, 3) := by decide +kernel
theorem d_Reader_readNumber_31 : decode prog_8_method_27_code 31 = .ok (.iload_n 3, 1) := by decide +kernel
theorem d_Reader_readNumber_32 : decode prog_8_method_27_code 32 = .ok (.isub, 1) := by decide +kernel
theorem d_Reader_readNumber_33 : decode prog_8_method_27_code 33 = .ok (.iconst 4, 1) := by decide +kernel
theorem d_Reader_readNumber_34 : decode prog_8_method_27_code 34 = .ok (.if_icmp .le 13, 3) := by decide +kernel
theorem d_Reader_readNumber_47 : decode prog_8_method_27_code 47 = .ok (.iload 4, 2) := by decide +kernel
theorem d_Reader_readNumber_49 : decode prog_8_method_27_code 49 = .ok (.iload_n 1, 1) := by decide +kernel
theorem d_Reader_readNumber_50 : decode prog_8_method_27_code 50 = .ok (.if_icmp .lt 9, 3) := by decide +kernel
theorem d_Reader_readNumber_59 : decode prog_8_method_27_code 59 = .ok (.aload_n 0, 1) := by decide +kernel
theorem d_Reader_readNumber_60 : decode prog_8_method_27_code 60 = .ok (.iconst 2, 1) := by decide +kernel
theorem d_Reader_readNumber_61 : decode prog_8_method_27_code 61 = .ok (.iload_n 3, 1) := by decide +kernel
theorem d_Reader_readNumber_62 : decode prog_8_method_27_code 62 = .ok (.invokevirtual 65, 3) := by decide +kernel
theorem d_Reader_readNumber_65 : decode prog_8_method_27_code 65 = .ok (.iload_n 1, 1) := by decide +kernel
theorem d_Reader_readNumber_66 : decode prog_8_method_27_code 66 = .ok (.ireturn, 1) := by decide +kernel
theorem d_Reader_readNumber_53 : decode prog_8_method_27_code 53 = .ok (.iload 4, 2) := by decide +kernel
theorem d_Reader_readNumber_55 : decode prog_8_method_27_code 55 = .ok (.iload_n 2, 1) := by decide +kernel
theorem d_Reader_readNumber_56 : decode prog_8_method_27_code 56 = .ok (.if_icmp .le 11, 3) := by decide +kernel
theorem d_Reader_readNumber_67 : decode prog_8_method_27_code 67 = .ok (.aload_n 0, 1) := by decide +kernel
theorem d_Reader_readNumber_68 : decode prog_8_method_27_code 68 = .ok (.invokevirtual 53, 3) := by decide +kernel
theorem d_Reader_readNumber_71 : decode prog_8_method_27_code 71 = .ok (.iload 4, 2) := by decide +kernel
theorem d_Reader_readNumber_73 : decode prog_8_method_27_code 73 = .ok (.ireturn, 1) := by decide +kernel
theorem d_Reader_readNumber_37 : decode prog_8_method_27_code 37 = .ok (.aload_n 0, 1) := by decide +kernel
theorem d_Reader_readNumber_38 : decode prog_8_method_27_code 38 = .ok (.iconst 1, 1) := by decide +kernel
theorem d_Reader_readNumber_39 : decode prog_8_method_27_code 39 = .ok (.iload_n 3, 1) := by decide +kernel
theorem d_Reader_readNumber_40 : decode prog_8_method_27_code 40 = .ok (.iconst 4, 1) := by decide +kernel
theorem d_Reader_readNumber_41 : decode prog_8_method_27_code 41 = .ok (.iadd, 1) := by decide +kernel
theorem d_Reader_readNumber_42 : decode prog_8_method_27_code 42 = .ok (.invokevirtual 65, 3) := by decide +kernel
theorem d_Reader_readNumber_45 : decode prog_8_method_27_code 45 = .ok (.iload_n 1, 1) := by decide +kernel
theorem d_Reader_readNumber_46 : decode prog_8_method_27_code 46 = .ok (.ireturn, 1) := by decide +kernel
theorem d_Reader_readNumber_19 : decode prog_8_method_27_code 19 = .ok (.aload_n 0, 1) := by decide +kernel
theorem d_Reader_readNumber_20 : decode prog_8_method_27_code 20 = .ok (.iconst 1, 1) := by decide +kernel
theorem d_Reader_readNumber_21 : decode prog_8_method_27_code 21 = .ok (.iload_n 3, 1) := by decide +kernel
theorem d_Reader_readNumber_22 : decode prog_8_method_27_code 22 = .ok (.invokevirtual 65, 3) := by decide +kernel
theorem d_Reader_readNumber_25 : decode prog_8_method_27_code 25 = .ok (.iload_n 1, 1) := by decide +kernel
theorem d_Reader_readNumber_26 : decode prog_8_method_27_code 26 = .ok (.ireturn, 1) := by decide +kernel
theorem d_Reader_goesDeeper_0 : decode prog_8_method_22_code 0 = .ok (.iload_n 1, 1) := by decide +kernel
theorem d_Reader_goesDeeper_1 : decode prog_8_method_22_code 1 = .ok (.bipush 6, 2) := by decide +kernel
theorem d_Reader_goesDeeper_3 : decode prog_8_method_22_code 3 = .ok (.if_icmp .lt 14, 3) := by decide +kernel
theorem d_Reader_goesDeeper_17 : decode prog_8_method_22_code 17 = .ok (.aload_n 0, 1) := by decide +kernel
theorem d_Reader_goesDeeper_18 : decode prog_8_method_22_code 18 = .ok (.invokevirtual 53, 3) := by decide +kernel
theorem d_Reader_goesDeeper_21 : decode prog_8_method_22_code 21 = .ok (.iconst 1, 1) := by decide +kernel
theorem d_Reader_goesDeeper_22 : decode prog_8_method_22_code 22 = .ok (.ireturn, 1) := by decide +kernel
theorem d_Reader_goesDeeper_6 : decode prog_8_method_22_code 6 = .ok (.aload_n 0, 1) := by decide +kernel
theorem d_Reader_goesDeeper_7 : decode prog_8_method_22_code 7 = .ok (.iconst 4, 1) := by decide +kernel
theorem d_Reader_goesDeeper_8 : decode prog_8_method_22_code 8 = .ok (.aload_n 0, 1) := by decide +kernel
theorem d_Reader_goesDeeper_9 : decode prog_8_method_22_code 9 = .ok (.getfield 62, 3) := by decide +kernel
theorem d_Reader_goesDeeper_12 : decode prog_8_method_22_code 12 = .ok (.invokevirtual 65, 3) := by decide +kernel
theorem d_Reader_goesDeeper_15 : decode prog_8_method_22_code 15 = .ok (.iconst 0, 1) := by decide +kernel
theorem d_Reader_goesDeeper_16 : decode prog_8_method_22_code 16 = .ok (.ireturn, 1) := by decide +kernel
theorem d_Reader_readKind_0 : decode prog_8_method_14_code 0 = .ok (.iload_n 1, 1) := by decide +kernel
theorem d_Reader_readKind_1 : decode prog_8_method_14_code 1 = .ok (.ifCond .lt 8, 3) := by decide +kernel
theorem d_Reader_readKind_4 : decode prog_8_method_14_code 4 = .ok (.iload_n 1, 1) := by decide +kernel
theorem d_Reader_readKind_5 : decode prog_8_method_14_code 5 = .ok (.iload_n 2, 1) := by decide +kernel
theorem d_Reader_readKind_6 : decode prog_8_method_14_code 6 = .ok (.if_icmp .lt 14, 3) := by decide +kernel
theorem d_Reader_readKind_20 : decode prog_8_method_14_code 20 = .ok (.aload_n 0, 1) := by decide +kernel
theorem d_Reader_readKind_21 : decode prog_8_method_14_code 21 = .ok (.invokevirtual 53, 3) := by decide +kernel
theorem d_Reader_readKind_24 : decode prog_8_method_14_code 24 = .ok (.iconst 1, 1) := by decide +kernel
theorem d_Reader_readKind_25 : decode prog_8_method_14_code 25 = .ok (.ireturn, 1) := by decide +kernel
theorem d_Reader_readKind_9 : decode prog_8_method_14_code 9 = .ok (.aload_n 0, 1) := by decide +kernel
theorem d_Reader_readKind_10 : decode prog_8_method_14_code 10 = .ok (.iconst 5, 1) := by decide +kernel
theorem d_Reader_readKind_11 : decode prog_8_method_14_code 11 = .ok (.aload_n 0, 1) := by decide +kernel
theorem d_Reader_readKind_12 : decode prog_8_method_14_code 12 = .ok (.getfield 62, 3) := by decide +kernel
theorem d_Reader_readKind_15 : decode prog_8_method_14_code 15 = .ok (.invokevirtual 65, 3) := by decide +kernel
theorem d_Reader_readKind_18 : decode prog_8_method_14_code 18 = .ok (.iconst 0, 1) := by decide +kernel
theorem d_Reader_readKind_19 : decode prog_8_method_14_code 19 = .ok (.ireturn, 1) := by decide +kernel
theorem d_Reader_readName_0 : decode prog_8_method_28_code 0 = .ok (.aload_n 0, 1) := by decide +kernel
theorem d_Reader_readName_1 : decode prog_8_method_28_code 1 = .ok (.getfield 50, 3) := by decide +kernel
theorem d_Reader_readName_4 : decode prog_8_method_28_code 4 = .ok (.iconst 1, 1) := by decide +kernel
theorem d_Reader_readName_5 : decode prog_8_method_28_code 5 = .ok (.if_icmp .ne 11, 3) := by decide +kernel
theorem d_Reader_readName_16 : decode prog_8_method_28_code 16 = .ok (.aload_n 0, 1) := by decide +kernel
theorem d_Reader_readName_17 : decode prog_8_method_28_code 17 = .ok (.iconst 1, 1) := by decide +kernel
theorem d_Reader_readName_18 : decode prog_8_method_28_code 18 = .ok (.aload_n 0, 1) := by decide +kernel
theorem d_Reader_readName_19 : decode prog_8_method_28_code 19 = .ok (.getfield 62, 3) := by decide +kernel
theorem d_Reader_readName_22 : decode prog_8_method_28_code 22 = .ok (.invokevirtual 65, 3) := by decide +kernel
theorem d_Reader_readName_25 : decode prog_8_method_28_code 25 = .ok (.iconst (-1), 1) := by decide +kernel
theorem d_Reader_readName_26 : decode prog_8_method_28_code 26 = .ok (.ireturn, 1) := by decide +kernel
theorem d_Reader_readName_8 : decode prog_8_method_28_code 8 = .ok (.aload_n 0, 1) := by decide +kernel
theorem d_Reader_readName_9 : decode prog_8_method_28_code 9 = .ok (.getfield 80, 3) := by decide +kernel
theorem d_Reader_readName_12 : decode prog_8_method_28_code 12 = .ok (.iconst (-1), 1) := by decide +kernel
theorem d_Reader_readName_13 : decode prog_8_method_28_code 13 = .ok (.if_icmp .eq 14, 3) := by decide +kernel
theorem d_Reader_readName_27 : decode prog_8_method_28_code 27 = .ok (.aload_n 0, 1) := by decide +kernel
theorem d_Reader_readName_28 : decode prog_8_method_28_code 28 = .ok (.getfield 47, 3) := by decide +kernel
theorem d_Reader_readName_31 : decode prog_8_method_28_code 31 = .ok (.aload_n 0, 1) := by decide +kernel
theorem d_Reader_readName_32 : decode prog_8_method_28_code 32 = .ok (.getfield 62, 3) := by decide +kernel
theorem d_Reader_readName_35 : decode prog_8_method_28_code 35 = .ok (.isub, 1) := by decide +kernel
theorem d_Reader_readName_36 : decode prog_8_method_28_code 36 = .ok (.bipush 6, 2) := by decide +kernel
theorem d_Reader_readName_38 : decode prog_8_method_28_code 38 = .ok (.if_icmp .le 17, 3) := by decide +kernel
theorem d_Reader_readName_55 : decode prog_8_method_28_code 55 = .ok (.aload_n 0, 1) := by decide +kernel
theorem d_Reader_readName_56 : decode prog_8_method_28_code 56 = .ok (.getfield 278, 3) := by decide +kernel
theorem d_Reader_readName_59 : decode prog_8_method_28_code 59 = .ok (.l2i, 1) := by decide +kernel
theorem d_Reader_readName_60 : decode prog_8_method_28_code 60 = .ok (.istore_n 1, 1) := by decide +kernel
theorem d_Reader_readName_61 : decode prog_8_method_28_code 61 = .ok (.aload_n 0, 1) := by decide +kernel
theorem d_Reader_readName_62 : decode prog_8_method_28_code 62 = .ok (.invokevirtual 53, 3) := by decide +kernel
theorem d_Reader_readName_65 : decode prog_8_method_28_code 65 = .ok (.iload_n 1, 1) := by decide +kernel
theorem d_Reader_readName_66 : decode prog_8_method_28_code 66 = .ok (.ireturn, 1) := by decide +kernel
theorem d_Reader_readName_41 : decode prog_8_method_28_code 41 = .ok (.aload_n 0, 1) := by decide +kernel
theorem d_Reader_readName_42 : decode prog_8_method_28_code 42 = .ok (.iconst 1, 1) := by decide +kernel
theorem d_Reader_readName_43 : decode prog_8_method_28_code 43 = .ok (.aload_n 0, 1) := by decide +kernel
theorem d_Reader_readName_44 : decode prog_8_method_28_code 44 = .ok (.getfield 62, 3) := by decide +kernel
theorem d_Reader_readName_47 : decode prog_8_method_28_code 47 = .ok (.bipush 6, 2) := by decide +kernel
theorem d_Reader_readName_49 : decode prog_8_method_28_code 49 = .ok (.iadd, 1) := by decide +kernel
theorem d_Reader_readName_50 : decode prog_8_method_28_code 50 = .ok (.invokevirtual 65, 3) := by decide +kernel
theorem d_Reader_readName_53 : decode prog_8_method_28_code 53 = .ok (.iconst (-1), 1) := by decide +kernel
theorem d_Reader_readName_54 : decode prog_8_method_28_code 54 = .ok (.ireturn, 1) := by decide +kernel
theorem d_Reader_readNewName_0 : decode prog_8_method_29_code 0 = .ok (.aload_n 0, 1) := by decide +kernel
theorem d_Reader_readNewName_1 : decode prog_8_method_29_code 1 = .ok (.getfield 62, 3) := by decide +kernel
theorem d_Reader_readNewName_4 : decode prog_8_method_29_code 4 = .ok (.istore_n 1, 1) := by decide +kernel
theorem d_Reader_readNewName_5 : decode prog_8_method_29_code 5 = .ok (.aload_n 0, 1) := by decide +kernel
theorem d_Reader_readNewName_6 : decode prog_8_method_29_code 6 = .ok (.invokevirtual 188, 3) := by decide +kernel
theorem kw_Reader_188 : KW "NineBoards$Reader" 188 ⟨"NineBoards$Reader", "readName", "()I"⟩ prog_8_method_28_code 2 (some .int) 0 := ⟨(mt_3 (List.mem_of_getElem? (i := 157) rfl) rfl), (mt_1 (List.mem_of_getElem? (i := 10) rfl) rfl), (mt_3 (List.mem_of_getElem? (i := 160) rfl) rfl), by decide +kernel⟩
theorem kv_Reader_readName : Cond.instanceMethod ⟨"NineBoards$Reader", "readName", "()I"⟩ ∈ TB ∧ Cond.selects "NineBoards$Reader" ⟨"NineBoards$Reader", "readName", "()I"⟩ ⟨"NineBoards$Reader", "readName", "()I"⟩ ∈ TB := ⟨(mt_3 (List.mem_of_getElem? (i := 159) rfl) rfl), (ms_0 (List.mem_map.mpr ⟨(⟨"NineBoards$Reader", "readName", "()I"⟩, 12), List.mem_of_getElem? (i := 24) (by decide +kernel), rfl⟩) rfl)⟩
theorem d_Reader_readNewName_9 : decode prog_8_method_29_code 9 = .ok (.istore_n 2, 1) := by decide +kernel
theorem d_Reader_readNewName_10 : decode prog_8_method_29_code 10 = .ok (.aload_n 0, 1) := by decide +kernel
theorem d_Reader_readNewName_11 : decode prog_8_method_29_code 11 = .ok (.getfield 23, 3) := by decide +kernel
theorem gf_Reader_23 : GF "NineBoards$Reader" 23 5 4 := ⟨_, _, _, rfl, ci_Reader, by decide, (mt_2 (List.mem_of_getElem? (i := 168) rfl) rfl)⟩
theorem d_Reader_readNewName_14 : decode prog_8_method_29_code 14 = .ok (.getfield 124, 3) := by decide +kernel
theorem gf_Reader_124 : GF "NineBoards$Reader" 124 2 4 := ⟨_, _, _, rfl, ci_Lake, by decide, (mt_2 (List.mem_of_getElem? (i := 45) rfl) rfl)⟩
theorem d_Reader_readNewName_17 : decode prog_8_method_29_code 17 = .ok (.iload_n 2, 1) := by decide +kernel
theorem d_Reader_readNewName_18 : decode prog_8_method_29_code 18 = .ok (.invokevirtual 282, 3) := by decide +kernel
theorem kw_Reader_282 : KW "NineBoards$Reader" 282 ⟨"NineBoards$Gates", "named", "(I)I"⟩ prog_4_method_2_code 3 (some .int) 1 := ⟨(mt_3 (List.mem_of_getElem? (i := 161) rfl) rfl), (mt_1 (List.mem_of_getElem? (i := 7) rfl) rfl), (mt_3 (List.mem_of_getElem? (i := 164) rfl) rfl), by decide +kernel⟩
theorem kv_Gates_named : Cond.instanceMethod ⟨"NineBoards$Gates", "named", "(I)I"⟩ ∈ TB ∧ Cond.selects "NineBoards$Gates" ⟨"NineBoards$Gates", "named", "(I)I"⟩ ⟨"NineBoards$Gates", "named", "(I)I"⟩ ∈ TB := ⟨(mt_3 (List.mem_of_getElem? (i := 162) rfl) rfl), (mt_3 (List.mem_of_getElem? (i := 163) rfl) rfl)⟩
theorem d_Reader_readNewName_21 : decode prog_8_method_29_code 21 = .ok (.iconst (-1), 1) := by decide +kernel
theorem d_Reader_readNewName_22 : decode prog_8_method_29_code 22 = .ok (.if_icmp .ne 15, 3) := by decide +kernel
theorem d_Reader_readNewName_25 : decode prog_8_method_29_code 25 = .ok (.aload_n 0, 1) := by decide +kernel
theorem d_Reader_readNewName_26 : decode prog_8_method_29_code 26 = .ok (.getfield 23, 3) := by decide +kernel
theorem d_Reader_readNewName_29 : decode prog_8_method_29_code 29 = .ok (.iload_n 2, 1) := by decide +kernel
theorem d_Reader_readNewName_30 : decode prog_8_method_29_code 30 = .ok (.invokevirtual 191, 3) := by decide +kernel
theorem kw_Reader_191 : KW "NineBoards$Reader" 191 ⟨"NineBoards$Lake", "villageNamed", "(I)I"⟩ prog_5_method_6_code 3 (some .int) 1 := ⟨(mt_3 (List.mem_of_getElem? (i := 165) rfl) rfl), (mt_1 (List.mem_of_getElem? (i := 6) rfl) rfl), (mt_3 (List.mem_of_getElem? (i := 168) rfl) rfl), by decide +kernel⟩
theorem kv_Lake_villageNamed : Cond.instanceMethod ⟨"NineBoards$Lake", "villageNamed", "(I)I"⟩ ∈ TB ∧ Cond.selects "NineBoards$Lake" ⟨"NineBoards$Lake", "villageNamed", "(I)I"⟩ ⟨"NineBoards$Lake", "villageNamed", "(I)I"⟩ ∈ TB := ⟨(mt_3 (List.mem_of_getElem? (i := 166) rfl) rfl), (mt_3 (List.mem_of_getElem? (i := 167) rfl) rfl)⟩
theorem d_Reader_readNewName_33 : decode prog_8_method_29_code 33 = .ok (.iconst (-1), 1) := by decide +kernel
theorem d_Reader_readNewName_34 : decode prog_8_method_29_code 34 = .ok (.if_icmp .eq 9, 3) := by decide +kernel
theorem d_Reader_readNewName_43 : decode prog_8_method_29_code 43 = .ok (.iload_n 2, 1) := by decide +kernel
theorem d_Reader_readNewName_44 : decode prog_8_method_29_code 44 = .ok (.ireturn, 1) := by decide +kernel
theorem d_Reader_readNewName_37 : decode prog_8_method_29_code 37 = .ok (.aload_n 0, 1) := by decide +kernel
theorem d_Reader_readNewName_38 : decode prog_8_method_29_code 38 = .ok (.iconst 3, 1) := by decide +kernel
theorem d_Reader_readNewName_39 : decode prog_8_method_29_code 39 = .ok (.iload_n 1, 1) := by decide +kernel
theorem d_Reader_readNewName_40 : decode prog_8_method_29_code 40 = .ok (.invokevirtual 65, 3) := by decide +kernel
theorem d_Reader_readGateName_0 : decode prog_8_method_30_code 0 = .ok (.aload_n 0, 1) := by decide +kernel
theorem d_Reader_readGateName_1 : decode prog_8_method_30_code 1 = .ok (.getfield 62, 3) := by decide +kernel
theorem d_Reader_readGateName_4 : decode prog_8_method_30_code 4 = .ok (.istore_n 1, 1) := by decide +kernel
theorem d_Reader_readGateName_5 : decode prog_8_method_30_code 5 = .ok (.aload_n 0, 1) := by decide +kernel
theorem d_Reader_readGateName_6 : decode prog_8_method_30_code 6 = .ok (.getfield 23, 3) := by decide +kernel
theorem d_Reader_readGateName_9 : decode prog_8_method_30_code 9 = .ok (.getfield 124, 3) := by decide +kernel
theorem d_Reader_readGateName_12 : decode prog_8_method_30_code 12 = .ok (.aload_n 0, 1) := by decide +kernel
theorem d_Reader_readGateName_13 : decode prog_8_method_30_code 13 = .ok (.invokevirtual 188, 3) := by decide +kernel
theorem d_Reader_readGateName_16 : decode prog_8_method_30_code 16 = .ok (.invokevirtual 282, 3) := by decide +kernel
theorem d_Reader_readGateName_19 : decode prog_8_method_30_code 19 = .ok (.istore_n 2, 1) := by decide +kernel
theorem d_Reader_readGateName_20 : decode prog_8_method_30_code 20 = .ok (.iload_n 2, 1) := by decide +kernel
theorem d_Reader_readGateName_21 : decode prog_8_method_30_code 21 = .ok (.iconst (-1), 1) := by decide +kernel
theorem d_Reader_readGateName_22 : decode prog_8_method_30_code 22 = .ok (.if_icmp .ne 9, 3) := by decide +kernel
theorem d_Reader_readGateName_25 : decode prog_8_method_30_code 25 = .ok (.aload_n 0, 1) := by decide +kernel
theorem d_Reader_readGateName_26 : decode prog_8_method_30_code 26 = .ok (.iconst 3, 1) := by decide +kernel
theorem d_Reader_readGateName_27 : decode prog_8_method_30_code 27 = .ok (.iload_n 1, 1) := by decide +kernel
theorem d_Reader_readGateName_28 : decode prog_8_method_30_code 28 = .ok (.invokevirtual 65, 3) := by decide +kernel
theorem d_Reader_readGateName_31 : decode prog_8_method_30_code 31 = .ok (.iload_n 2, 1) := by decide +kernel
theorem d_Reader_readGateName_32 : decode prog_8_method_30_code 32 = .ok (.ireturn, 1) := by decide +kernel
