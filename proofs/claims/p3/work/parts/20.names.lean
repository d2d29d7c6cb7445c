section JLO
variable {p : Program} {l : Launch} {e : Env} {R : Room} {s : State} {m : MethodId} {args : Array Value} {below : List Frame} {meth : Method} {c : Code} {Q : State → Prop} {D : va_G} {A : Nat → Prop} {nL : Nat} {ws : va_W} {lv : List (Nat × Value)} {kc ks pc : Nat} {st : List Value}
/-- a loop: what is shown at its head for a state, may rest on the same for states of less measure -/
theorem j_loop {α : Type} (μ : α → Nat) (P : α → Prop) (ws' : α → va_W) (lv' : α → List (Nat × Value)) (a0 : α) (hw : ws = ws' a0) (hl : lv = lv' a0) (h0 : P a0) (step : ∀ a, P a → (∀ b, P b → μ b < μ a → J p l e R s m args below meth c Q D A nL (ws' b) (lv' b) kc ks pc []) → J p l e R s m args below meth c Q D A nL (ws' a) (lv' a) kc ks pc []) : J p l e R s m args below meth c Q D A nL ws lv kc ks pc [] := by
  have h : ∀ n a, μ a < n → P a → J p l e R s m args below meth c Q D A nL (ws' a) (lv' a) kc ks pc [] := by
    intro n
    induction n with
    | zero => exact fun a h => absurd h (Nat.not_lt_zero _)
    | succ n ih => exact fun a h hP => step a hP (fun b hb hlt => ih b (by omega) hb)
  rw [hw, hl]
  exact h (μ a0 + 1) a0 (Nat.lt_succ_self _) h0
theorem j_anyI {x : Int32} (k : ∀ v : Int32, J p l e R s m args below meth c Q D A nL ws lv kc ks pc (.int v :: st)) : J p l e R s m args below meth c Q D A nL ws lv kc ks pc (.int x :: st) := k x
theorem j_anyL {x : Int64} (k : ∀ v : Int64, J p l e R s m args below meth c Q D A nL ws lv kc ks pc (.long v :: st)) : J p l e R s m args below meth c Q D A nL ws lv kc ks pc (.long x :: st) := k x
theorem j_anyW {α : Type} (F : α → va_W) (f0 : α) (h : ws = F f0) (k : ∀ f, J p l e R s m args below meth c Q D A nL (F f) lv kc ks pc st) : J p l e R s m args below meth c Q D A nL ws lv kc ks pc st := h ▸ k f0
theorem j_genW {α : Type} (F : α → va_W) (f0 : α) (h : ws = F f0) (P : α → Prop) (hp : P f0) (k : ∀ f, P f → J p l e R s m args below meth c Q D A nL (F f) lv kc ks pc st) : J p l e R s m args below meth c Q D A nL ws lv kc ks pc st := h ▸ k f0 hp
end JLO
theorem m1_lt {n : Nat} (h : n < 2 ^ 31) : (-1 : Int32) < nI n := by
  rw [Int32.lt_iff_toInt_lt, nI_toInt h, (by decide : Int32.toInt (-1) = -1)]
  omega
theorem m1_nle {n : Nat} (h : n < 2 ^ 31) : ¬ nI n ≤ (-1 : Int32) := Int32.not_le.mpr (m1_lt h)
theorem d_Reader_readNumber_0 : decode prog_8_method_27_code 0 = .ok (.aload_n 0, 1) := by decide +kernel
theorem d_Reader_readNumber_1 : decode prog_8_method_27_code 1 = .ok (.getfield 62, 3) := by decide +kernel
theorem d_Reader_readNumber_4 : decode prog_8_method_27_code 4 = .ok (.istore_n 3, 1) := by decide +kernel
theorem d_Reader_readNumber_5 : decode prog_8_method_27_code 5 = .ok (.aload_n 0, 1) := by decide +kernel
theorem d_Reader_readNumber_6 : decode prog_8_method_27_code 6 = .ok (.getfield 275, 3) := by decide +kernel
theorem d_Reader_readNumber_9 : decode prog_8_method_27_code 9 = .ok (.istore 4, 2) := by decide +kernel
theorem d_Reader_readNumber_11 : decode prog_8_method_27_code 11 = .ok (.aload_n 0, 1) := by decide +kernel
theorem d_Reader_readNumber_12 : decode prog_8_method_27_code 12 = .ok (.getfield 50, 3) := by decide +kernel
theorem d_Reader_readNumber_15 : decode prog_8_method_27_code 15 = .ok (.iconst 2, 1) := by decide +kernel
theorem d_Reader_readNumber_16 : decode prog_8_method_27_code 16 = .ok (.if_icmp .eq 11, 3) := by decide +kernel
theorem d_Reader_readNumber_27 : decode prog_8_method_27_code 27 = .ok (.aload_n 0, 1) := by decide +kernel
theorem d_Reader_readNumber_28 : decode prog_8_method_27_code 28 = .ok (.getfield 47, 3) := by decide +kernel
theorem d_Reader_readNumber_31 : decode prog_8_method_27_code 31 = .ok (.iload_n 3, 1) := by decide +kernel
theorem d_Reader_readNumber_32 : decode prog_8_method_27_code 32 = .ok (.isub, 1) := by decide +kernel
theorem d_Reader_readNumber_33 : decode prog_8_method_27_code 33 = .ok (.iconst 4, 1) := by decide +kernel
theorem d_Reader_readNumber_34 : decode prog_8_method_27_code 34 = .ok (.if_icmp .le 13, 3) := by decide +kernel
theorem d_Reader_readNumber_47 : decode prog_8_method_27_code 47 = .ok (.iload 4, 2) := by decide +kernel
theorem d_Reader_readNumber_49 : decode prog_8_method_27_code 49 = .ok (.iload_n 1, 1) := by decide +kernel
theorem d_Reader_readNumber_50 : decode prog_8_method_27_code 50 = .ok (.if_icmp .lt 9, 3) := by decide +kernel
theorem d_Reader_readNumber_59 : decode prog_8_method_27_code 59 = .ok (.aload_n 0, 1) := by decide +kernel
theorem d_Reader_readNumber_60 : decode prog_8_method_27_code 60 = .ok (.iconst 2, 1) := by decide +kernel
theorem d_Reader_readNumber_61 : decode prog_8_method_27_code 61 = .ok (.iload_n 3, 1) := by decide +kernel
theorem d_Reader_readNumber_62 : decode prog_8_method_27_code 62 = .ok (.invokevirtual 65, 3) := by decide +kernel
theorem d_Reader_readNumber_65 : decode prog_8_method_27_code 65 = .ok (.iload_n 1, 1) := by decide +kernel
theorem d_Reader_readNumber_66 : decode prog_8_method_27_code 66 = .ok (.ireturn, 1) := by decide +kernel
theorem d_Reader_readNumber_53 : decode prog_8_method_27_code 53 = .ok (.iload 4, 2) := by decide +kernel
theorem d_Reader_readNumber_55 : decode prog_8_method_27_code 55 = .ok (.iload_n 2, 1) := by decide +kernel
theorem d_Reader_readNumber_56 : decode prog_8_method_27_code 56 = .ok (.if_icmp .le 11, 3) := by decide +kernel
theorem d_Reader_readNumber_67 : decode prog_8_method_27_code 67 = .ok (.aload_n 0, 1) := by decide +kernel
theorem d_Reader_readNumber_68 : decode prog_8_method_27_code 68 = .ok (.invokevirtual 53, 3) := by decide +kernel
theorem d_Reader_readNumber_71 : decode prog_8_method_27_code 71 = .ok (.iload 4, 2) := by decide +kernel
theorem d_Reader_readNumber_73 : decode prog_8_method_27_code 73 = .ok (.ireturn, 1) := by decide +kernel
theorem d_Reader_readNumber_37 : decode prog_8_method_27_code 37 = .ok (.aload_n 0, 1) := by decide +kernel
theorem d_Reader_readNumber_38 : decode prog_8_method_27_code 38 = .ok (.iconst 1, 1) := by decide +kernel
theorem d_Reader_readNumber_39 : decode prog_8_method_27_code 39 = .ok (.iload_n 3, 1) := by decide +kernel
theorem d_Reader_readNumber_40 : decode prog_8_method_27_code 40 = .ok (.iconst 4, 1) := by decide +kernel
theorem d_Reader_readNumber_41 : decode prog_8_method_27_code 41 = .ok (.iadd, 1) := by decide +kernel
theorem d_Reader_readNumber_42 : decode prog_8_method_27_code 42 = .ok (.invokevirtual 65, 3) := by decide +kernel
theorem d_Reader_readNumber_45 : decode prog_8_method_27_code 45 = .ok (.iload_n 1, 1) := by decide +kernel
theorem d_Reader_readNumber_46 : decode prog_8_method_27_code 46 = .ok (.ireturn, 1) := by decide +kernel
theorem d_Reader_readNumber_19 : decode prog_8_method_27_code 19 = .ok (.aload_n 0, 1) := by decide +kernel
theorem d_Reader_readNumber_20 : decode prog_8_method_27_code 20 = .ok (.iconst 1, 1) := by decide +kernel
theorem d_Reader_readNumber_21 : decode prog_8_method_27_code 21 = .ok (.iload_n 3, 1) := by decide +kernel
theorem d_Reader_readNumber_22 : decode prog_8_method_27_code 22 = .ok (.invokevirtual 65, 3) := by decide +kernel
theorem d_Reader_readNumber_25 : decode prog_8_method_27_code 25 = .ok (.iload_n 1, 1) := by decide +kernel
theorem d_Reader_readNumber_26 : decode prog_8_method_27_code 26 = .ok (.ireturn, 1) := by decide +kernel
set_option maxHeartbeats 4000000 in
set_option maxRecDepth 100000 in
theorem c_r_readNumber (l : Launch) (D : va_G) (y : Nat → ClassId) (rd : Nat) (ow : Nat) (tp : Nat) (lk : Nat) (td : Nat) (fa : Int32) (pl : Int32) (so : Int32) (le : Int64) (wo : Int32) (nu : Int32) (si : Int32) (ra : Nat) (rs : Nat) (k : Nat) (tf : Nat → Int32) (ww : Nat → Int64) (v1 : Int32) (v2 : Int32) (ha : ra ≤ k) (hs : rs ≤ ra) (hk : k ≤ 1600) : CT l D y ⟨"NineBoards$Reader", "readNumber", "(II)I"⟩ prog_8_method_27_code 5 (some .int) ({ frames := 2, cells := 0, slots := 0, locals := 44 } : Room) [.ref rd, .int v1, .int v2] [(rd, .inr (5, [.int fa, .int pl, .ref ow, .ref tp, .ref lk, .int (nI ra), .int so, .int (nI rs), .long le, .int wo, .int nu, .int si])), (tp, .inr (0, [.ref td, .int (nI k)])), (td, .inl (y 0, 1600, .inl tf)), (ow, .inl (y 1, 33, .inr (.inl ww)))] (QI D [(rd, .inr (5, [.int fa, .int pl, .ref ow, .ref tp, .ref lk, .int (nI ra), .int so, .int (nI rs), .long le, .int wo, .int nu, .int si])), (tp, .inr (0, [.ref td, .int (nI k)])), (td, .inl (y 0, 1600, .inl tf)), (ow, .inl (y 1, 33, .inr (.inl ww)))] (fun (r : Int32) (u : Int32 × Int32 × Nat × Nat × Int32 × Int64 × Int32 × Int32 × Int32) => u.2.2.1 ≤ k ∧ u.2.2.2.1 ≤ u.2.2.1 ∧ (u.1 = 0 → fa = 0)) (fun u => [(rd, .inr (5, [.int u.1, .int u.2.1, .ref ow, .ref tp, .ref lk, .int (nI u.2.2.1), .int u.2.2.2.2.1, .int (nI u.2.2.2.1), .long u.2.2.2.2.2.1, .int u.2.2.2.2.2.2.1, .int u.2.2.2.2.2.2.2.1, .int u.2.2.2.2.2.2.2.2])), (tp, .inr (0, [.ref td, .int (nI k)])), (td, .inl (y 0, 1600, .inl tf)), (ow, .inl (y 1, 33, .inr (.inl ww)))])) := by
  refine CT.of (by decide) (nb rfl) ?_
  intro p e s m args below meth c C hr
  refine j_lv (lv' := [(0, .ref rd), (1, .int v1), (2, .int v2)]) rfl ?_
  refine j_aload_n (pc := 0) C d_Reader_readNumber_0 rfl 0 rfl ?_
  refine j_get (pc := 1) C gf_Reader_62 0 rfl rfl d_Reader_readNumber_1 ?_
  refine j_istore_n (pc := 4) C (lv' := [(3, .int (nI rs)), (0, .ref rd), (1, .int v1), (2, .int v2)]) d_Reader_readNumber_4 rfl (by decide) rfl ?_
  refine j_aload_n (pc := 5) C d_Reader_readNumber_5 rfl 1 rfl ?_
  refine j_get (pc := 6) C gf_Reader_275 0 rfl rfl d_Reader_readNumber_6 ?_
  refine j_istore (pc := 9) C (lv' := [(4, .int nu), (3, .int (nI rs)), (0, .ref rd), (1, .int v1), (2, .int v2)]) d_Reader_readNumber_9 (by decide) rfl ?_
  refine j_aload_n (pc := 11) C d_Reader_readNumber_11 rfl 2 rfl ?_
  refine j_get (pc := 12) C gf_Reader_50 0 rfl rfl d_Reader_readNumber_12 ?_
  refine j_iconst (pc := 15) C (v := 2) d_Reader_readNumber_15 (by decide) ?_
  refine j_icmp_eq (pc := 16) C (tgt := 27) d_Reader_readNumber_16 (by decide) (fun c1 => ?_) (fun c1 => ?_)
  · refine j_aload_n (pc := 27) C d_Reader_readNumber_27 rfl 2 rfl ?_
    refine j_get (pc := 28) C gf_Reader_47 0 rfl rfl d_Reader_readNumber_28 ?_
    refine j_iload_n (pc := 31) C d_Reader_readNumber_31 rfl 1 rfl ?_
    refine j_isub (pc := 32) C (v := nI (ra - rs)) d_Reader_readNumber_32 (pk_sub (by omega)) ?_
    refine j_iconst (pc := 33) C (v := 4) d_Reader_readNumber_33 (by decide) ?_
    by_cases c2 : (ra - rs) ≤ 4
    · refine j_icmp_leT (pc := 34) C (tgt := 47) d_Reader_readNumber_34 (by decide) (show nI (ra - rs) ≤ nI 4 from nI_le (by omega) (by omega)) ?_
      refine j_iload (pc := 47) C d_Reader_readNumber_47 0 rfl ?_
      refine j_iload_n (pc := 49) C d_Reader_readNumber_49 rfl 3 rfl ?_
      refine j_icmp_lt (pc := 50) C (tgt := 59) d_Reader_readNumber_50 (by decide) (fun c3 => ?_) (fun c3 => ?_)
      · refine j_aload_n (pc := 59) C d_Reader_readNumber_59 rfl 2 rfl ?_
        refine j_iconst (pc := 60) C (v := 2) d_Reader_readNumber_60 (by decide) ?_
        refine j_iload_n (pc := 61) C d_Reader_readNumber_61 rfl 1 rfl ?_
        refine j_callVv (pc := 62) C (c_r_fail_2 l D y rd ow tp lk td fa pl so le wo nu si ra rs k (nI rs)) kw_Reader_65 kv_Reader_fail 0 5 rfl rfl ⟨by decide, by decide⟩ ⟨by decide, by decide⟩ (wr := [(td, .inl (y 0, 1600, .inl tf)), (ow, .inl (y 1, 33, .inr (.inl ww)))]) [0, 1] [2, 3] rfl rfl (by decide) (by decide) (by decide) (As := [.int 2, .int (nI rs)]) (rest := []) rfl (nb rfl) rfl d_Reader_readNumber_62 (fun u4 hu5 => ?_)
        have h6 := hu5
        refine j_ws (ws' := [(td, .inl (y 0, 1600, .inl tf)), (ow, .inl (y 1, 33, .inr (.inl ww))), (rd, .inr (5, [.int u4.1, .int u4.2, .ref ow, .ref tp, .ref lk, .int (nI k), .int 0, .int (nI k), .long le, .int wo, .int nu, .int si])), (tp, .inr (0, [.ref td, .int (nI k)]))]) rfl ?_
        refine j_iload_n (pc := 65) C d_Reader_readNumber_65 rfl 3 rfl ?_
        exact j_iret (pc := 66) C hr rfl (u4.1, u4.2, k, k, 0, le, wo, nu, si) ⟨(show k ≤ k by omega), (show k ≤ k by omega), (fun e => absurd e h6)⟩ [2, 3, 0, 1] rfl (by decide) (by decide) (by decide) d_Reader_readNumber_66
      · refine j_iload (pc := 53) C d_Reader_readNumber_53 0 rfl ?_
        refine j_iload_n (pc := 55) C d_Reader_readNumber_55 rfl 4 rfl ?_
        refine j_icmp_le (pc := 56) C (tgt := 67) d_Reader_readNumber_56 (by decide) (fun c7 => ?_) (fun c7 => ?_)
        · refine j_aload_n (pc := 67) C d_Reader_readNumber_67 rfl 2 rfl ?_
          refine j_callVv (pc := 68) C (c_r_advance l D y rd ow tp lk td fa pl so le wo nu si ra rs k tf ww ha hs hk) kw_Reader_53 kv_Reader_advance 0 5 rfl rfl ⟨by decide, by decide⟩ ⟨by decide, by decide⟩ (wr := []) [0, 1, 2, 3] [] rfl rfl (by decide) (by decide) (by decide) (As := []) (rest := []) rfl (nb rfl) rfl d_Reader_readNumber_68 (fun u8 hu9 => ?_)
          obtain ⟨h12, h13⟩ := hu9
          refine j_ws (ws' := [(rd, .inr (5, [.int fa, .int pl, .ref ow, .ref tp, .ref lk, .int (nI u8.1), .int u8.2.2.1, .int (nI u8.2.1), .long u8.2.2.2.1, .int u8.2.2.2.2.1, .int u8.2.2.2.2.2.1, .int u8.2.2.2.2.2.2])), (tp, .inr (0, [.ref td, .int (nI k)])), (td, .inl (y 0, 1600, .inl tf)), (ow, .inl (y 1, 33, .inr (.inl ww)))]) rfl ?_
          refine j_iload (pc := 71) C d_Reader_readNumber_71 0 rfl ?_
          exact j_iret (pc := 73) C hr rfl (fa, pl, u8.1, u8.2.1, u8.2.2.1, u8.2.2.2.1, u8.2.2.2.2.1, u8.2.2.2.2.2.1, u8.2.2.2.2.2.2) ⟨(show u8.1 ≤ k by omega), (show u8.2.1 ≤ u8.1 by omega), id⟩ [0, 1, 2, 3] rfl (by decide) (by decide) (by decide) d_Reader_readNumber_73
        · refine j_aload_n (pc := 59) C d_Reader_readNumber_59 rfl 2 rfl ?_
          refine j_iconst (pc := 60) C (v := 2) d_Reader_readNumber_60 (by decide) ?_
          refine j_iload_n (pc := 61) C d_Reader_readNumber_61 rfl 1 rfl ?_
          refine j_callVv (pc := 62) C (c_r_fail_2 l D y rd ow tp lk td fa pl so le wo nu si ra rs k (nI rs)) kw_Reader_65 kv_Reader_fail 0 5 rfl rfl ⟨by decide, by decide⟩ ⟨by decide, by decide⟩ (wr := [(td, .inl (y 0, 1600, .inl tf)), (ow, .inl (y 1, 33, .inr (.inl ww)))]) [0, 1] [2, 3] rfl rfl (by decide) (by decide) (by decide) (As := [.int 2, .int (nI rs)]) (rest := []) rfl (nb rfl) rfl d_Reader_readNumber_62 (fun u14 hu15 => ?_)
          have h16 := hu15
          refine j_ws (ws' := [(td, .inl (y 0, 1600, .inl tf)), (ow, .inl (y 1, 33, .inr (.inl ww))), (rd, .inr (5, [.int u14.1, .int u14.2, .ref ow, .ref tp, .ref lk, .int (nI k), .int 0, .int (nI k), .long le, .int wo, .int nu, .int si])), (tp, .inr (0, [.ref td, .int (nI k)]))]) rfl ?_
          refine j_iload_n (pc := 65) C d_Reader_readNumber_65 rfl 3 rfl ?_
          exact j_iret (pc := 66) C hr rfl (u14.1, u14.2, k, k, 0, le, wo, nu, si) ⟨(show k ≤ k by omega), (show k ≤ k by omega), (fun e => absurd e h16)⟩ [2, 3, 0, 1] rfl (by decide) (by decide) (by decide) d_Reader_readNumber_66
    · refine j_icmp_leF (pc := 34) C (tgt := 47) d_Reader_readNumber_34 (by decide) (show ¬ nI (ra - rs) ≤ nI 4 from nI_ge (by omega) (by omega)) ?_
      refine j_aload_n (pc := 37) C d_Reader_readNumber_37 rfl 2 rfl ?_
      refine j_iconst (pc := 38) C (v := 1) d_Reader_readNumber_38 (by decide) ?_
      refine j_iload_n (pc := 39) C d_Reader_readNumber_39 rfl 1 rfl ?_
      refine j_iconst (pc := 40) C (v := 4) d_Reader_readNumber_40 (by decide) ?_
      refine j_iadd (pc := 41) C (v := nI (rs + 4)) d_Reader_readNumber_41 (nI_add _ _) ?_
      refine j_callVv (pc := 42) C (c_r_fail_1 l D y rd ow tp lk td fa pl so le wo nu si ra rs k (nI (rs + 4))) kw_Reader_65 kv_Reader_fail 0 5 rfl rfl ⟨by decide, by decide⟩ ⟨by decide, by decide⟩ (wr := [(td, .inl (y 0, 1600, .inl tf)), (ow, .inl (y 1, 33, .inr (.inl ww)))]) [0, 1] [2, 3] rfl rfl (by decide) (by decide) (by decide) (As := [.int 1, .int (nI (rs + 4))]) (rest := []) rfl (nb rfl) rfl d_Reader_readNumber_42 (fun u17 hu18 => ?_)
      have h19 := hu18
      refine j_ws (ws' := [(td, .inl (y 0, 1600, .inl tf)), (ow, .inl (y 1, 33, .inr (.inl ww))), (rd, .inr (5, [.int u17.1, .int u17.2, .ref ow, .ref tp, .ref lk, .int (nI k), .int 0, .int (nI k), .long le, .int wo, .int nu, .int si])), (tp, .inr (0, [.ref td, .int (nI k)]))]) rfl ?_
      refine j_iload_n (pc := 45) C d_Reader_readNumber_45 rfl 3 rfl ?_
      exact j_iret (pc := 46) C hr rfl (u17.1, u17.2, k, k, 0, le, wo, nu, si) ⟨(show k ≤ k by omega), (show k ≤ k by omega), (fun e => absurd e h19)⟩ [2, 3, 0, 1] rfl (by decide) (by decide) (by decide) d_Reader_readNumber_46
  · refine j_aload_n (pc := 19) C d_Reader_readNumber_19 rfl 2 rfl ?_
    refine j_iconst (pc := 20) C (v := 1) d_Reader_readNumber_20 (by decide) ?_
    refine j_iload_n (pc := 21) C d_Reader_readNumber_21 rfl 1 rfl ?_
    refine j_callVv (pc := 22) C (c_r_fail_1 l D y rd ow tp lk td fa pl so le wo nu si ra rs k (nI rs)) kw_Reader_65 kv_Reader_fail 0 5 rfl rfl ⟨by decide, by decide⟩ ⟨by decide, by decide⟩ (wr := [(td, .inl (y 0, 1600, .inl tf)), (ow, .inl (y 1, 33, .inr (.inl ww)))]) [0, 1] [2, 3] rfl rfl (by decide) (by decide) (by decide) (As := [.int 1, .int (nI rs)]) (rest := []) rfl (nb rfl) rfl d_Reader_readNumber_22 (fun u20 hu21 => ?_)
    have h22 := hu21
    refine j_ws (ws' := [(td, .inl (y 0, 1600, .inl tf)), (ow, .inl (y 1, 33, .inr (.inl ww))), (rd, .inr (5, [.int u20.1, .int u20.2, .ref ow, .ref tp, .ref lk, .int (nI k), .int 0, .int (nI k), .long le, .int wo, .int nu, .int si])), (tp, .inr (0, [.ref td, .int (nI k)]))]) rfl ?_
    refine j_iload_n (pc := 25) C d_Reader_readNumber_25 rfl 3 rfl ?_
    exact j_iret (pc := 26) C hr rfl (u20.1, u20.2, k, k, 0, le, wo, nu, si) ⟨(show k ≤ k by omega), (show k ≤ k by omega), (fun e => absurd e h22)⟩ [2, 3, 0, 1] rfl (by decide) (by decide) (by decide) d_Reader_readNumber_26
theorem d_Reader_goesDeeper_0 : decode prog_8_method_22_code 0 = .ok (.iload_n 1, 1) := by decide +kernel
theorem d_Reader_goesDeeper_1 : decode prog_8_method_22_code 1 = .ok (.bipush 6, 2) := by decide +kernel
theorem d_Reader_goesDeeper_3 : decode prog_8_method_22_code 3 = .ok (.if_icmp .lt 14, 3) := by decide +kernel
theorem d_Reader_goesDeeper_17 : decode prog_8_method_22_code 17 = .ok (.aload_n 0, 1) := by decide +kernel
theorem d_Reader_goesDeeper_18 : decode prog_8_method_22_code 18 = .ok (.invokevirtual 53, 3) := by decide +kernel
theorem d_Reader_goesDeeper_21 : decode prog_8_method_22_code 21 = .ok (.iconst 1, 1) := by decide +kernel
theorem d_Reader_goesDeeper_22 : decode prog_8_method_22_code 22 = .ok (.ireturn, 1) := by decide +kernel
set_option maxHeartbeats 4000000 in
set_option maxRecDepth 100000 in
theorem c_r_goesDeeper_0 (l : Launch) (D : va_G) (y : Nat → ClassId) (rd : Nat) (ow : Nat) (tp : Nat) (lk : Nat) (td : Nat) (fa : Int32) (pl : Int32) (so : Int32) (le : Int64) (wo : Int32) (nu : Int32) (si : Int32) (ra : Nat) (rs : Nat) (k : Nat) (tf : Nat → Int32) (ww : Nat → Int64) (ha : ra ≤ k) (hs : rs ≤ ra) (hk : k ≤ 1600) : CT l D y ⟨"NineBoards$Reader", "goesDeeper", "(I)Z"⟩ prog_8_method_22_code 2 (some .boolean) ({ frames := 2, cells := 0, slots := 0, locals := 44 } : Room) [.ref rd, .int 0] [(rd, .inr (5, [.int fa, .int pl, .ref ow, .ref tp, .ref lk, .int (nI ra), .int so, .int (nI rs), .long le, .int wo, .int nu, .int si])), (tp, .inr (0, [.ref td, .int (nI k)])), (td, .inl (y 0, 1600, .inl tf)), (ow, .inl (y 1, 33, .inr (.inl ww)))] (QI D [(rd, .inr (5, [.int fa, .int pl, .ref ow, .ref tp, .ref lk, .int (nI ra), .int so, .int (nI rs), .long le, .int wo, .int nu, .int si])), (tp, .inr (0, [.ref td, .int (nI k)])), (td, .inl (y 0, 1600, .inl tf)), (ow, .inl (y 1, 33, .inr (.inl ww)))] (fun (r : Int32) (u : Int32 × Int32 × Nat × Nat × Int32 × Int64 × Int32 × Int32 × Int32) => r = 1 ∧ u.2.2.1 ≤ k ∧ u.2.2.2.1 ≤ u.2.2.1 ∧ (u.1 = 0 → fa = 0)) (fun u => [(rd, .inr (5, [.int u.1, .int u.2.1, .ref ow, .ref tp, .ref lk, .int (nI u.2.2.1), .int u.2.2.2.2.1, .int (nI u.2.2.2.1), .long u.2.2.2.2.2.1, .int u.2.2.2.2.2.2.1, .int u.2.2.2.2.2.2.2.1, .int u.2.2.2.2.2.2.2.2])), (tp, .inr (0, [.ref td, .int (nI k)])), (td, .inl (y 0, 1600, .inl tf)), (ow, .inl (y 1, 33, .inr (.inl ww)))])) := by
  refine CT.of (by decide) (nb rfl) ?_
  intro p e s m args below meth c C hr
  refine j_lv (lv' := [(0, .ref rd), (1, .int 0)]) rfl ?_
  refine j_iload_n (pc := 0) C d_Reader_goesDeeper_0 rfl 1 rfl ?_
  refine j_bipush (pc := 1) C (v := 6) d_Reader_goesDeeper_1 (by decide) ?_
  refine j_icmp_ltT (pc := 3) C (tgt := 17) d_Reader_goesDeeper_3 (by decide) (by decide) ?_
  refine j_aload_n (pc := 17) C d_Reader_goesDeeper_17 rfl 0 rfl ?_
  refine j_callVv (pc := 18) C (c_r_advance l D y rd ow tp lk td fa pl so le wo nu si ra rs k tf ww ha hs hk) kw_Reader_53 kv_Reader_advance 0 5 rfl rfl ⟨by decide, by decide⟩ ⟨by decide, by decide⟩ (wr := []) [0, 1, 2, 3] [] rfl rfl (by decide) (by decide) (by decide) (As := []) (rest := []) rfl (nb rfl) rfl d_Reader_goesDeeper_18 (fun u1 hu2 => ?_)
  obtain ⟨h3, h5⟩ := hu2
  refine j_ws (ws' := [(rd, .inr (5, [.int fa, .int pl, .ref ow, .ref tp, .ref lk, .int (nI u1.1), .int u1.2.2.1, .int (nI u1.2.1), .long u1.2.2.2.1, .int u1.2.2.2.2.1, .int u1.2.2.2.2.2.1, .int u1.2.2.2.2.2.2])), (tp, .inr (0, [.ref td, .int (nI k)])), (td, .inl (y 0, 1600, .inl tf)), (ow, .inl (y 1, 33, .inr (.inl ww)))]) rfl ?_
  refine j_iconst (pc := 21) C (v := 1) d_Reader_goesDeeper_21 (by decide) ?_
  exact j_iret (pc := 22) C hr (by decide) (fa, pl, u1.1, u1.2.1, u1.2.2.1, u1.2.2.2.1, u1.2.2.2.2.1, u1.2.2.2.2.2.1, u1.2.2.2.2.2.2) ⟨rfl, (show u1.1 ≤ k by omega), (show u1.2.1 ≤ u1.1 by omega), id⟩ [0, 1, 2, 3] rfl (by decide) (by decide) (by decide) d_Reader_goesDeeper_22
set_option maxHeartbeats 4000000 in
set_option maxRecDepth 100000 in
theorem c_r_goesDeeper_1 (l : Launch) (D : va_G) (y : Nat → ClassId) (rd : Nat) (ow : Nat) (tp : Nat) (lk : Nat) (td : Nat) (fa : Int32) (pl : Int32) (so : Int32) (le : Int64) (wo : Int32) (nu : Int32) (si : Int32) (ra : Nat) (rs : Nat) (k : Nat) (tf : Nat → Int32) (ww : Nat → Int64) (ha : ra ≤ k) (hs : rs ≤ ra) (hk : k ≤ 1600) : CT l D y ⟨"NineBoards$Reader", "goesDeeper", "(I)Z"⟩ prog_8_method_22_code 2 (some .boolean) ({ frames := 2, cells := 0, slots := 0, locals := 44 } : Room) [.ref rd, .int 1] [(rd, .inr (5, [.int fa, .int pl, .ref ow, .ref tp, .ref lk, .int (nI ra), .int so, .int (nI rs), .long le, .int wo, .int nu, .int si])), (tp, .inr (0, [.ref td, .int (nI k)])), (td, .inl (y 0, 1600, .inl tf)), (ow, .inl (y 1, 33, .inr (.inl ww)))] (QI D [(rd, .inr (5, [.int fa, .int pl, .ref ow, .ref tp, .ref lk, .int (nI ra), .int so, .int (nI rs), .long le, .int wo, .int nu, .int si])), (tp, .inr (0, [.ref td, .int (nI k)])), (td, .inl (y 0, 1600, .inl tf)), (ow, .inl (y 1, 33, .inr (.inl ww)))] (fun (r : Int32) (u : Int32 × Int32 × Nat × Nat × Int32 × Int64 × Int32 × Int32 × Int32) => r = 1 ∧ u.2.2.1 ≤ k ∧ u.2.2.2.1 ≤ u.2.2.1 ∧ (u.1 = 0 → fa = 0)) (fun u => [(rd, .inr (5, [.int u.1, .int u.2.1, .ref ow, .ref tp, .ref lk, .int (nI u.2.2.1), .int u.2.2.2.2.1, .int (nI u.2.2.2.1), .long u.2.2.2.2.2.1, .int u.2.2.2.2.2.2.1, .int u.2.2.2.2.2.2.2.1, .int u.2.2.2.2.2.2.2.2])), (tp, .inr (0, [.ref td, .int (nI k)])), (td, .inl (y 0, 1600, .inl tf)), (ow, .inl (y 1, 33, .inr (.inl ww)))])) := by
  refine CT.of (by decide) (nb rfl) ?_
  intro p e s m args below meth c C hr
  refine j_lv (lv' := [(0, .ref rd), (1, .int 1)]) rfl ?_
  refine j_iload_n (pc := 0) C d_Reader_goesDeeper_0 rfl 1 rfl ?_
  refine j_bipush (pc := 1) C (v := 6) d_Reader_goesDeeper_1 (by decide) ?_
  refine j_icmp_ltT (pc := 3) C (tgt := 17) d_Reader_goesDeeper_3 (by decide) (by decide) ?_
  refine j_aload_n (pc := 17) C d_Reader_goesDeeper_17 rfl 0 rfl ?_
  refine j_callVv (pc := 18) C (c_r_advance l D y rd ow tp lk td fa pl so le wo nu si ra rs k tf ww ha hs hk) kw_Reader_53 kv_Reader_advance 0 5 rfl rfl ⟨by decide, by decide⟩ ⟨by decide, by decide⟩ (wr := []) [0, 1, 2, 3] [] rfl rfl (by decide) (by decide) (by decide) (As := []) (rest := []) rfl (nb rfl) rfl d_Reader_goesDeeper_18 (fun u1 hu2 => ?_)
  obtain ⟨h3, h5⟩ := hu2
  refine j_ws (ws' := [(rd, .inr (5, [.int fa, .int pl, .ref ow, .ref tp, .ref lk, .int (nI u1.1), .int u1.2.2.1, .int (nI u1.2.1), .long u1.2.2.2.1, .int u1.2.2.2.2.1, .int u1.2.2.2.2.2.1, .int u1.2.2.2.2.2.2])), (tp, .inr (0, [.ref td, .int (nI k)])), (td, .inl (y 0, 1600, .inl tf)), (ow, .inl (y 1, 33, .inr (.inl ww)))]) rfl ?_
  refine j_iconst (pc := 21) C (v := 1) d_Reader_goesDeeper_21 (by decide) ?_
  exact j_iret (pc := 22) C hr (by decide) (fa, pl, u1.1, u1.2.1, u1.2.2.1, u1.2.2.2.1, u1.2.2.2.2.1, u1.2.2.2.2.2.1, u1.2.2.2.2.2.2) ⟨rfl, (show u1.1 ≤ k by omega), (show u1.2.1 ≤ u1.1 by omega), id⟩ [0, 1, 2, 3] rfl (by decide) (by decide) (by decide) d_Reader_goesDeeper_22
set_option maxHeartbeats 4000000 in
set_option maxRecDepth 100000 in
theorem c_r_goesDeeper_2 (l : Launch) (D : va_G) (y : Nat → ClassId) (rd : Nat) (ow : Nat) (tp : Nat) (lk : Nat) (td : Nat) (fa : Int32) (pl : Int32) (so : Int32) (le : Int64) (wo : Int32) (nu : Int32) (si : Int32) (ra : Nat) (rs : Nat) (k : Nat) (tf : Nat → Int32) (ww : Nat → Int64) (ha : ra ≤ k) (hs : rs ≤ ra) (hk : k ≤ 1600) : CT l D y ⟨"NineBoards$Reader", "goesDeeper", "(I)Z"⟩ prog_8_method_22_code 2 (some .boolean) ({ frames := 2, cells := 0, slots := 0, locals := 44 } : Room) [.ref rd, .int 2] [(rd, .inr (5, [.int fa, .int pl, .ref ow, .ref tp, .ref lk, .int (nI ra), .int so, .int (nI rs), .long le, .int wo, .int nu, .int si])), (tp, .inr (0, [.ref td, .int (nI k)])), (td, .inl (y 0, 1600, .inl tf)), (ow, .inl (y 1, 33, .inr (.inl ww)))] (QI D [(rd, .inr (5, [.int fa, .int pl, .ref ow, .ref tp, .ref lk, .int (nI ra), .int so, .int (nI rs), .long le, .int wo, .int nu, .int si])), (tp, .inr (0, [.ref td, .int (nI k)])), (td, .inl (y 0, 1600, .inl tf)), (ow, .inl (y 1, 33, .inr (.inl ww)))] (fun (r : Int32) (u : Int32 × Int32 × Nat × Nat × Int32 × Int64 × Int32 × Int32 × Int32) => r = 1 ∧ u.2.2.1 ≤ k ∧ u.2.2.2.1 ≤ u.2.2.1 ∧ (u.1 = 0 → fa = 0)) (fun u => [(rd, .inr (5, [.int u.1, .int u.2.1, .ref ow, .ref tp, .ref lk, .int (nI u.2.2.1), .int u.2.2.2.2.1, .int (nI u.2.2.2.1), .long u.2.2.2.2.2.1, .int u.2.2.2.2.2.2.1, .int u.2.2.2.2.2.2.2.1, .int u.2.2.2.2.2.2.2.2])), (tp, .inr (0, [.ref td, .int (nI k)])), (td, .inl (y 0, 1600, .inl tf)), (ow, .inl (y 1, 33, .inr (.inl ww)))])) := by
  refine CT.of (by decide) (nb rfl) ?_
  intro p e s m args below meth c C hr
  refine j_lv (lv' := [(0, .ref rd), (1, .int 2)]) rfl ?_
  refine j_iload_n (pc := 0) C d_Reader_goesDeeper_0 rfl 1 rfl ?_
  refine j_bipush (pc := 1) C (v := 6) d_Reader_goesDeeper_1 (by decide) ?_
  refine j_icmp_ltT (pc := 3) C (tgt := 17) d_Reader_goesDeeper_3 (by decide) (by decide) ?_
  refine j_aload_n (pc := 17) C d_Reader_goesDeeper_17 rfl 0 rfl ?_
  refine j_callVv (pc := 18) C (c_r_advance l D y rd ow tp lk td fa pl so le wo nu si ra rs k tf ww ha hs hk) kw_Reader_53 kv_Reader_advance 0 5 rfl rfl ⟨by decide, by decide⟩ ⟨by decide, by decide⟩ (wr := []) [0, 1, 2, 3] [] rfl rfl (by decide) (by decide) (by decide) (As := []) (rest := []) rfl (nb rfl) rfl d_Reader_goesDeeper_18 (fun u1 hu2 => ?_)
  obtain ⟨h3, h5⟩ := hu2
  refine j_ws (ws' := [(rd, .inr (5, [.int fa, .int pl, .ref ow, .ref tp, .ref lk, .int (nI u1.1), .int u1.2.2.1, .int (nI u1.2.1), .long u1.2.2.2.1, .int u1.2.2.2.2.1, .int u1.2.2.2.2.2.1, .int u1.2.2.2.2.2.2])), (tp, .inr (0, [.ref td, .int (nI k)])), (td, .inl (y 0, 1600, .inl tf)), (ow, .inl (y 1, 33, .inr (.inl ww)))]) rfl ?_
  refine j_iconst (pc := 21) C (v := 1) d_Reader_goesDeeper_21 (by decide) ?_
  exact j_iret (pc := 22) C hr (by decide) (fa, pl, u1.1, u1.2.1, u1.2.2.1, u1.2.2.2.1, u1.2.2.2.2.1, u1.2.2.2.2.2.1, u1.2.2.2.2.2.2) ⟨rfl, (show u1.1 ≤ k by omega), (show u1.2.1 ≤ u1.1 by omega), id⟩ [0, 1, 2, 3] rfl (by decide) (by decide) (by decide) d_Reader_goesDeeper_22
set_option maxHeartbeats 4000000 in
set_option maxRecDepth 100000 in
theorem c_r_goesDeeper_3 (l : Launch) (D : va_G) (y : Nat → ClassId) (rd : Nat) (ow : Nat) (tp : Nat) (lk : Nat) (td : Nat) (fa : Int32) (pl : Int32) (so : Int32) (le : Int64) (wo : Int32) (nu : Int32) (si : Int32) (ra : Nat) (rs : Nat) (k : Nat) (tf : Nat → Int32) (ww : Nat → Int64) (ha : ra ≤ k) (hs : rs ≤ ra) (hk : k ≤ 1600) : CT l D y ⟨"NineBoards$Reader", "goesDeeper", "(I)Z"⟩ prog_8_method_22_code 2 (some .boolean) ({ frames := 2, cells := 0, slots := 0, locals := 44 } : Room) [.ref rd, .int 3] [(rd, .inr (5, [.int fa, .int pl, .ref ow, .ref tp, .ref lk, .int (nI ra), .int so, .int (nI rs), .long le, .int wo, .int nu, .int si])), (tp, .inr (0, [.ref td, .int (nI k)])), (td, .inl (y 0, 1600, .inl tf)), (ow, .inl (y 1, 33, .inr (.inl ww)))] (QI D [(rd, .inr (5, [.int fa, .int pl, .ref ow, .ref tp, .ref lk, .int (nI ra), .int so, .int (nI rs), .long le, .int wo, .int nu, .int si])), (tp, .inr (0, [.ref td, .int (nI k)])), (td, .inl (y 0, 1600, .inl tf)), (ow, .inl (y 1, 33, .inr (.inl ww)))] (fun (r : Int32) (u : Int32 × Int32 × Nat × Nat × Int32 × Int64 × Int32 × Int32 × Int32) => r = 1 ∧ u.2.2.1 ≤ k ∧ u.2.2.2.1 ≤ u.2.2.1 ∧ (u.1 = 0 → fa = 0)) (fun u => [(rd, .inr (5, [.int u.1, .int u.2.1, .ref ow, .ref tp, .ref lk, .int (nI u.2.2.1), .int u.2.2.2.2.1, .int (nI u.2.2.2.1), .long u.2.2.2.2.2.1, .int u.2.2.2.2.2.2.1, .int u.2.2.2.2.2.2.2.1, .int u.2.2.2.2.2.2.2.2])), (tp, .inr (0, [.ref td, .int (nI k)])), (td, .inl (y 0, 1600, .inl tf)), (ow, .inl (y 1, 33, .inr (.inl ww)))])) := by
  refine CT.of (by decide) (nb rfl) ?_
  intro p e s m args below meth c C hr
  refine j_lv (lv' := [(0, .ref rd), (1, .int 3)]) rfl ?_
  refine j_iload_n (pc := 0) C d_Reader_goesDeeper_0 rfl 1 rfl ?_
  refine j_bipush (pc := 1) C (v := 6) d_Reader_goesDeeper_1 (by decide) ?_
  refine j_icmp_ltT (pc := 3) C (tgt := 17) d_Reader_goesDeeper_3 (by decide) (by decide) ?_
  refine j_aload_n (pc := 17) C d_Reader_goesDeeper_17 rfl 0 rfl ?_
  refine j_callVv (pc := 18) C (c_r_advance l D y rd ow tp lk td fa pl so le wo nu si ra rs k tf ww ha hs hk) kw_Reader_53 kv_Reader_advance 0 5 rfl rfl ⟨by decide, by decide⟩ ⟨by decide, by decide⟩ (wr := []) [0, 1, 2, 3] [] rfl rfl (by decide) (by decide) (by decide) (As := []) (rest := []) rfl (nb rfl) rfl d_Reader_goesDeeper_18 (fun u1 hu2 => ?_)
  obtain ⟨h3, h5⟩ := hu2
  refine j_ws (ws' := [(rd, .inr (5, [.int fa, .int pl, .ref ow, .ref tp, .ref lk, .int (nI u1.1), .int u1.2.2.1, .int (nI u1.2.1), .long u1.2.2.2.1, .int u1.2.2.2.2.1, .int u1.2.2.2.2.2.1, .int u1.2.2.2.2.2.2])), (tp, .inr (0, [.ref td, .int (nI k)])), (td, .inl (y 0, 1600, .inl tf)), (ow, .inl (y 1, 33, .inr (.inl ww)))]) rfl ?_
  refine j_iconst (pc := 21) C (v := 1) d_Reader_goesDeeper_21 (by decide) ?_
  exact j_iret (pc := 22) C hr (by decide) (fa, pl, u1.1, u1.2.1, u1.2.2.1, u1.2.2.2.1, u1.2.2.2.2.1, u1.2.2.2.2.2.1, u1.2.2.2.2.2.2) ⟨rfl, (show u1.1 ≤ k by omega), (show u1.2.1 ≤ u1.1 by omega), id⟩ [0, 1, 2, 3] rfl (by decide) (by decide) (by decide) d_Reader_goesDeeper_22
set_option maxHeartbeats 4000000 in
set_option maxRecDepth 100000 in
theorem c_r_goesDeeper_4 (l : Launch) (D : va_G) (y : Nat → ClassId) (rd : Nat) (ow : Nat) (tp : Nat) (lk : Nat) (td : Nat) (fa : Int32) (pl : Int32) (so : Int32) (le : Int64) (wo : Int32) (nu : Int32) (si : Int32) (ra : Nat) (rs : Nat) (k : Nat) (tf : Nat → Int32) (ww : Nat → Int64) (ha : ra ≤ k) (hs : rs ≤ ra) (hk : k ≤ 1600) : CT l D y ⟨"NineBoards$Reader", "goesDeeper", "(I)Z"⟩ prog_8_method_22_code 2 (some .boolean) ({ frames := 2, cells := 0, slots := 0, locals := 44 } : Room) [.ref rd, .int 4] [(rd, .inr (5, [.int fa, .int pl, .ref ow, .ref tp, .ref lk, .int (nI ra), .int so, .int (nI rs), .long le, .int wo, .int nu, .int si])), (tp, .inr (0, [.ref td, .int (nI k)])), (td, .inl (y 0, 1600, .inl tf)), (ow, .inl (y 1, 33, .inr (.inl ww)))] (QI D [(rd, .inr (5, [.int fa, .int pl, .ref ow, .ref tp, .ref lk, .int (nI ra), .int so, .int (nI rs), .long le, .int wo, .int nu, .int si])), (tp, .inr (0, [.ref td, .int (nI k)])), (td, .inl (y 0, 1600, .inl tf)), (ow, .inl (y 1, 33, .inr (.inl ww)))] (fun (r : Int32) (u : Int32 × Int32 × Nat × Nat × Int32 × Int64 × Int32 × Int32 × Int32) => r = 1 ∧ u.2.2.1 ≤ k ∧ u.2.2.2.1 ≤ u.2.2.1 ∧ (u.1 = 0 → fa = 0)) (fun u => [(rd, .inr (5, [.int u.1, .int u.2.1, .ref ow, .ref tp, .ref lk, .int (nI u.2.2.1), .int u.2.2.2.2.1, .int (nI u.2.2.2.1), .long u.2.2.2.2.2.1, .int u.2.2.2.2.2.2.1, .int u.2.2.2.2.2.2.2.1, .int u.2.2.2.2.2.2.2.2])), (tp, .inr (0, [.ref td, .int (nI k)])), (td, .inl (y 0, 1600, .inl tf)), (ow, .inl (y 1, 33, .inr (.inl ww)))])) := by
  refine CT.of (by decide) (nb rfl) ?_
  intro p e s m args below meth c C hr
  refine j_lv (lv' := [(0, .ref rd), (1, .int 4)]) rfl ?_
  refine j_iload_n (pc := 0) C d_Reader_goesDeeper_0 rfl 1 rfl ?_
  refine j_bipush (pc := 1) C (v := 6) d_Reader_goesDeeper_1 (by decide) ?_
  refine j_icmp_ltT (pc := 3) C (tgt := 17) d_Reader_goesDeeper_3 (by decide) (by decide) ?_
  refine j_aload_n (pc := 17) C d_Reader_goesDeeper_17 rfl 0 rfl ?_
  refine j_callVv (pc := 18) C (c_r_advance l D y rd ow tp lk td fa pl so le wo nu si ra rs k tf ww ha hs hk) kw_Reader_53 kv_Reader_advance 0 5 rfl rfl ⟨by decide, by decide⟩ ⟨by decide, by decide⟩ (wr := []) [0, 1, 2, 3] [] rfl rfl (by decide) (by decide) (by decide) (As := []) (rest := []) rfl (nb rfl) rfl d_Reader_goesDeeper_18 (fun u1 hu2 => ?_)
  obtain ⟨h3, h5⟩ := hu2
  refine j_ws (ws' := [(rd, .inr (5, [.int fa, .int pl, .ref ow, .ref tp, .ref lk, .int (nI u1.1), .int u1.2.2.1, .int (nI u1.2.1), .long u1.2.2.2.1, .int u1.2.2.2.2.1, .int u1.2.2.2.2.2.1, .int u1.2.2.2.2.2.2])), (tp, .inr (0, [.ref td, .int (nI k)])), (td, .inl (y 0, 1600, .inl tf)), (ow, .inl (y 1, 33, .inr (.inl ww)))]) rfl ?_
  refine j_iconst (pc := 21) C (v := 1) d_Reader_goesDeeper_21 (by decide) ?_
  exact j_iret (pc := 22) C hr (by decide) (fa, pl, u1.1, u1.2.1, u1.2.2.1, u1.2.2.2.1, u1.2.2.2.2.1, u1.2.2.2.2.2.1, u1.2.2.2.2.2.2) ⟨rfl, (show u1.1 ≤ k by omega), (show u1.2.1 ≤ u1.1 by omega), id⟩ [0, 1, 2, 3] rfl (by decide) (by decide) (by decide) d_Reader_goesDeeper_22
set_option maxHeartbeats 4000000 in
set_option maxRecDepth 100000 in
theorem c_r_goesDeeper_5 (l : Launch) (D : va_G) (y : Nat → ClassId) (rd : Nat) (ow : Nat) (tp : Nat) (lk : Nat) (td : Nat) (fa : Int32) (pl : Int32) (so : Int32) (le : Int64) (wo : Int32) (nu : Int32) (si : Int32) (ra : Nat) (rs : Nat) (k : Nat) (tf : Nat → Int32) (ww : Nat → Int64) (ha : ra ≤ k) (hs : rs ≤ ra) (hk : k ≤ 1600) : CT l D y ⟨"NineBoards$Reader", "goesDeeper", "(I)Z"⟩ prog_8_method_22_code 2 (some .boolean) ({ frames := 2, cells := 0, slots := 0, locals := 44 } : Room) [.ref rd, .int 5] [(rd, .inr (5, [.int fa, .int pl, .ref ow, .ref tp, .ref lk, .int (nI ra), .int so, .int (nI rs), .long le, .int wo, .int nu, .int si])), (tp, .inr (0, [.ref td, .int (nI k)])), (td, .inl (y 0, 1600, .inl tf)), (ow, .inl (y 1, 33, .inr (.inl ww)))] (QI D [(rd, .inr (5, [.int fa, .int pl, .ref ow, .ref tp, .ref lk, .int (nI ra), .int so, .int (nI rs), .long le, .int wo, .int nu, .int si])), (tp, .inr (0, [.ref td, .int (nI k)])), (td, .inl (y 0, 1600, .inl tf)), (ow, .inl (y 1, 33, .inr (.inl ww)))] (fun (r : Int32) (u : Int32 × Int32 × Nat × Nat × Int32 × Int64 × Int32 × Int32 × Int32) => r = 1 ∧ u.2.2.1 ≤ k ∧ u.2.2.2.1 ≤ u.2.2.1 ∧ (u.1 = 0 → fa = 0)) (fun u => [(rd, .inr (5, [.int u.1, .int u.2.1, .ref ow, .ref tp, .ref lk, .int (nI u.2.2.1), .int u.2.2.2.2.1, .int (nI u.2.2.2.1), .long u.2.2.2.2.2.1, .int u.2.2.2.2.2.2.1, .int u.2.2.2.2.2.2.2.1, .int u.2.2.2.2.2.2.2.2])), (tp, .inr (0, [.ref td, .int (nI k)])), (td, .inl (y 0, 1600, .inl tf)), (ow, .inl (y 1, 33, .inr (.inl ww)))])) := by
  refine CT.of (by decide) (nb rfl) ?_
  intro p e s m args below meth c C hr
  refine j_lv (lv' := [(0, .ref rd), (1, .int 5)]) rfl ?_
  refine j_iload_n (pc := 0) C d_Reader_goesDeeper_0 rfl 1 rfl ?_
  refine j_bipush (pc := 1) C (v := 6) d_Reader_goesDeeper_1 (by decide) ?_
  refine j_icmp_ltT (pc := 3) C (tgt := 17) d_Reader_goesDeeper_3 (by decide) (by decide) ?_
  refine j_aload_n (pc := 17) C d_Reader_goesDeeper_17 rfl 0 rfl ?_
  refine j_callVv (pc := 18) C (c_r_advance l D y rd ow tp lk td fa pl so le wo nu si ra rs k tf ww ha hs hk) kw_Reader_53 kv_Reader_advance 0 5 rfl rfl ⟨by decide, by decide⟩ ⟨by decide, by decide⟩ (wr := []) [0, 1, 2, 3] [] rfl rfl (by decide) (by decide) (by decide) (As := []) (rest := []) rfl (nb rfl) rfl d_Reader_goesDeeper_18 (fun u1 hu2 => ?_)
  obtain ⟨h3, h5⟩ := hu2
  refine j_ws (ws' := [(rd, .inr (5, [.int fa, .int pl, .ref ow, .ref tp, .ref lk, .int (nI u1.1), .int u1.2.2.1, .int (nI u1.2.1), .long u1.2.2.2.1, .int u1.2.2.2.2.1, .int u1.2.2.2.2.2.1, .int u1.2.2.2.2.2.2])), (tp, .inr (0, [.ref td, .int (nI k)])), (td, .inl (y 0, 1600, .inl tf)), (ow, .inl (y 1, 33, .inr (.inl ww)))]) rfl ?_
  refine j_iconst (pc := 21) C (v := 1) d_Reader_goesDeeper_21 (by decide) ?_
  exact j_iret (pc := 22) C hr (by decide) (fa, pl, u1.1, u1.2.1, u1.2.2.1, u1.2.2.2.1, u1.2.2.2.2.1, u1.2.2.2.2.2.1, u1.2.2.2.2.2.2) ⟨rfl, (show u1.1 ≤ k by omega), (show u1.2.1 ≤ u1.1 by omega), id⟩ [0, 1, 2, 3] rfl (by decide) (by decide) (by decide) d_Reader_goesDeeper_22
theorem d_Reader_goesDeeper_6 : decode prog_8_method_22_code 6 = .ok (.aload_n 0, 1) := by decide +kernel
theorem d_Reader_goesDeeper_7 : decode prog_8_method_22_code 7 = .ok (.iconst 4, 1) := by decide +kernel
theorem d_Reader_goesDeeper_8 : decode prog_8_method_22_code 8 = .ok (.aload_n 0, 1) := by decide +kernel
theorem d_Reader_goesDeeper_9 : decode prog_8_method_22_code 9 = .ok (.getfield 62, 3) := by decide +kernel
theorem d_Reader_goesDeeper_12 : decode prog_8_method_22_code 12 = .ok (.invokevirtual 65, 3) := by decide +kernel
theorem d_Reader_goesDeeper_15 : decode prog_8_method_22_code 15 = .ok (.iconst 0, 1) := by decide +kernel
theorem d_Reader_goesDeeper_16 : decode prog_8_method_22_code 16 = .ok (.ireturn, 1) := by decide +kernel
set_option maxHeartbeats 4000000 in
set_option maxRecDepth 100000 in
theorem c_r_goesDeeper_6 (l : Launch) (D : va_G) (y : Nat → ClassId) (rd : Nat) (ow : Nat) (tp : Nat) (lk : Nat) (td : Nat) (fa : Int32) (pl : Int32) (so : Int32) (le : Int64) (wo : Int32) (nu : Int32) (si : Int32) (ra : Nat) (rs : Nat) (k : Nat) (tf : Nat → Int32) (ww : Nat → Int64) (ha : ra ≤ k) (hs : rs ≤ ra) (hk : k ≤ 1600) : CT l D y ⟨"NineBoards$Reader", "goesDeeper", "(I)Z"⟩ prog_8_method_22_code 2 (some .boolean) ({ frames := 1, cells := 0, slots := 0, locals := 22 } : Room) [.ref rd, .int 6] [(rd, .inr (5, [.int fa, .int pl, .ref ow, .ref tp, .ref lk, .int (nI ra), .int so, .int (nI rs), .long le, .int wo, .int nu, .int si])), (tp, .inr (0, [.ref td, .int (nI k)])), (td, .inl (y 0, 1600, .inl tf)), (ow, .inl (y 1, 33, .inr (.inl ww)))] (QI D [(rd, .inr (5, [.int fa, .int pl, .ref ow, .ref tp, .ref lk, .int (nI ra), .int so, .int (nI rs), .long le, .int wo, .int nu, .int si])), (tp, .inr (0, [.ref td, .int (nI k)])), (td, .inl (y 0, 1600, .inl tf)), (ow, .inl (y 1, 33, .inr (.inl ww)))] (fun (r : Int32) (u : Int32 × Int32 × Nat × Nat × Int32 × Int64 × Int32 × Int32 × Int32) => r = 0 ∧ u.2.2.1 ≤ k ∧ u.2.2.2.1 ≤ u.2.2.1 ∧ (u.1 = 0 → fa = 0)) (fun u => [(rd, .inr (5, [.int u.1, .int u.2.1, .ref ow, .ref tp, .ref lk, .int (nI u.2.2.1), .int u.2.2.2.2.1, .int (nI u.2.2.2.1), .long u.2.2.2.2.2.1, .int u.2.2.2.2.2.2.1, .int u.2.2.2.2.2.2.2.1, .int u.2.2.2.2.2.2.2.2])), (tp, .inr (0, [.ref td, .int (nI k)])), (td, .inl (y 0, 1600, .inl tf)), (ow, .inl (y 1, 33, .inr (.inl ww)))])) := by
  refine CT.of (by decide) (nb rfl) ?_
  intro p e s m args below meth c C hr
  refine j_lv (lv' := [(0, .ref rd), (1, .int 6)]) rfl ?_
  refine j_iload_n (pc := 0) C d_Reader_goesDeeper_0 rfl 1 rfl ?_
  refine j_bipush (pc := 1) C (v := 6) d_Reader_goesDeeper_1 (by decide) ?_
  refine j_icmp_ltF (pc := 3) C (tgt := 17) d_Reader_goesDeeper_3 (by decide) (by decide) ?_
  refine j_aload_n (pc := 6) C d_Reader_goesDeeper_6 rfl 0 rfl ?_
  refine j_iconst (pc := 7) C (v := 4) d_Reader_goesDeeper_7 (by decide) ?_
  refine j_aload_n (pc := 8) C d_Reader_goesDeeper_8 rfl 0 rfl ?_
  refine j_get (pc := 9) C gf_Reader_62 0 rfl rfl d_Reader_goesDeeper_9 ?_
  refine j_callVv (pc := 12) C (c_r_fail_4 l D y rd ow tp lk td fa pl so le wo nu si ra rs k (nI rs)) kw_Reader_65 kv_Reader_fail 0 5 rfl rfl ⟨by decide, by decide⟩ ⟨by decide, by decide⟩ (wr := [(td, .inl (y 0, 1600, .inl tf)), (ow, .inl (y 1, 33, .inr (.inl ww)))]) [0, 1] [2, 3] rfl rfl (by decide) (by decide) (by decide) (As := [.int 4, .int (nI rs)]) (rest := []) rfl (nb rfl) rfl d_Reader_goesDeeper_12 (fun u1 hu2 => ?_)
  have h3 := hu2
  refine j_ws (ws' := [(td, .inl (y 0, 1600, .inl tf)), (ow, .inl (y 1, 33, .inr (.inl ww))), (rd, .inr (5, [.int u1.1, .int u1.2, .ref ow, .ref tp, .ref lk, .int (nI k), .int 0, .int (nI k), .long le, .int wo, .int nu, .int si])), (tp, .inr (0, [.ref td, .int (nI k)]))]) rfl ?_
  refine j_iconst (pc := 15) C (v := 0) d_Reader_goesDeeper_15 (by decide) ?_
  exact j_iret (pc := 16) C hr (by decide) (u1.1, u1.2, k, k, 0, le, wo, nu, si) ⟨rfl, (show k ≤ k by omega), (show k ≤ k by omega), (fun e => absurd e h3)⟩ [2, 3, 0, 1] rfl (by decide) (by decide) (by decide) d_Reader_goesDeeper_16
theorem d_Reader_readKind_0 : decode prog_8_method_14_code 0 = .ok (.iload_n 1, 1) := by decide +kernel
theorem d_Reader_readKind_1 : decode prog_8_method_14_code 1 = .ok (.ifCond .lt 8, 3) := by decide +kernel
theorem d_Reader_readKind_4 : decode prog_8_method_14_code 4 = .ok (.iload_n 1, 1) := by decide +kernel
theorem d_Reader_readKind_5 : decode prog_8_method_14_code 5 = .ok (.iload_n 2, 1) := by decide +kernel
theorem d_Reader_readKind_6 : decode prog_8_method_14_code 6 = .ok (.if_icmp .lt 14, 3) := by decide +kernel
theorem d_Reader_readKind_20 : decode prog_8_method_14_code 20 = .ok (.aload_n 0, 1) := by decide +kernel
theorem d_Reader_readKind_21 : decode prog_8_method_14_code 21 = .ok (.invokevirtual 53, 3) := by decide +kernel
theorem d_Reader_readKind_24 : decode prog_8_method_14_code 24 = .ok (.iconst 1, 1) := by decide +kernel
theorem d_Reader_readKind_25 : decode prog_8_method_14_code 25 = .ok (.ireturn, 1) := by decide +kernel
theorem d_Reader_readKind_9 : decode prog_8_method_14_code 9 = .ok (.aload_n 0, 1) := by decide +kernel
theorem d_Reader_readKind_10 : decode prog_8_method_14_code 10 = .ok (.iconst 5, 1) := by decide +kernel
theorem d_Reader_readKind_11 : decode prog_8_method_14_code 11 = .ok (.aload_n 0, 1) := by decide +kernel
theorem d_Reader_readKind_12 : decode prog_8_method_14_code 12 = .ok (.getfield 62, 3) := by decide +kernel
theorem d_Reader_readKind_15 : decode prog_8_method_14_code 15 = .ok (.invokevirtual 65, 3) := by decide +kernel
theorem d_Reader_readKind_18 : decode prog_8_method_14_code 18 = .ok (.iconst 0, 1) := by decide +kernel
theorem d_Reader_readKind_19 : decode prog_8_method_14_code 19 = .ok (.ireturn, 1) := by decide +kernel
set_option maxHeartbeats 4000000 in
set_option maxRecDepth 100000 in
theorem c_r_readKind_9 (l : Launch) (D : va_G) (y : Nat → ClassId) (rd : Nat) (ow : Nat) (tp : Nat) (lk : Nat) (td : Nat) (fa : Int32) (pl : Int32) (so : Int32) (le : Int64) (wo : Int32) (nu : Int32) (si : Int32) (ra : Nat) (rs : Nat) (k : Nat) (tf : Nat → Int32) (ww : Nat → Int64) (n : Nat) (ha : ra ≤ k) (hs : rs ≤ ra) (hk : k ≤ 1600) (hn : n ≤ 9) : CT l D y ⟨"NineBoards$Reader", "readKind", "(II)Z"⟩ prog_8_method_14_code 3 (some .boolean) ({ frames := 2, cells := 0, slots := 0, locals := 44 } : Room) [.ref rd, .int (nI n), .int 9] [(rd, .inr (5, [.int fa, .int pl, .ref ow, .ref tp, .ref lk, .int (nI ra), .int so, .int (nI rs), .long le, .int wo, .int nu, .int si])), (tp, .inr (0, [.ref td, .int (nI k)])), (td, .inl (y 0, 1600, .inl tf)), (ow, .inl (y 1, 33, .inr (.inl ww)))] (QI D [(rd, .inr (5, [.int fa, .int pl, .ref ow, .ref tp, .ref lk, .int (nI ra), .int so, .int (nI rs), .long le, .int wo, .int nu, .int si])), (tp, .inr (0, [.ref td, .int (nI k)])), (td, .inl (y 0, 1600, .inl tf)), (ow, .inl (y 1, 33, .inr (.inl ww)))] (fun (r : Int32) (u : Int32 × Int32 × Nat × Nat × Int32 × Int64 × Int32 × Int32 × Int32) => u.2.2.1 ≤ k ∧ u.2.2.2.1 ≤ u.2.2.1 ∧ (u.1 = 0 → fa = 0) ∧ (r = 0 ∨ (r = 1 ∧ n < 9))) (fun u => [(rd, .inr (5, [.int u.1, .int u.2.1, .ref ow, .ref tp, .ref lk, .int (nI u.2.2.1), .int u.2.2.2.2.1, .int (nI u.2.2.2.1), .long u.2.2.2.2.2.1, .int u.2.2.2.2.2.2.1, .int u.2.2.2.2.2.2.2.1, .int u.2.2.2.2.2.2.2.2])), (tp, .inr (0, [.ref td, .int (nI k)])), (td, .inl (y 0, 1600, .inl tf)), (ow, .inl (y 1, 33, .inr (.inl ww)))])) := by
  refine CT.of (by decide) (nb rfl) ?_
  intro p e s m args below meth c C hr
  refine j_lv (lv' := [(0, .ref rd), (1, .int (nI n)), (2, .int 9)]) rfl ?_
  refine j_iload_n (pc := 0) C d_Reader_readKind_0 rfl 1 rfl ?_
  refine j_if_ltF (pc := 1) C (tgt := 9) d_Reader_readKind_1 (by decide) (show ¬ nI n < nI 0 from nI_nlt (by omega) (by omega)) ?_
  refine j_iload_n (pc := 4) C d_Reader_readKind_4 rfl 1 rfl ?_
  refine j_iload_n (pc := 5) C d_Reader_readKind_5 rfl 2 rfl ?_
  by_cases c1 : n < 9
  · refine j_icmp_ltT (pc := 6) C (tgt := 20) d_Reader_readKind_6 (by decide) (show nI n < nI 9 from nI_lt (by omega) (by omega)) ?_
    refine j_aload_n (pc := 20) C d_Reader_readKind_20 rfl 0 rfl ?_
    refine j_callVv (pc := 21) C (c_r_advance l D y rd ow tp lk td fa pl so le wo nu si ra rs k tf ww ha hs hk) kw_Reader_53 kv_Reader_advance 0 5 rfl rfl ⟨by decide, by decide⟩ ⟨by decide, by decide⟩ (wr := []) [0, 1, 2, 3] [] rfl rfl (by decide) (by decide) (by decide) (As := []) (rest := []) rfl (nb rfl) rfl d_Reader_readKind_21 (fun u2 hu3 => ?_)
    obtain ⟨h5, h6⟩ := hu3
    refine j_ws (ws' := [(rd, .inr (5, [.int fa, .int pl, .ref ow, .ref tp, .ref lk, .int (nI u2.1), .int u2.2.2.1, .int (nI u2.2.1), .long u2.2.2.2.1, .int u2.2.2.2.2.1, .int u2.2.2.2.2.2.1, .int u2.2.2.2.2.2.2])), (tp, .inr (0, [.ref td, .int (nI k)])), (td, .inl (y 0, 1600, .inl tf)), (ow, .inl (y 1, 33, .inr (.inl ww)))]) rfl ?_
    refine j_iconst (pc := 24) C (v := 1) d_Reader_readKind_24 (by decide) ?_
    exact j_iret (pc := 25) C hr (by decide) (fa, pl, u2.1, u2.2.1, u2.2.2.1, u2.2.2.2.1, u2.2.2.2.2.1, u2.2.2.2.2.2.1, u2.2.2.2.2.2.2) ⟨(show u2.1 ≤ k by omega), (show u2.2.1 ≤ u2.1 by omega), id, (Or.inr ⟨rfl, show n < 9 by omega⟩)⟩ [0, 1, 2, 3] rfl (by decide) (by decide) (by decide) d_Reader_readKind_25
  · refine j_icmp_ltF (pc := 6) C (tgt := 20) d_Reader_readKind_6 (by decide) (show ¬ nI n < nI 9 from nI_nlt (by omega) (by omega)) ?_
    refine j_aload_n (pc := 9) C d_Reader_readKind_9 rfl 0 rfl ?_
    refine j_iconst (pc := 10) C (v := 5) d_Reader_readKind_10 (by decide) ?_
    refine j_aload_n (pc := 11) C d_Reader_readKind_11 rfl 0 rfl ?_
    refine j_get (pc := 12) C gf_Reader_62 0 rfl rfl d_Reader_readKind_12 ?_
    refine j_callVv (pc := 15) C (c_r_fail_5 l D y rd ow tp lk td fa pl so le wo nu si ra rs k (nI rs)) kw_Reader_65 kv_Reader_fail 0 5 rfl rfl ⟨by decide, by decide⟩ ⟨by decide, by decide⟩ (wr := [(td, .inl (y 0, 1600, .inl tf)), (ow, .inl (y 1, 33, .inr (.inl ww)))]) [0, 1] [2, 3] rfl rfl (by decide) (by decide) (by decide) (As := [.int 5, .int (nI rs)]) (rest := []) rfl (nb rfl) rfl d_Reader_readKind_15 (fun u7 hu8 => ?_)
    have h12 := hu8
    refine j_ws (ws' := [(td, .inl (y 0, 1600, .inl tf)), (ow, .inl (y 1, 33, .inr (.inl ww))), (rd, .inr (5, [.int u7.1, .int u7.2, .ref ow, .ref tp, .ref lk, .int (nI k), .int 0, .int (nI k), .long le, .int wo, .int nu, .int si])), (tp, .inr (0, [.ref td, .int (nI k)]))]) rfl ?_
    refine j_iconst (pc := 18) C (v := 0) d_Reader_readKind_18 (by decide) ?_
    exact j_iret (pc := 19) C hr (by decide) (u7.1, u7.2, k, k, 0, le, wo, nu, si) ⟨(show k ≤ k by omega), (show k ≤ k by omega), (fun e => absurd e h12), (Or.inl rfl)⟩ [2, 3, 0, 1] rfl (by decide) (by decide) (by decide) d_Reader_readKind_19
set_option maxHeartbeats 4000000 in
set_option maxRecDepth 100000 in
theorem c_r_readKind_6 (l : Launch) (D : va_G) (y : Nat → ClassId) (rd : Nat) (ow : Nat) (tp : Nat) (lk : Nat) (td : Nat) (fa : Int32) (pl : Int32) (so : Int32) (le : Int64) (wo : Int32) (nu : Int32) (si : Int32) (ra : Nat) (rs : Nat) (k : Nat) (tf : Nat → Int32) (ww : Nat → Int64) (n : Nat) (ha : ra ≤ k) (hs : rs ≤ ra) (hk : k ≤ 1600) (hn : n ≤ 6) : CT l D y ⟨"NineBoards$Reader", "readKind", "(II)Z"⟩ prog_8_method_14_code 3 (some .boolean) ({ frames := 2, cells := 0, slots := 0, locals := 44 } : Room) [.ref rd, .int (nI n), .int 6] [(rd, .inr (5, [.int fa, .int pl, .ref ow, .ref tp, .ref lk, .int (nI ra), .int so, .int (nI rs), .long le, .int wo, .int nu, .int si])), (tp, .inr (0, [.ref td, .int (nI k)])), (td, .inl (y 0, 1600, .inl tf)), (ow, .inl (y 1, 33, .inr (.inl ww)))] (QI D [(rd, .inr (5, [.int fa, .int pl, .ref ow, .ref tp, .ref lk, .int (nI ra), .int so, .int (nI rs), .long le, .int wo, .int nu, .int si])), (tp, .inr (0, [.ref td, .int (nI k)])), (td, .inl (y 0, 1600, .inl tf)), (ow, .inl (y 1, 33, .inr (.inl ww)))] (fun (r : Int32) (u : Int32 × Int32 × Nat × Nat × Int32 × Int64 × Int32 × Int32 × Int32) => u.2.2.1 ≤ k ∧ u.2.2.2.1 ≤ u.2.2.1 ∧ (u.1 = 0 → fa = 0) ∧ (r = 0 ∨ (r = 1 ∧ n < 6))) (fun u => [(rd, .inr (5, [.int u.1, .int u.2.1, .ref ow, .ref tp, .ref lk, .int (nI u.2.2.1), .int u.2.2.2.2.1, .int (nI u.2.2.2.1), .long u.2.2.2.2.2.1, .int u.2.2.2.2.2.2.1, .int u.2.2.2.2.2.2.2.1, .int u.2.2.2.2.2.2.2.2])), (tp, .inr (0, [.ref td, .int (nI k)])), (td, .inl (y 0, 1600, .inl tf)), (ow, .inl (y 1, 33, .inr (.inl ww)))])) := by
  refine CT.of (by decide) (nb rfl) ?_
  intro p e s m args below meth c C hr
  refine j_lv (lv' := [(0, .ref rd), (1, .int (nI n)), (2, .int 6)]) rfl ?_
  refine j_iload_n (pc := 0) C d_Reader_readKind_0 rfl 1 rfl ?_
  refine j_if_ltF (pc := 1) C (tgt := 9) d_Reader_readKind_1 (by decide) (show ¬ nI n < nI 0 from nI_nlt (by omega) (by omega)) ?_
  refine j_iload_n (pc := 4) C d_Reader_readKind_4 rfl 1 rfl ?_
  refine j_iload_n (pc := 5) C d_Reader_readKind_5 rfl 2 rfl ?_
  by_cases c1 : n < 6
  · refine j_icmp_ltT (pc := 6) C (tgt := 20) d_Reader_readKind_6 (by decide) (show nI n < nI 6 from nI_lt (by omega) (by omega)) ?_
    refine j_aload_n (pc := 20) C d_Reader_readKind_20 rfl 0 rfl ?_
    refine j_callVv (pc := 21) C (c_r_advance l D y rd ow tp lk td fa pl so le wo nu si ra rs k tf ww ha hs hk) kw_Reader_53 kv_Reader_advance 0 5 rfl rfl ⟨by decide, by decide⟩ ⟨by decide, by decide⟩ (wr := []) [0, 1, 2, 3] [] rfl rfl (by decide) (by decide) (by decide) (As := []) (rest := []) rfl (nb rfl) rfl d_Reader_readKind_21 (fun u2 hu3 => ?_)
    obtain ⟨h5, h6⟩ := hu3
    refine j_ws (ws' := [(rd, .inr (5, [.int fa, .int pl, .ref ow, .ref tp, .ref lk, .int (nI u2.1), .int u2.2.2.1, .int (nI u2.2.1), .long u2.2.2.2.1, .int u2.2.2.2.2.1, .int u2.2.2.2.2.2.1, .int u2.2.2.2.2.2.2])), (tp, .inr (0, [.ref td, .int (nI k)])), (td, .inl (y 0, 1600, .inl tf)), (ow, .inl (y 1, 33, .inr (.inl ww)))]) rfl ?_
    refine j_iconst (pc := 24) C (v := 1) d_Reader_readKind_24 (by decide) ?_
    exact j_iret (pc := 25) C hr (by decide) (fa, pl, u2.1, u2.2.1, u2.2.2.1, u2.2.2.2.1, u2.2.2.2.2.1, u2.2.2.2.2.2.1, u2.2.2.2.2.2.2) ⟨(show u2.1 ≤ k by omega), (show u2.2.1 ≤ u2.1 by omega), id, (Or.inr ⟨rfl, show n < 6 by omega⟩)⟩ [0, 1, 2, 3] rfl (by decide) (by decide) (by decide) d_Reader_readKind_25
  · refine j_icmp_ltF (pc := 6) C (tgt := 20) d_Reader_readKind_6 (by decide) (show ¬ nI n < nI 6 from nI_nlt (by omega) (by omega)) ?_
    refine j_aload_n (pc := 9) C d_Reader_readKind_9 rfl 0 rfl ?_
    refine j_iconst (pc := 10) C (v := 5) d_Reader_readKind_10 (by decide) ?_
    refine j_aload_n (pc := 11) C d_Reader_readKind_11 rfl 0 rfl ?_
    refine j_get (pc := 12) C gf_Reader_62 0 rfl rfl d_Reader_readKind_12 ?_
    refine j_callVv (pc := 15) C (c_r_fail_5 l D y rd ow tp lk td fa pl so le wo nu si ra rs k (nI rs)) kw_Reader_65 kv_Reader_fail 0 5 rfl rfl ⟨by decide, by decide⟩ ⟨by decide, by decide⟩ (wr := [(td, .inl (y 0, 1600, .inl tf)), (ow, .inl (y 1, 33, .inr (.inl ww)))]) [0, 1] [2, 3] rfl rfl (by decide) (by decide) (by decide) (As := [.int 5, .int (nI rs)]) (rest := []) rfl (nb rfl) rfl d_Reader_readKind_15 (fun u7 hu8 => ?_)
    have h12 := hu8
    refine j_ws (ws' := [(td, .inl (y 0, 1600, .inl tf)), (ow, .inl (y 1, 33, .inr (.inl ww))), (rd, .inr (5, [.int u7.1, .int u7.2, .ref ow, .ref tp, .ref lk, .int (nI k), .int 0, .int (nI k), .long le, .int wo, .int nu, .int si])), (tp, .inr (0, [.ref td, .int (nI k)]))]) rfl ?_
    refine j_iconst (pc := 18) C (v := 0) d_Reader_readKind_18 (by decide) ?_
    exact j_iret (pc := 19) C hr (by decide) (u7.1, u7.2, k, k, 0, le, wo, nu, si) ⟨(show k ≤ k by omega), (show k ≤ k by omega), (fun e => absurd e h12), (Or.inl rfl)⟩ [2, 3, 0, 1] rfl (by decide) (by decide) (by decide) d_Reader_readKind_19
set_option maxHeartbeats 4000000 in
set_option maxRecDepth 100000 in
theorem c_r_readKind_16 (l : Launch) (D : va_G) (y : Nat → ClassId) (rd : Nat) (ow : Nat) (tp : Nat) (lk : Nat) (td : Nat) (fa : Int32) (pl : Int32) (so : Int32) (le : Int64) (wo : Int32) (nu : Int32) (si : Int32) (ra : Nat) (rs : Nat) (k : Nat) (tf : Nat → Int32) (ww : Nat → Int64) (n : Nat) (ha : ra ≤ k) (hs : rs ≤ ra) (hk : k ≤ 1600) (hn : n ≤ 16) : CT l D y ⟨"NineBoards$Reader", "readKind", "(II)Z"⟩ prog_8_method_14_code 3 (some .boolean) ({ frames := 2, cells := 0, slots := 0, locals := 44 } : Room) [.ref rd, .int (nI n), .int 16] [(rd, .inr (5, [.int fa, .int pl, .ref ow, .ref tp, .ref lk, .int (nI ra), .int so, .int (nI rs), .long le, .int wo, .int nu, .int si])), (tp, .inr (0, [.ref td, .int (nI k)])), (td, .inl (y 0, 1600, .inl tf)), (ow, .inl (y 1, 33, .inr (.inl ww)))] (QI D [(rd, .inr (5, [.int fa, .int pl, .ref ow, .ref tp, .ref lk, .int (nI ra), .int so, .int (nI rs), .long le, .int wo, .int nu, .int si])), (tp, .inr (0, [.ref td, .int (nI k)])), (td, .inl (y 0, 1600, .inl tf)), (ow, .inl (y 1, 33, .inr (.inl ww)))] (fun (r : Int32) (u : Int32 × Int32 × Nat × Nat × Int32 × Int64 × Int32 × Int32 × Int32) => u.2.2.1 ≤ k ∧ u.2.2.2.1 ≤ u.2.2.1 ∧ (u.1 = 0 → fa = 0) ∧ (r = 0 ∨ (r = 1 ∧ n < 16))) (fun u => [(rd, .inr (5, [.int u.1, .int u.2.1, .ref ow, .ref tp, .ref lk, .int (nI u.2.2.1), .int u.2.2.2.2.1, .int (nI u.2.2.2.1), .long u.2.2.2.2.2.1, .int u.2.2.2.2.2.2.1, .int u.2.2.2.2.2.2.2.1, .int u.2.2.2.2.2.2.2.2])), (tp, .inr (0, [.ref td, .int (nI k)])), (td, .inl (y 0, 1600, .inl tf)), (ow, .inl (y 1, 33, .inr (.inl ww)))])) := by
  refine CT.of (by decide) (nb rfl) ?_
  intro p e s m args below meth c C hr
  refine j_lv (lv' := [(0, .ref rd), (1, .int (nI n)), (2, .int 16)]) rfl ?_
  refine j_iload_n (pc := 0) C d_Reader_readKind_0 rfl 1 rfl ?_
  refine j_if_ltF (pc := 1) C (tgt := 9) d_Reader_readKind_1 (by decide) (show ¬ nI n < nI 0 from nI_nlt (by omega) (by omega)) ?_
  refine j_iload_n (pc := 4) C d_Reader_readKind_4 rfl 1 rfl ?_
  refine j_iload_n (pc := 5) C d_Reader_readKind_5 rfl 2 rfl ?_
  by_cases c1 : n < 16
  · refine j_icmp_ltT (pc := 6) C (tgt := 20) d_Reader_readKind_6 (by decide) (show nI n < nI 16 from nI_lt (by omega) (by omega)) ?_
    refine j_aload_n (pc := 20) C d_Reader_readKind_20 rfl 0 rfl ?_
    refine j_callVv (pc := 21) C (c_r_advance l D y rd ow tp lk td fa pl so le wo nu si ra rs k tf ww ha hs hk) kw_Reader_53 kv_Reader_advance 0 5 rfl rfl ⟨by decide, by decide⟩ ⟨by decide, by decide⟩ (wr := []) [0, 1, 2, 3] [] rfl rfl (by decide) (by decide) (by decide) (As := []) (rest := []) rfl (nb rfl) rfl d_Reader_readKind_21 (fun u2 hu3 => ?_)
    obtain ⟨h5, h6⟩ := hu3
    refine j_ws (ws' := [(rd, .inr (5, [.int fa, .int pl, .ref ow, .ref tp, .ref lk, .int (nI u2.1), .int u2.2.2.1, .int (nI u2.2.1), .long u2.2.2.2.1, .int u2.2.2.2.2.1, .int u2.2.2.2.2.2.1, .int u2.2.2.2.2.2.2])), (tp, .inr (0, [.ref td, .int (nI k)])), (td, .inl (y 0, 1600, .inl tf)), (ow, .inl (y 1, 33, .inr (.inl ww)))]) rfl ?_
    refine j_iconst (pc := 24) C (v := 1) d_Reader_readKind_24 (by decide) ?_
    exact j_iret (pc := 25) C hr (by decide) (fa, pl, u2.1, u2.2.1, u2.2.2.1, u2.2.2.2.1, u2.2.2.2.2.1, u2.2.2.2.2.2.1, u2.2.2.2.2.2.2) ⟨(show u2.1 ≤ k by omega), (show u2.2.1 ≤ u2.1 by omega), id, (Or.inr ⟨rfl, show n < 16 by omega⟩)⟩ [0, 1, 2, 3] rfl (by decide) (by decide) (by decide) d_Reader_readKind_25
  · refine j_icmp_ltF (pc := 6) C (tgt := 20) d_Reader_readKind_6 (by decide) (show ¬ nI n < nI 16 from nI_nlt (by omega) (by omega)) ?_
    refine j_aload_n (pc := 9) C d_Reader_readKind_9 rfl 0 rfl ?_
    refine j_iconst (pc := 10) C (v := 5) d_Reader_readKind_10 (by decide) ?_
    refine j_aload_n (pc := 11) C d_Reader_readKind_11 rfl 0 rfl ?_
    refine j_get (pc := 12) C gf_Reader_62 0 rfl rfl d_Reader_readKind_12 ?_
    refine j_callVv (pc := 15) C (c_r_fail_5 l D y rd ow tp lk td fa pl so le wo nu si ra rs k (nI rs)) kw_Reader_65 kv_Reader_fail 0 5 rfl rfl ⟨by decide, by decide⟩ ⟨by decide, by decide⟩ (wr := [(td, .inl (y 0, 1600, .inl tf)), (ow, .inl (y 1, 33, .inr (.inl ww)))]) [0, 1] [2, 3] rfl rfl (by decide) (by decide) (by decide) (As := [.int 5, .int (nI rs)]) (rest := []) rfl (nb rfl) rfl d_Reader_readKind_15 (fun u7 hu8 => ?_)
    have h12 := hu8
    refine j_ws (ws' := [(td, .inl (y 0, 1600, .inl tf)), (ow, .inl (y 1, 33, .inr (.inl ww))), (rd, .inr (5, [.int u7.1, .int u7.2, .ref ow, .ref tp, .ref lk, .int (nI k), .int 0, .int (nI k), .long le, .int wo, .int nu, .int si])), (tp, .inr (0, [.ref td, .int (nI k)]))]) rfl ?_
    refine j_iconst (pc := 18) C (v := 0) d_Reader_readKind_18 (by decide) ?_
    exact j_iret (pc := 19) C hr (by decide) (u7.1, u7.2, k, k, 0, le, wo, nu, si) ⟨(show k ≤ k by omega), (show k ≤ k by omega), (fun e => absurd e h12), (Or.inl rfl)⟩ [2, 3, 0, 1] rfl (by decide) (by decide) (by decide) d_Reader_readKind_19
set_option maxHeartbeats 4000000 in
set_option maxRecDepth 100000 in
theorem c_r_readKind_8 (l : Launch) (D : va_G) (y : Nat → ClassId) (rd : Nat) (ow : Nat) (tp : Nat) (lk : Nat) (td : Nat) (fa : Int32) (pl : Int32) (so : Int32) (le : Int64) (wo : Int32) (nu : Int32) (si : Int32) (ra : Nat) (rs : Nat) (k : Nat) (tf : Nat → Int32) (ww : Nat → Int64) (n : Nat) (ha : ra ≤ k) (hs : rs ≤ ra) (hk : k ≤ 1600) (hn : n ≤ 8) : CT l D y ⟨"NineBoards$Reader", "readKind", "(II)Z"⟩ prog_8_method_14_code 3 (some .boolean) ({ frames := 2, cells := 0, slots := 0, locals := 44 } : Room) [.ref rd, .int (nI n), .int 8] [(rd, .inr (5, [.int fa, .int pl, .ref ow, .ref tp, .ref lk, .int (nI ra), .int so, .int (nI rs), .long le, .int wo, .int nu, .int si])), (tp, .inr (0, [.ref td, .int (nI k)])), (td, .inl (y 0, 1600, .inl tf)), (ow, .inl (y 1, 33, .inr (.inl ww)))] (QI D [(rd, .inr (5, [.int fa, .int pl, .ref ow, .ref tp, .ref lk, .int (nI ra), .int so, .int (nI rs), .long le, .int wo, .int nu, .int si])), (tp, .inr (0, [.ref td, .int (nI k)])), (td, .inl (y 0, 1600, .inl tf)), (ow, .inl (y 1, 33, .inr (.inl ww)))] (fun (r : Int32) (u : Int32 × Int32 × Nat × Nat × Int32 × Int64 × Int32 × Int32 × Int32) => u.2.2.1 ≤ k ∧ u.2.2.2.1 ≤ u.2.2.1 ∧ (u.1 = 0 → fa = 0) ∧ (r = 0 ∨ (r = 1 ∧ n < 8))) (fun u => [(rd, .inr (5, [.int u.1, .int u.2.1, .ref ow, .ref tp, .ref lk, .int (nI u.2.2.1), .int u.2.2.2.2.1, .int (nI u.2.2.2.1), .long u.2.2.2.2.2.1, .int u.2.2.2.2.2.2.1, .int u.2.2.2.2.2.2.2.1, .int u.2.2.2.2.2.2.2.2])), (tp, .inr (0, [.ref td, .int (nI k)])), (td, .inl (y 0, 1600, .inl tf)), (ow, .inl (y 1, 33, .inr (.inl ww)))])) := by
  refine CT.of (by decide) (nb rfl) ?_
  intro p e s m args below meth c C hr
  refine j_lv (lv' := [(0, .ref rd), (1, .int (nI n)), (2, .int 8)]) rfl ?_
  refine j_iload_n (pc := 0) C d_Reader_readKind_0 rfl 1 rfl ?_
  refine j_if_ltF (pc := 1) C (tgt := 9) d_Reader_readKind_1 (by decide) (show ¬ nI n < nI 0 from nI_nlt (by omega) (by omega)) ?_
  refine j_iload_n (pc := 4) C d_Reader_readKind_4 rfl 1 rfl ?_
  refine j_iload_n (pc := 5) C d_Reader_readKind_5 rfl 2 rfl ?_
  by_cases c1 : n < 8
  · refine j_icmp_ltT (pc := 6) C (tgt := 20) d_Reader_readKind_6 (by decide) (show nI n < nI 8 from nI_lt (by omega) (by omega)) ?_
    refine j_aload_n (pc := 20) C d_Reader_readKind_20 rfl 0 rfl ?_
    refine j_callVv (pc := 21) C (c_r_advance l D y rd ow tp lk td fa pl so le wo nu si ra rs k tf ww ha hs hk) kw_Reader_53 kv_Reader_advance 0 5 rfl rfl ⟨by decide, by decide⟩ ⟨by decide, by decide⟩ (wr := []) [0, 1, 2, 3] [] rfl rfl (by decide) (by decide) (by decide) (As := []) (rest := []) rfl (nb rfl) rfl d_Reader_readKind_21 (fun u2 hu3 => ?_)
    obtain ⟨h5, h6⟩ := hu3
    refine j_ws (ws' := [(rd, .inr (5, [.int fa, .int pl, .ref ow, .ref tp, .ref lk, .int (nI u2.1), .int u2.2.2.1, .int (nI u2.2.1), .long u2.2.2.2.1, .int u2.2.2.2.2.1, .int u2.2.2.2.2.2.1, .int u2.2.2.2.2.2.2])), (tp, .inr (0, [.ref td, .int (nI k)])), (td, .inl (y 0, 1600, .inl tf)), (ow, .inl (y 1, 33, .inr (.inl ww)))]) rfl ?_
    refine j_iconst (pc := 24) C (v := 1) d_Reader_readKind_24 (by decide) ?_
    exact j_iret (pc := 25) C hr (by decide) (fa, pl, u2.1, u2.2.1, u2.2.2.1, u2.2.2.2.1, u2.2.2.2.2.1, u2.2.2.2.2.2.1, u2.2.2.2.2.2.2) ⟨(show u2.1 ≤ k by omega), (show u2.2.1 ≤ u2.1 by omega), id, (Or.inr ⟨rfl, show n < 8 by omega⟩)⟩ [0, 1, 2, 3] rfl (by decide) (by decide) (by decide) d_Reader_readKind_25
  · refine j_icmp_ltF (pc := 6) C (tgt := 20) d_Reader_readKind_6 (by decide) (show ¬ nI n < nI 8 from nI_nlt (by omega) (by omega)) ?_
    refine j_aload_n (pc := 9) C d_Reader_readKind_9 rfl 0 rfl ?_
    refine j_iconst (pc := 10) C (v := 5) d_Reader_readKind_10 (by decide) ?_
    refine j_aload_n (pc := 11) C d_Reader_readKind_11 rfl 0 rfl ?_
    refine j_get (pc := 12) C gf_Reader_62 0 rfl rfl d_Reader_readKind_12 ?_
    refine j_callVv (pc := 15) C (c_r_fail_5 l D y rd ow tp lk td fa pl so le wo nu si ra rs k (nI rs)) kw_Reader_65 kv_Reader_fail 0 5 rfl rfl ⟨by decide, by decide⟩ ⟨by decide, by decide⟩ (wr := [(td, .inl (y 0, 1600, .inl tf)), (ow, .inl (y 1, 33, .inr (.inl ww)))]) [0, 1] [2, 3] rfl rfl (by decide) (by decide) (by decide) (As := [.int 5, .int (nI rs)]) (rest := []) rfl (nb rfl) rfl d_Reader_readKind_15 (fun u7 hu8 => ?_)
    have h12 := hu8
    refine j_ws (ws' := [(td, .inl (y 0, 1600, .inl tf)), (ow, .inl (y 1, 33, .inr (.inl ww))), (rd, .inr (5, [.int u7.1, .int u7.2, .ref ow, .ref tp, .ref lk, .int (nI k), .int 0, .int (nI k), .long le, .int wo, .int nu, .int si])), (tp, .inr (0, [.ref td, .int (nI k)]))]) rfl ?_
    refine j_iconst (pc := 18) C (v := 0) d_Reader_readKind_18 (by decide) ?_
    exact j_iret (pc := 19) C hr (by decide) (u7.1, u7.2, k, k, 0, le, wo, nu, si) ⟨(show k ≤ k by omega), (show k ≤ k by omega), (fun e => absurd e h12), (Or.inl rfl)⟩ [2, 3, 0, 1] rfl (by decide) (by decide) (by decide) d_Reader_readKind_19
theorem d_Reader_readName_0 : decode prog_8_method_28_code 0 = .ok (.aload_n 0, 1) := by decide +kernel
theorem d_Reader_readName_1 : decode prog_8_method_28_code 1 = .ok (.getfield 50, 3) := by decide +kernel
theorem d_Reader_readName_4 : decode prog_8_method_28_code 4 = .ok (.iconst 1, 1) := by decide +kernel
theorem d_Reader_readName_5 : decode prog_8_method_28_code 5 = .ok (.if_icmp .ne 11, 3) := by decide +kernel
theorem d_Reader_readName_16 : decode prog_8_method_28_code 16 = .ok (.aload_n 0, 1) := by decide +kernel
theorem d_Reader_readName_17 : decode prog_8_method_28_code 17 = .ok (.iconst 1, 1) := by decide +kernel
theorem d_Reader_readName_18 : decode prog_8_method_28_code 18 = .ok (.aload_n 0, 1) := by decide +kernel
theorem d_Reader_readName_19 : decode prog_8_method_28_code 19 = .ok (.getfield 62, 3) := by decide +kernel
theorem d_Reader_readName_22 : decode prog_8_method_28_code 22 = .ok (.invokevirtual 65, 3) := by decide +kernel
theorem d_Reader_readName_25 : decode prog_8_method_28_code 25 = .ok (.iconst (-1), 1) := by decide +kernel
theorem d_Reader_readName_26 : decode prog_8_method_28_code 26 = .ok (.ireturn, 1) := by decide +kernel
theorem d_Reader_readName_8 : decode prog_8_method_28_code 8 = .ok (.aload_n 0, 1) := by decide +kernel
theorem d_Reader_readName_9 : decode prog_8_method_28_code 9 = .ok (.getfield 80, 3) := by decide +kernel
theorem d_Reader_readName_12 : decode prog_8_method_28_code 12 = .ok (.iconst (-1), 1) := by decide +kernel
theorem d_Reader_readName_13 : decode prog_8_method_28_code 13 = .ok (.if_icmp .eq 14, 3) := by decide +kernel
theorem d_Reader_readName_27 : decode prog_8_method_28_code 27 = .ok (.aload_n 0, 1) := by decide +kernel
theorem d_Reader_readName_28 : decode prog_8_method_28_code 28 = .ok (.getfield 47, 3) := by decide +kernel
theorem d_Reader_readName_31 : decode prog_8_method_28_code 31 = .ok (.aload_n 0, 1) := by decide +kernel
theorem d_Reader_readName_32 : decode prog_8_method_28_code 32 = .ok (.getfield 62, 3) := by decide +kernel
theorem d_Reader_readName_35 : decode prog_8_method_28_code 35 = .ok (.isub, 1) := by decide +kernel
theorem d_Reader_readName_36 : decode prog_8_method_28_code 36 = .ok (.bipush 6, 2) := by decide +kernel
theorem d_Reader_readName_38 : decode prog_8_method_28_code 38 = .ok (.if_icmp .le 17, 3) := by decide +kernel
theorem d_Reader_readName_55 : decode prog_8_method_28_code 55 = .ok (.aload_n 0, 1) := by decide +kernel
theorem d_Reader_readName_56 : decode prog_8_method_28_code 56 = .ok (.getfield 278, 3) := by decide +kernel
theorem d_Reader_readName_59 : decode prog_8_method_28_code 59 = .ok (.l2i, 1) := by decide +kernel
theorem d_Reader_readName_60 : decode prog_8_method_28_code 60 = .ok (.istore_n 1, 1) := by decide +kernel
theorem d_Reader_readName_61 : decode prog_8_method_28_code 61 = .ok (.aload_n 0, 1) := by decide +kernel
theorem d_Reader_readName_62 : decode prog_8_method_28_code 62 = .ok (.invokevirtual 53, 3) := by decide +kernel
theorem d_Reader_readName_65 : decode prog_8_method_28_code 65 = .ok (.iload_n 1, 1) := by decide +kernel
theorem d_Reader_readName_66 : decode prog_8_method_28_code 66 = .ok (.ireturn, 1) := by decide +kernel
theorem d_Reader_readName_41 : decode prog_8_method_28_code 41 = .ok (.aload_n 0, 1) := by decide +kernel
theorem d_Reader_readName_42 : decode prog_8_method_28_code 42 = .ok (.iconst 1, 1) := by decide +kernel
theorem d_Reader_readName_43 : decode prog_8_method_28_code 43 = .ok (.aload_n 0, 1) := by decide +kernel
theorem d_Reader_readName_44 : decode prog_8_method_28_code 44 = .ok (.getfield 62, 3) := by decide +kernel
theorem d_Reader_readName_47 : decode prog_8_method_28_code 47 = .ok (.bipush 6, 2) := by decide +kernel
theorem d_Reader_readName_49 : decode prog_8_method_28_code 49 = .ok (.iadd, 1) := by decide +kernel
theorem d_Reader_readName_50 : decode prog_8_method_28_code 50 = .ok (.invokevirtual 65, 3) := by decide +kernel
theorem d_Reader_readName_53 : decode prog_8_method_28_code 53 = .ok (.iconst (-1), 1) := by decide +kernel
theorem d_Reader_readName_54 : decode prog_8_method_28_code 54 = .ok (.ireturn, 1) := by decide +kernel
set_option maxHeartbeats 4000000 in
set_option maxRecDepth 100000 in
theorem c_r_readName (l : Launch) (D : va_G) (y : Nat → ClassId) (rd : Nat) (ow : Nat) (tp : Nat) (lk : Nat) (td : Nat) (fa : Int32) (pl : Int32) (so : Int32) (le : Int64) (wo : Int32) (nu : Int32) (si : Int32) (ra : Nat) (rs : Nat) (k : Nat) (tf : Nat → Int32) (ww : Nat → Int64) (ha : ra ≤ k) (hs : rs ≤ ra) (hk : k ≤ 1600) : CT l D y ⟨"NineBoards$Reader", "readName", "()I"⟩ prog_8_method_28_code 2 (some .int) ({ frames := 2, cells := 0, slots := 0, locals := 44 } : Room) [.ref rd] [(rd, .inr (5, [.int fa, .int pl, .ref ow, .ref tp, .ref lk, .int (nI ra), .int so, .int (nI rs), .long le, .int wo, .int nu, .int si])), (tp, .inr (0, [.ref td, .int (nI k)])), (td, .inl (y 0, 1600, .inl tf)), (ow, .inl (y 1, 33, .inr (.inl ww)))] (QI D [(rd, .inr (5, [.int fa, .int pl, .ref ow, .ref tp, .ref lk, .int (nI ra), .int so, .int (nI rs), .long le, .int wo, .int nu, .int si])), (tp, .inr (0, [.ref td, .int (nI k)])), (td, .inl (y 0, 1600, .inl tf)), (ow, .inl (y 1, 33, .inr (.inl ww)))] (fun (r : Int32) (u : Int32 × Int32 × Nat × Nat × Int32 × Int64 × Int32 × Int32 × Int32) => u.2.2.1 ≤ k ∧ u.2.2.2.1 ≤ u.2.2.1 ∧ (u.1 = 0 → fa = 0)) (fun u => [(rd, .inr (5, [.int u.1, .int u.2.1, .ref ow, .ref tp, .ref lk, .int (nI u.2.2.1), .int u.2.2.2.2.1, .int (nI u.2.2.2.1), .long u.2.2.2.2.2.1, .int u.2.2.2.2.2.2.1, .int u.2.2.2.2.2.2.2.1, .int u.2.2.2.2.2.2.2.2])), (tp, .inr (0, [.ref td, .int (nI k)])), (td, .inl (y 0, 1600, .inl tf)), (ow, .inl (y 1, 33, .inr (.inl ww)))])) := by
  refine CT.of (by decide) (nb rfl) ?_
  intro p e s m args below meth c C hr
  refine j_lv (lv' := [(0, .ref rd)]) rfl ?_
  refine j_aload_n (pc := 0) C d_Reader_readName_0 rfl 0 rfl ?_
  refine j_get (pc := 1) C gf_Reader_50 0 rfl rfl d_Reader_readName_1 ?_
  refine j_iconst (pc := 4) C (v := 1) d_Reader_readName_4 (by decide) ?_
  refine j_icmp_ne (pc := 5) C (tgt := 16) d_Reader_readName_5 (by decide) (fun c1 => ?_) (fun c1 => ?_)
  · refine j_aload_n (pc := 16) C d_Reader_readName_16 rfl 0 rfl ?_
    refine j_iconst (pc := 17) C (v := 1) d_Reader_readName_17 (by decide) ?_
    refine j_aload_n (pc := 18) C d_Reader_readName_18 rfl 0 rfl ?_
    refine j_get (pc := 19) C gf_Reader_62 0 rfl rfl d_Reader_readName_19 ?_
    refine j_callVv (pc := 22) C (c_r_fail_1 l D y rd ow tp lk td fa pl so le wo nu si ra rs k (nI rs)) kw_Reader_65 kv_Reader_fail 0 5 rfl rfl ⟨by decide, by decide⟩ ⟨by decide, by decide⟩ (wr := [(td, .inl (y 0, 1600, .inl tf)), (ow, .inl (y 1, 33, .inr (.inl ww)))]) [0, 1] [2, 3] rfl rfl (by decide) (by decide) (by decide) (As := [.int 1, .int (nI rs)]) (rest := []) rfl (nb rfl) rfl d_Reader_readName_22 (fun u2 hu3 => ?_)
    have h5 := hu3
    refine j_ws (ws' := [(td, .inl (y 0, 1600, .inl tf)), (ow, .inl (y 1, 33, .inr (.inl ww))), (rd, .inr (5, [.int u2.1, .int u2.2, .ref ow, .ref tp, .ref lk, .int (nI k), .int 0, .int (nI k), .long le, .int wo, .int nu, .int si])), (tp, .inr (0, [.ref td, .int (nI k)]))]) rfl ?_
    refine j_iconst (pc := 25) C (v := (-1)) d_Reader_readName_25 (by decide) ?_
    exact j_iret (pc := 26) C hr rfl (u2.1, u2.2, k, k, 0, le, wo, nu, si) ⟨(show k ≤ k by omega), (show k ≤ k by omega), (fun e => absurd e h5)⟩ [2, 3, 0, 1] rfl (by decide) (by decide) (by decide) d_Reader_readName_26
  · refine j_aload_n (pc := 8) C d_Reader_readName_8 rfl 0 rfl ?_
    refine j_get (pc := 9) C gf_Reader_80 0 rfl rfl d_Reader_readName_9 ?_
    refine j_iconst (pc := 12) C (v := (-1)) d_Reader_readName_12 (by decide) ?_
    refine j_icmp_eq (pc := 13) C (tgt := 27) d_Reader_readName_13 (by decide) (fun c6 => ?_) (fun c6 => ?_)
    · refine j_aload_n (pc := 27) C d_Reader_readName_27 rfl 0 rfl ?_
      refine j_get (pc := 28) C gf_Reader_47 0 rfl rfl d_Reader_readName_28 ?_
      refine j_aload_n (pc := 31) C d_Reader_readName_31 rfl 0 rfl ?_
      refine j_get (pc := 32) C gf_Reader_62 0 rfl rfl d_Reader_readName_32 ?_
      refine j_isub (pc := 35) C (v := nI (ra - rs)) d_Reader_readName_35 (pk_sub (by omega)) ?_
      refine j_bipush (pc := 36) C (v := 6) d_Reader_readName_36 (by decide) ?_
      by_cases c7 : (ra - rs) ≤ 6
      · refine j_icmp_leT (pc := 38) C (tgt := 55) d_Reader_readName_38 (by decide) (show nI (ra - rs) ≤ nI 6 from nI_le (by omega) (by omega)) ?_
        refine j_aload_n (pc := 55) C d_Reader_readName_55 rfl 0 rfl ?_
        refine j_get (pc := 56) C gf_Reader_278 0 rfl rfl d_Reader_readName_56 ?_
        refine j_l2i (pc := 59) C (v := le.toInt32) d_Reader_readName_59 rfl ?_
        refine j_istore_n (pc := 60) C (lv' := [(1, .int le.toInt32), (0, .ref rd)]) d_Reader_readName_60 rfl (by decide) rfl ?_
        refine j_aload_n (pc := 61) C d_Reader_readName_61 rfl 1 rfl ?_
        refine j_callVv (pc := 62) C (c_r_advance l D y rd ow tp lk td fa pl so le wo nu si ra rs k tf ww ha hs hk) kw_Reader_53 kv_Reader_advance 0 5 rfl rfl ⟨by decide, by decide⟩ ⟨by decide, by decide⟩ (wr := []) [0, 1, 2, 3] [] rfl rfl (by decide) (by decide) (by decide) (As := []) (rest := []) rfl (nb rfl) rfl d_Reader_readName_62 (fun u8 hu9 => ?_)
        obtain ⟨h12, h13⟩ := hu9
        refine j_ws (ws' := [(rd, .inr (5, [.int fa, .int pl, .ref ow, .ref tp, .ref lk, .int (nI u8.1), .int u8.2.2.1, .int (nI u8.2.1), .long u8.2.2.2.1, .int u8.2.2.2.2.1, .int u8.2.2.2.2.2.1, .int u8.2.2.2.2.2.2])), (tp, .inr (0, [.ref td, .int (nI k)])), (td, .inl (y 0, 1600, .inl tf)), (ow, .inl (y 1, 33, .inr (.inl ww)))]) rfl ?_
        refine j_iload_n (pc := 65) C d_Reader_readName_65 rfl 0 rfl ?_
        exact j_iret (pc := 66) C hr rfl (fa, pl, u8.1, u8.2.1, u8.2.2.1, u8.2.2.2.1, u8.2.2.2.2.1, u8.2.2.2.2.2.1, u8.2.2.2.2.2.2) ⟨(show u8.1 ≤ k by omega), (show u8.2.1 ≤ u8.1 by omega), id⟩ [0, 1, 2, 3] rfl (by decide) (by decide) (by decide) d_Reader_readName_66
      · refine j_icmp_leF (pc := 38) C (tgt := 55) d_Reader_readName_38 (by decide) (show ¬ nI (ra - rs) ≤ nI 6 from nI_ge (by omega) (by omega)) ?_
        refine j_aload_n (pc := 41) C d_Reader_readName_41 rfl 0 rfl ?_
        refine j_iconst (pc := 42) C (v := 1) d_Reader_readName_42 (by decide) ?_
        refine j_aload_n (pc := 43) C d_Reader_readName_43 rfl 0 rfl ?_
        refine j_get (pc := 44) C gf_Reader_62 0 rfl rfl d_Reader_readName_44 ?_
        refine j_bipush (pc := 47) C (v := 6) d_Reader_readName_47 (by decide) ?_
        refine j_iadd (pc := 49) C (v := nI (rs + 6)) d_Reader_readName_49 (nI_add _ _) ?_
        refine j_callVv (pc := 50) C (c_r_fail_1 l D y rd ow tp lk td fa pl so le wo nu si ra rs k (nI (rs + 6))) kw_Reader_65 kv_Reader_fail 0 5 rfl rfl ⟨by decide, by decide⟩ ⟨by decide, by decide⟩ (wr := [(td, .inl (y 0, 1600, .inl tf)), (ow, .inl (y 1, 33, .inr (.inl ww)))]) [0, 1] [2, 3] rfl rfl (by decide) (by decide) (by decide) (As := [.int 1, .int (nI (rs + 6))]) (rest := []) rfl (nb rfl) rfl d_Reader_readName_50 (fun u14 hu15 => ?_)
        have h16 := hu15
        refine j_ws (ws' := [(td, .inl (y 0, 1600, .inl tf)), (ow, .inl (y 1, 33, .inr (.inl ww))), (rd, .inr (5, [.int u14.1, .int u14.2, .ref ow, .ref tp, .ref lk, .int (nI k), .int 0, .int (nI k), .long le, .int wo, .int nu, .int si])), (tp, .inr (0, [.ref td, .int (nI k)]))]) rfl ?_
        refine j_iconst (pc := 53) C (v := (-1)) d_Reader_readName_53 (by decide) ?_
        exact j_iret (pc := 54) C hr rfl (u14.1, u14.2, k, k, 0, le, wo, nu, si) ⟨(show k ≤ k by omega), (show k ≤ k by omega), (fun e => absurd e h16)⟩ [2, 3, 0, 1] rfl (by decide) (by decide) (by decide) d_Reader_readName_54
    · refine j_aload_n (pc := 16) C d_Reader_readName_16 rfl 0 rfl ?_
      refine j_iconst (pc := 17) C (v := 1) d_Reader_readName_17 (by decide) ?_
      refine j_aload_n (pc := 18) C d_Reader_readName_18 rfl 0 rfl ?_
      refine j_get (pc := 19) C gf_Reader_62 0 rfl rfl d_Reader_readName_19 ?_
      refine j_callVv (pc := 22) C (c_r_fail_1 l D y rd ow tp lk td fa pl so le wo nu si ra rs k (nI rs)) kw_Reader_65 kv_Reader_fail 0 5 rfl rfl ⟨by decide, by decide⟩ ⟨by decide, by decide⟩ (wr := [(td, .inl (y 0, 1600, .inl tf)), (ow, .inl (y 1, 33, .inr (.inl ww)))]) [0, 1] [2, 3] rfl rfl (by decide) (by decide) (by decide) (As := [.int 1, .int (nI rs)]) (rest := []) rfl (nb rfl) rfl d_Reader_readName_22 (fun u17 hu18 => ?_)
      have h19 := hu18
      refine j_ws (ws' := [(td, .inl (y 0, 1600, .inl tf)), (ow, .inl (y 1, 33, .inr (.inl ww))), (rd, .inr (5, [.int u17.1, .int u17.2, .ref ow, .ref tp, .ref lk, .int (nI k), .int 0, .int (nI k), .long le, .int wo, .int nu, .int si])), (tp, .inr (0, [.ref td, .int (nI k)]))]) rfl ?_
      refine j_iconst (pc := 25) C (v := (-1)) d_Reader_readName_25 (by decide) ?_
      exact j_iret (pc := 26) C hr rfl (u17.1, u17.2, k, k, 0, le, wo, nu, si) ⟨(show k ≤ k by omega), (show k ≤ k by omega), (fun e => absurd e h19)⟩ [2, 3, 0, 1] rfl (by decide) (by decide) (by decide) d_Reader_readName_26
theorem d_Reader_readNewName_0 : decode prog_8_method_29_code 0 = .ok (.aload_n 0, 1) := by decide +kernel
theorem d_Reader_readNewName_1 : decode prog_8_method_29_code 1 = .ok (.getfield 62, 3) := by decide +kernel
theorem d_Reader_readNewName_4 : decode prog_8_method_29_code 4 = .ok (.istore_n 1, 1) := by decide +kernel
theorem d_Reader_readNewName_5 : decode prog_8_method_29_code 5 = .ok (.aload_n 0, 1) := by decide +kernel
theorem d_Reader_readNewName_6 : decode prog_8_method_29_code 6 = .ok (.invokevirtual 188, 3) := by decide +kernel
theorem kw_Reader_188 : KW "NineBoards$Reader" 188 ⟨"NineBoards$Reader", "readName", "()I"⟩ prog_8_method_28_code 2 (some .int) 0 := ⟨(mt_3 (List.mem_of_getElem? (i := 157) rfl) rfl), (mt_1 (List.mem_of_getElem? (i := 10) rfl) rfl), (mt_3 (List.mem_of_getElem? (i := 160) rfl) rfl), by decide +kernel⟩
theorem kv_Reader_readName : Cond.instanceMethod ⟨"NineBoards$Reader", "readName", "()I"⟩ ∈ TB ∧ Cond.selects "NineBoards$Reader" ⟨"NineBoards$Reader", "readName", "()I"⟩ ⟨"NineBoards$Reader", "readName", "()I"⟩ ∈ TB := ⟨(mt_3 (List.mem_of_getElem? (i := 159) rfl) rfl), (ms_0 (List.mem_map.mpr ⟨(⟨"NineBoards$Reader", "readName", "()I"⟩, 12), List.mem_of_getElem? (i := 24) (by decide +kernel), rfl⟩) rfl)⟩
theorem d_Reader_readNewName_9 : decode prog_8_method_29_code 9 = .ok (.istore_n 2, 1) := by decide +kernel
theorem d_Reader_readNewName_10 : decode prog_8_method_29_code 10 = .ok (.aload_n 0, 1) := by decide +kernel
theorem d_Reader_readNewName_11 : decode prog_8_method_29_code 11 = .ok (.getfield 23, 3) := by decide +kernel
theorem gf_Reader_23 : GF "NineBoards$Reader" 23 5 4 := ⟨_, _, _, rfl, ci_Reader, by decide, (mt_2 (List.mem_of_getElem? (i := 168) rfl) rfl)⟩
theorem d_Reader_readNewName_14 : decode prog_8_method_29_code 14 = .ok (.getfield 124, 3) := by decide +kernel
theorem gf_Reader_124 : GF "NineBoards$Reader" 124 2 4 := ⟨_, _, _, rfl, ci_Lake, by decide, (mt_2 (List.mem_of_getElem? (i := 45) rfl) rfl)⟩
theorem d_Reader_readNewName_17 : decode prog_8_method_29_code 17 = .ok (.iload_n 2, 1) := by decide +kernel
theorem d_Reader_readNewName_18 : decode prog_8_method_29_code 18 = .ok (.invokevirtual 282, 3) := by decide +kernel
theorem kw_Reader_282 : KW "NineBoards$Reader" 282 ⟨"NineBoards$Gates", "named", "(I)I"⟩ prog_4_method_2_code 3 (some .int) 1 := ⟨(mt_3 (List.mem_of_getElem? (i := 161) rfl) rfl), (mt_1 (List.mem_of_getElem? (i := 7) rfl) rfl), (mt_3 (List.mem_of_getElem? (i := 164) rfl) rfl), by decide +kernel⟩
theorem kv_Gates_named : Cond.instanceMethod ⟨"NineBoards$Gates", "named", "(I)I"⟩ ∈ TB ∧ Cond.selects "NineBoards$Gates" ⟨"NineBoards$Gates", "named", "(I)I"⟩ ⟨"NineBoards$Gates", "named", "(I)I"⟩ ∈ TB := ⟨(mt_3 (List.mem_of_getElem? (i := 162) rfl) rfl), (mt_3 (List.mem_of_getElem? (i := 163) rfl) rfl)⟩
theorem d_Reader_readNewName_21 : decode prog_8_method_29_code 21 = .ok (.iconst (-1), 1) := by decide +kernel
theorem d_Reader_readNewName_22 : decode prog_8_method_29_code 22 = .ok (.if_icmp .ne 15, 3) := by decide +kernel
theorem d_Reader_readNewName_25 : decode prog_8_method_29_code 25 = .ok (.aload_n 0, 1) := by decide +kernel
theorem d_Reader_readNewName_26 : decode prog_8_method_29_code 26 = .ok (.getfield 23, 3) := by decide +kernel
theorem d_Reader_readNewName_29 : decode prog_8_method_29_code 29 = .ok (.iload_n 2, 1) := by decide +kernel
theorem d_Reader_readNewName_30 : decode prog_8_method_29_code 30 = .ok (.invokevirtual 191, 3) := by decide +kernel
theorem kw_Reader_191 : KW "NineBoards$Reader" 191 ⟨"NineBoards$Lake", "villageNamed", "(I)I"⟩ prog_5_method_6_code 3 (some .int) 1 := ⟨(mt_3 (List.mem_of_getElem? (i := 165) rfl) rfl), (mt_1 (List.mem_of_getElem? (i := 6) rfl) rfl), (mt_3 (List.mem_of_getElem? (i := 168) rfl) rfl), by decide +kernel⟩
theorem kv_Lake_villageNamed : Cond.instanceMethod ⟨"NineBoards$Lake", "villageNamed", "(I)I"⟩ ∈ TB ∧ Cond.selects "NineBoards$Lake" ⟨"NineBoards$Lake", "villageNamed", "(I)I"⟩ ⟨"NineBoards$Lake", "villageNamed", "(I)I"⟩ ∈ TB := ⟨(mt_3 (List.mem_of_getElem? (i := 166) rfl) rfl), (mt_3 (List.mem_of_getElem? (i := 167) rfl) rfl)⟩
theorem d_Reader_readNewName_33 : decode prog_8_method_29_code 33 = .ok (.iconst (-1), 1) := by decide +kernel
theorem d_Reader_readNewName_34 : decode prog_8_method_29_code 34 = .ok (.if_icmp .eq 9, 3) := by decide +kernel
theorem d_Reader_readNewName_43 : decode prog_8_method_29_code 43 = .ok (.iload_n 2, 1) := by decide +kernel
theorem d_Reader_readNewName_44 : decode prog_8_method_29_code 44 = .ok (.ireturn, 1) := by decide +kernel
theorem d_Reader_readNewName_37 : decode prog_8_method_29_code 37 = .ok (.aload_n 0, 1) := by decide +kernel
theorem d_Reader_readNewName_38 : decode prog_8_method_29_code 38 = .ok (.iconst 3, 1) := by decide +kernel
theorem d_Reader_readNewName_39 : decode prog_8_method_29_code 39 = .ok (.iload_n 1, 1) := by decide +kernel
theorem d_Reader_readNewName_40 : decode prog_8_method_29_code 40 = .ok (.invokevirtual 65, 3) := by decide +kernel
set_option maxHeartbeats 4000000 in
set_option maxRecDepth 100000 in
theorem c_r_readNewName (l : Launch) (D : va_G) (y : Nat → ClassId) (rd : Nat) (ow : Nat) (tp : Nat) (td : Nat) (fa : Int32) (pl : Int32) (so : Int32) (le : Int64) (wo : Int32) (nu : Int32) (si : Int32) (ra : Nat) (rs : Nat) (k : Nat) (tf : Nat → Int32) (ww : Nat → Int64) (ad : Nat → Nat) (d : LD) (n4 : Nat) (n9 : Nat) (ha : ra ≤ k) (hs : rs ≤ ra) (hk : k ≤ 1600) (h4 : d.1 4 = nI n4) (b4 : n4 ≤ 6) (h9 : d.1 9 = nI n9) (b9 : n9 ≤ 9) : CT l D y ⟨"NineBoards$Reader", "readNewName", "()I"⟩ prog_8_method_29_code 3 (some .int) ({ frames := 3, cells := 0, slots := 0, locals := 65 } : Room) [.ref rd] [(rd, .inr (5, [.int fa, .int pl, .ref ow, .ref tp, .ref (ad 0), .int (nI ra), .int so, .int (nI rs), .long le, .int wo, .int nu, .int si])), (tp, .inr (0, [.ref td, .int (nI k)])), (td, .inl (y 0, 1600, .inl tf)), (ow, .inl (y 1, 33, .inr (.inl ww))), (ad 0, .inr (2, [.int (d.1 0), .int (d.1 1), .int (d.1 2), .int (d.1 3), .ref (ad 1), .int (d.1 4), .ref (ad 11), .ref (ad 12), .ref (ad 2), .ref (ad 3), .int (d.1 5), .int (d.1 6), .int (d.1 7), .int (d.1 8)])), (ad 1, .inr (1, [.int (d.1 9), .ref (ad 4), .ref (ad 5), .ref (ad 6), .ref (ad 7), .ref (ad 8), .ref (ad 9), .ref (ad 10)])), (ad 4, .inl (y 0, 9, .inl (d.2 0))), (ad 11, .inl (y 0, 6, .inl (d.2 7)))] (QI D [(rd, .inr (5, [.int fa, .int pl, .ref ow, .ref tp, .ref (ad 0), .int (nI ra), .int so, .int (nI rs), .long le, .int wo, .int nu, .int si])), (tp, .inr (0, [.ref td, .int (nI k)])), (td, .inl (y 0, 1600, .inl tf)), (ow, .inl (y 1, 33, .inr (.inl ww))), (ad 0, .inr (2, [.int (d.1 0), .int (d.1 1), .int (d.1 2), .int (d.1 3), .ref (ad 1), .int (d.1 4), .ref (ad 11), .ref (ad 12), .ref (ad 2), .ref (ad 3), .int (d.1 5), .int (d.1 6), .int (d.1 7), .int (d.1 8)])), (ad 1, .inr (1, [.int (d.1 9), .ref (ad 4), .ref (ad 5), .ref (ad 6), .ref (ad 7), .ref (ad 8), .ref (ad 9), .ref (ad 10)])), (ad 4, .inl (y 0, 9, .inl (d.2 0))), (ad 11, .inl (y 0, 6, .inl (d.2 7)))] (fun (r : Int32) (u : Int32 × Int32 × Nat × Nat × Int32 × Int64 × Int32 × Int32 × Int32) => u.2.2.1 ≤ k ∧ u.2.2.2.1 ≤ u.2.2.1 ∧ (u.1 = 0 → fa = 0)) (fun u => [(rd, .inr (5, [.int u.1, .int u.2.1, .ref ow, .ref tp, .ref (ad 0), .int (nI u.2.2.1), .int u.2.2.2.2.1, .int (nI u.2.2.2.1), .long u.2.2.2.2.2.1, .int u.2.2.2.2.2.2.1, .int u.2.2.2.2.2.2.2.1, .int u.2.2.2.2.2.2.2.2])), (tp, .inr (0, [.ref td, .int (nI k)])), (td, .inl (y 0, 1600, .inl tf)), (ow, .inl (y 1, 33, .inr (.inl ww))), (ad 0, .inr (2, [.int (d.1 0), .int (d.1 1), .int (d.1 2), .int (d.1 3), .ref (ad 1), .int (d.1 4), .ref (ad 11), .ref (ad 12), .ref (ad 2), .ref (ad 3), .int (d.1 5), .int (d.1 6), .int (d.1 7), .int (d.1 8)])), (ad 1, .inr (1, [.int (d.1 9), .ref (ad 4), .ref (ad 5), .ref (ad 6), .ref (ad 7), .ref (ad 8), .ref (ad 9), .ref (ad 10)])), (ad 4, .inl (y 0, 9, .inl (d.2 0))), (ad 11, .inl (y 0, 6, .inl (d.2 7)))])) := by
  refine CT.of (by decide) (nb rfl) ?_
  intro p e s m args below meth c C hr
  refine j_lv (lv' := [(0, .ref rd)]) rfl ?_
  refine j_aload_n (pc := 0) C d_Reader_readNewName_0 rfl 0 rfl ?_
  refine j_get (pc := 1) C gf_Reader_62 0 rfl rfl d_Reader_readNewName_1 ?_
  refine j_istore_n (pc := 4) C (lv' := [(1, .int (nI rs)), (0, .ref rd)]) d_Reader_readNewName_4 rfl (by decide) rfl ?_
  refine j_aload_n (pc := 5) C d_Reader_readNewName_5 rfl 1 rfl ?_
  refine j_callVi (pc := 6) C (c_r_readName l D y rd ow tp (ad 0) td fa pl so le wo nu si ra rs k tf ww ha hs hk) kw_Reader_188 kv_Reader_readName 0 5 rfl rfl ⟨by decide, by decide⟩ ⟨by decide, by decide⟩ (wr := [(ad 0, .inr (2, [.int (d.1 0), .int (d.1 1), .int (d.1 2), .int (d.1 3), .ref (ad 1), .int (d.1 4), .ref (ad 11), .ref (ad 12), .ref (ad 2), .ref (ad 3), .int (d.1 5), .int (d.1 6), .int (d.1 7), .int (d.1 8)])), (ad 1, .inr (1, [.int (d.1 9), .ref (ad 4), .ref (ad 5), .ref (ad 6), .ref (ad 7), .ref (ad 8), .ref (ad 9), .ref (ad 10)])), (ad 4, .inl (y 0, 9, .inl (d.2 0))), (ad 11, .inl (y 0, 6, .inl (d.2 7)))]) [0, 1, 2, 3] [4, 5, 6, 7] rfl rfl (by decide) (by decide) (by decide) (As := []) (rest := []) rfl (nb rfl) rfl d_Reader_readNewName_6 (fun r1 u2 hr1 => ?_)
  obtain ⟨h3, h5, h6⟩ := hr1
  refine j_ws (ws' := [(ad 0, .inr (2, [.int (d.1 0), .int (d.1 1), .int (d.1 2), .int (d.1 3), .ref (ad 1), .int (d.1 4), .ref (ad 11), .ref (ad 12), .ref (ad 2), .ref (ad 3), .int (d.1 5), .int (d.1 6), .int (d.1 7), .int (d.1 8)])), (ad 1, .inr (1, [.int (d.1 9), .ref (ad 4), .ref (ad 5), .ref (ad 6), .ref (ad 7), .ref (ad 8), .ref (ad 9), .ref (ad 10)])), (ad 4, .inl (y 0, 9, .inl (d.2 0))), (ad 11, .inl (y 0, 6, .inl (d.2 7))), (rd, .inr (5, [.int u2.1, .int u2.2.1, .ref ow, .ref tp, .ref (ad 0), .int (nI u2.2.2.1), .int u2.2.2.2.2.1, .int (nI u2.2.2.2.1), .long u2.2.2.2.2.2.1, .int u2.2.2.2.2.2.2.1, .int u2.2.2.2.2.2.2.2.1, .int u2.2.2.2.2.2.2.2.2])), (tp, .inr (0, [.ref td, .int (nI k)])), (td, .inl (y 0, 1600, .inl tf)), (ow, .inl (y 1, 33, .inr (.inl ww)))]) rfl ?_
  refine j_istore_n (pc := 9) C (lv' := [(2, .int r1), (1, .int (nI rs)), (0, .ref rd)]) d_Reader_readNewName_9 rfl (by decide) rfl ?_
  refine j_aload_n (pc := 10) C d_Reader_readNewName_10 rfl 2 rfl ?_
  refine j_get (pc := 11) C gf_Reader_23 4 rfl rfl d_Reader_readNewName_11 ?_
  refine j_get (pc := 14) C gf_Reader_124 0 rfl rfl d_Reader_readNewName_14 ?_
  refine j_iload_n (pc := 17) C d_Reader_readNewName_17 rfl 0 rfl ?_
  refine j_callVi (pc := 18) C (c_named l D y ad d n9 r1 h9 b9) kw_Reader_282 kv_Gates_named 0 1 rfl rfl ⟨by decide, by decide⟩ ⟨by decide, by decide⟩ (wr := [(ad 0, .inr (2, [.int (d.1 0), .int (d.1 1), .int (d.1 2), .int (d.1 3), .ref (ad 1), .int (d.1 4), .ref (ad 11), .ref (ad 12), .ref (ad 2), .ref (ad 3), .int (d.1 5), .int (d.1 6), .int (d.1 7), .int (d.1 8)])), (ad 11, .inl (y 0, 6, .inl (d.2 7))), (rd, .inr (5, [.int u2.1, .int u2.2.1, .ref ow, .ref tp, .ref (ad 0), .int (nI u2.2.2.1), .int u2.2.2.2.2.1, .int (nI u2.2.2.2.1), .long u2.2.2.2.2.2.1, .int u2.2.2.2.2.2.2.1, .int u2.2.2.2.2.2.2.2.1, .int u2.2.2.2.2.2.2.2.2])), (tp, .inr (0, [.ref td, .int (nI k)])), (td, .inl (y 0, 1600, .inl tf)), (ow, .inl (y 1, 33, .inr (.inl ww)))]) [1, 2] [0, 3, 4, 5, 6, 7] rfl rfl (by decide) (by decide) (by decide) (As := [.int r1]) (rest := []) rfl (nb rfl) rfl d_Reader_readNewName_18 (fun r7 _ hr7 => ?_)
  refine j_ws (ws' := [(ad 0, .inr (2, [.int (d.1 0), .int (d.1 1), .int (d.1 2), .int (d.1 3), .ref (ad 1), .int (d.1 4), .ref (ad 11), .ref (ad 12), .ref (ad 2), .ref (ad 3), .int (d.1 5), .int (d.1 6), .int (d.1 7), .int (d.1 8)])), (ad 11, .inl (y 0, 6, .inl (d.2 7))), (rd, .inr (5, [.int u2.1, .int u2.2.1, .ref ow, .ref tp, .ref (ad 0), .int (nI u2.2.2.1), .int u2.2.2.2.2.1, .int (nI u2.2.2.2.1), .long u2.2.2.2.2.2.1, .int u2.2.2.2.2.2.2.1, .int u2.2.2.2.2.2.2.2.1, .int u2.2.2.2.2.2.2.2.2])), (tp, .inr (0, [.ref td, .int (nI k)])), (td, .inl (y 0, 1600, .inl tf)), (ow, .inl (y 1, 33, .inr (.inl ww))), (ad 1, .inr (1, [.int (d.1 9), .ref (ad 4), .ref (ad 5), .ref (ad 6), .ref (ad 7), .ref (ad 8), .ref (ad 9), .ref (ad 10)])), (ad 4, .inl (y 0, 9, .inl (d.2 0)))]) rfl ?_
  rcases hr7 with rfl | ⟨j8, h12, rfl⟩
  · refine j_iconst (pc := 21) C (v := (-1)) d_Reader_readNewName_21 (by decide) ?_
    refine j_icmp_neF (pc := 22) C (tgt := 37) d_Reader_readNewName_22 (by decide) (by decide) ?_
    refine j_aload_n (pc := 25) C d_Reader_readNewName_25 rfl 2 rfl ?_
    refine j_get (pc := 26) C gf_Reader_23 2 rfl rfl d_Reader_readNewName_26 ?_
    refine j_iload_n (pc := 29) C d_Reader_readNewName_29 rfl 0 rfl ?_
    refine j_callVi (pc := 30) C (c_villageNamed l D y ad d n4 r1 h4 b4) kw_Reader_191 kv_Lake_villageNamed 0 2 rfl rfl ⟨by decide, by decide⟩ ⟨by decide, by decide⟩ (wr := [(rd, .inr (5, [.int u2.1, .int u2.2.1, .ref ow, .ref tp, .ref (ad 0), .int (nI u2.2.2.1), .int u2.2.2.2.2.1, .int (nI u2.2.2.2.1), .long u2.2.2.2.2.2.1, .int u2.2.2.2.2.2.2.1, .int u2.2.2.2.2.2.2.2.1, .int u2.2.2.2.2.2.2.2.2])), (tp, .inr (0, [.ref td, .int (nI k)])), (td, .inl (y 0, 1600, .inl tf)), (ow, .inl (y 1, 33, .inr (.inl ww))), (ad 1, .inr (1, [.int (d.1 9), .ref (ad 4), .ref (ad 5), .ref (ad 6), .ref (ad 7), .ref (ad 8), .ref (ad 9), .ref (ad 10)])), (ad 4, .inl (y 0, 9, .inl (d.2 0)))]) [0, 1] [2, 3, 4, 5, 6, 7] rfl rfl (by decide) (by decide) (by decide) (As := [.int r1]) (rest := []) rfl (nb rfl) rfl d_Reader_readNewName_30 (fun r13 _ hr13 => ?_)
    refine j_ws (ws' := [(rd, .inr (5, [.int u2.1, .int u2.2.1, .ref ow, .ref tp, .ref (ad 0), .int (nI u2.2.2.1), .int u2.2.2.2.2.1, .int (nI u2.2.2.2.1), .long u2.2.2.2.2.2.1, .int u2.2.2.2.2.2.2.1, .int u2.2.2.2.2.2.2.2.1, .int u2.2.2.2.2.2.2.2.2])), (tp, .inr (0, [.ref td, .int (nI k)])), (td, .inl (y 0, 1600, .inl tf)), (ow, .inl (y 1, 33, .inr (.inl ww))), (ad 1, .inr (1, [.int (d.1 9), .ref (ad 4), .ref (ad 5), .ref (ad 6), .ref (ad 7), .ref (ad 8), .ref (ad 9), .ref (ad 10)])), (ad 4, .inl (y 0, 9, .inl (d.2 0))), (ad 0, .inr (2, [.int (d.1 0), .int (d.1 1), .int (d.1 2), .int (d.1 3), .ref (ad 1), .int (d.1 4), .ref (ad 11), .ref (ad 12), .ref (ad 2), .ref (ad 3), .int (d.1 5), .int (d.1 6), .int (d.1 7), .int (d.1 8)])), (ad 11, .inl (y 0, 6, .inl (d.2 7)))]) rfl ?_
    rcases hr13 with rfl | ⟨j14, h15, rfl⟩
    · refine j_iconst (pc := 33) C (v := (-1)) d_Reader_readNewName_33 (by decide) ?_
      refine j_icmp_eqT (pc := 34) C (tgt := 43) d_Reader_readNewName_34 (by decide) (by decide) ?_
      refine j_iload_n (pc := 43) C d_Reader_readNewName_43 rfl 0 rfl ?_
      exact j_iret (pc := 44) C hr rfl (u2.1, u2.2.1, u2.2.2.1, u2.2.2.2.1, u2.2.2.2.2.1, u2.2.2.2.2.2.1, u2.2.2.2.2.2.2.1, u2.2.2.2.2.2.2.2.1, u2.2.2.2.2.2.2.2.2) ⟨(show u2.2.2.1 ≤ k by omega), (show u2.2.2.2.1 ≤ u2.2.2.1 by omega), (fun e => id (h6 e))⟩ [0, 1, 2, 3, 6, 4, 5, 7] rfl (by decide) (by decide) (by decide) d_Reader_readNewName_44
    · refine j_iconst (pc := 33) C (v := (-1)) d_Reader_readNewName_33 (by decide) ?_
      refine j_icmp_eqF (pc := 34) C (tgt := 43) d_Reader_readNewName_34 (by decide) (nI_nm1 (by omega)) ?_
      refine j_aload_n (pc := 37) C d_Reader_readNewName_37 rfl 2 rfl ?_
      refine j_iconst (pc := 38) C (v := 3) d_Reader_readNewName_38 (by decide) ?_
      refine j_iload_n (pc := 39) C d_Reader_readNewName_39 rfl 1 rfl ?_
      refine j_callVv (pc := 40) C (c_r_fail_3 l D y rd ow tp (ad 0) td u2.1 u2.2.1 u2.2.2.2.2.1 u2.2.2.2.2.2.1 u2.2.2.2.2.2.2.1 u2.2.2.2.2.2.2.2.1 u2.2.2.2.2.2.2.2.2 u2.2.2.1 u2.2.2.2.1 k (nI rs)) kw_Reader_65 kv_Reader_fail 0 5 rfl rfl ⟨by decide, by decide⟩ ⟨by decide, by decide⟩ (wr := [(td, .inl (y 0, 1600, .inl tf)), (ow, .inl (y 1, 33, .inr (.inl ww))), (ad 1, .inr (1, [.int (d.1 9), .ref (ad 4), .ref (ad 5), .ref (ad 6), .ref (ad 7), .ref (ad 8), .ref (ad 9), .ref (ad 10)])), (ad 4, .inl (y 0, 9, .inl (d.2 0))), (ad 0, .inr (2, [.int (d.1 0), .int (d.1 1), .int (d.1 2), .int (d.1 3), .ref (ad 1), .int (d.1 4), .ref (ad 11), .ref (ad 12), .ref (ad 2), .ref (ad 3), .int (d.1 5), .int (d.1 6), .int (d.1 7), .int (d.1 8)])), (ad 11, .inl (y 0, 6, .inl (d.2 7)))]) [0, 1] [2, 3, 4, 5, 6, 7] rfl rfl (by decide) (by decide) (by decide) (As := [.int 3, .int (nI rs)]) (rest := []) rfl (nb rfl) rfl d_Reader_readNewName_40 (fun u16 hu17 => ?_)
      have h18 := hu17
      refine j_ws (ws' := [(td, .inl (y 0, 1600, .inl tf)), (ow, .inl (y 1, 33, .inr (.inl ww))), (ad 1, .inr (1, [.int (d.1 9), .ref (ad 4), .ref (ad 5), .ref (ad 6), .ref (ad 7), .ref (ad 8), .ref (ad 9), .ref (ad 10)])), (ad 4, .inl (y 0, 9, .inl (d.2 0))), (ad 0, .inr (2, [.int (d.1 0), .int (d.1 1), .int (d.1 2), .int (d.1 3), .ref (ad 1), .int (d.1 4), .ref (ad 11), .ref (ad 12), .ref (ad 2), .ref (ad 3), .int (d.1 5), .int (d.1 6), .int (d.1 7), .int (d.1 8)])), (ad 11, .inl (y 0, 6, .inl (d.2 7))), (rd, .inr (5, [.int u16.1, .int u16.2, .ref ow, .ref tp, .ref (ad 0), .int (nI k), .int 0, .int (nI k), .long u2.2.2.2.2.2.1, .int u2.2.2.2.2.2.2.1, .int u2.2.2.2.2.2.2.2.1, .int u2.2.2.2.2.2.2.2.2])), (tp, .inr (0, [.ref td, .int (nI k)]))]) rfl ?_
      refine j_iload_n (pc := 43) C d_Reader_readNewName_43 rfl 0 rfl ?_
      exact j_iret (pc := 44) C hr rfl (u16.1, u16.2, k, k, 0, u2.2.2.2.2.2.1, u2.2.2.2.2.2.2.1, u2.2.2.2.2.2.2.2.1, u2.2.2.2.2.2.2.2.2) ⟨(show k ≤ k by omega), (show k ≤ k by omega), (fun e => absurd e h18)⟩ [6, 7, 0, 1, 4, 2, 3, 5] rfl (by decide) (by decide) (by decide) d_Reader_readNewName_44
  · refine j_iconst (pc := 21) C (v := (-1)) d_Reader_readNewName_21 (by decide) ?_
    refine j_icmp_neT (pc := 22) C (tgt := 37) d_Reader_readNewName_22 (by decide) (nI_nm1 (by omega)) ?_
    refine j_aload_n (pc := 37) C d_Reader_readNewName_37 rfl 2 rfl ?_
    refine j_iconst (pc := 38) C (v := 3) d_Reader_readNewName_38 (by decide) ?_
    refine j_iload_n (pc := 39) C d_Reader_readNewName_39 rfl 1 rfl ?_
    refine j_callVv (pc := 40) C (c_r_fail_3 l D y rd ow tp (ad 0) td u2.1 u2.2.1 u2.2.2.2.2.1 u2.2.2.2.2.2.1 u2.2.2.2.2.2.2.1 u2.2.2.2.2.2.2.2.1 u2.2.2.2.2.2.2.2.2 u2.2.2.1 u2.2.2.2.1 k (nI rs)) kw_Reader_65 kv_Reader_fail 0 5 rfl rfl ⟨by decide, by decide⟩ ⟨by decide, by decide⟩ (wr := [(ad 0, .inr (2, [.int (d.1 0), .int (d.1 1), .int (d.1 2), .int (d.1 3), .ref (ad 1), .int (d.1 4), .ref (ad 11), .ref (ad 12), .ref (ad 2), .ref (ad 3), .int (d.1 5), .int (d.1 6), .int (d.1 7), .int (d.1 8)])), (ad 11, .inl (y 0, 6, .inl (d.2 7))), (td, .inl (y 0, 1600, .inl tf)), (ow, .inl (y 1, 33, .inr (.inl ww))), (ad 1, .inr (1, [.int (d.1 9), .ref (ad 4), .ref (ad 5), .ref (ad 6), .ref (ad 7), .ref (ad 8), .ref (ad 9), .ref (ad 10)])), (ad 4, .inl (y 0, 9, .inl (d.2 0)))]) [2, 3] [0, 1, 4, 5, 6, 7] rfl rfl (by decide) (by decide) (by decide) (As := [.int 3, .int (nI rs)]) (rest := []) rfl (nb rfl) rfl d_Reader_readNewName_40 (fun u19 hu20 => ?_)
    have h21 := hu20
    refine j_ws (ws' := [(ad 0, .inr (2, [.int (d.1 0), .int (d.1 1), .int (d.1 2), .int (d.1 3), .ref (ad 1), .int (d.1 4), .ref (ad 11), .ref (ad 12), .ref (ad 2), .ref (ad 3), .int (d.1 5), .int (d.1 6), .int (d.1 7), .int (d.1 8)])), (ad 11, .inl (y 0, 6, .inl (d.2 7))), (td, .inl (y 0, 1600, .inl tf)), (ow, .inl (y 1, 33, .inr (.inl ww))), (ad 1, .inr (1, [.int (d.1 9), .ref (ad 4), .ref (ad 5), .ref (ad 6), .ref (ad 7), .ref (ad 8), .ref (ad 9), .ref (ad 10)])), (ad 4, .inl (y 0, 9, .inl (d.2 0))), (rd, .inr (5, [.int u19.1, .int u19.2, .ref ow, .ref tp, .ref (ad 0), .int (nI k), .int 0, .int (nI k), .long u2.2.2.2.2.2.1, .int u2.2.2.2.2.2.2.1, .int u2.2.2.2.2.2.2.2.1, .int u2.2.2.2.2.2.2.2.2])), (tp, .inr (0, [.ref td, .int (nI k)]))]) rfl ?_
    refine j_iload_n (pc := 43) C d_Reader_readNewName_43 rfl 0 rfl ?_
    exact j_iret (pc := 44) C hr rfl (u19.1, u19.2, k, k, 0, u2.2.2.2.2.2.1, u2.2.2.2.2.2.2.1, u2.2.2.2.2.2.2.2.1, u2.2.2.2.2.2.2.2.2) ⟨(show k ≤ k by omega), (show k ≤ k by omega), (fun e => absurd e h21)⟩ [6, 7, 2, 3, 0, 4, 5, 1] rfl (by decide) (by decide) (by decide) d_Reader_readNewName_44
theorem d_Reader_readGateName_0 : decode prog_8_method_30_code 0 = .ok (.aload_n 0, 1) := by decide +kernel
theorem d_Reader_readGateName_1 : decode prog_8_method_30_code 1 = .ok (.getfield 62, 3) := by decide +kernel
theorem d_Reader_readGateName_4 : decode prog_8_method_30_code 4 = .ok (.istore_n 1, 1) := by decide +kernel
theorem d_Reader_readGateName_5 : decode prog_8_method_30_code 5 = .ok (.aload_n 0, 1) := by decide +kernel
theorem d_Reader_readGateName_6 : decode prog_8_method_30_code 6 = .ok (.getfield 23, 3) := by decide +kernel
theorem d_Reader_readGateName_9 : decode prog_8_method_30_code 9 = .ok (.getfield 124, 3) := by decide +kernel
theorem d_Reader_readGateName_12 : decode prog_8_method_30_code 12 = .ok (.aload_n 0, 1) := by decide +kernel
theorem d_Reader_readGateName_13 : decode prog_8_method_30_code 13 = .ok (.invokevirtual 188, 3) := by decide +kernel
theorem d_Reader_readGateName_16 : decode prog_8_method_30_code 16 = .ok (.invokevirtual 282, 3) := by decide +kernel
theorem d_Reader_readGateName_19 : decode prog_8_method_30_code 19 = .ok (.istore_n 2, 1) := by decide +kernel
theorem d_Reader_readGateName_20 : decode prog_8_method_30_code 20 = .ok (.iload_n 2, 1) := by decide +kernel
theorem d_Reader_readGateName_21 : decode prog_8_method_30_code 21 = .ok (.iconst (-1), 1) := by decide +kernel
theorem d_Reader_readGateName_22 : decode prog_8_method_30_code 22 = .ok (.if_icmp .ne 9, 3) := by decide +kernel
theorem d_Reader_readGateName_25 : decode prog_8_method_30_code 25 = .ok (.aload_n 0, 1) := by decide +kernel
theorem d_Reader_readGateName_26 : decode prog_8_method_30_code 26 = .ok (.iconst 3, 1) := by decide +kernel
theorem d_Reader_readGateName_27 : decode prog_8_method_30_code 27 = .ok (.iload_n 1, 1) := by decide +kernel
theorem d_Reader_readGateName_28 : decode prog_8_method_30_code 28 = .ok (.invokevirtual 65, 3) := by decide +kernel
theorem d_Reader_readGateName_31 : decode prog_8_method_30_code 31 = .ok (.iload_n 2, 1) := by decide +kernel
theorem d_Reader_readGateName_32 : decode prog_8_method_30_code 32 = .ok (.ireturn, 1) := by decide +kernel
set_option maxHeartbeats 4000000 in
set_option maxRecDepth 100000 in
theorem c_r_readGateName (l : Launch) (D : va_G) (y : Nat → ClassId) (rd : Nat) (ow : Nat) (tp : Nat) (td : Nat) (fa : Int32) (pl : Int32) (so : Int32) (le : Int64) (wo : Int32) (nu : Int32) (si : Int32) (ra : Nat) (rs : Nat) (k : Nat) (tf : Nat → Int32) (ww : Nat → Int64) (ad : Nat → Nat) (d : LD) (n9 : Nat) (ha : ra ≤ k) (hs : rs ≤ ra) (hk : k ≤ 1600) (h9 : d.1 9 = nI n9) (b9 : n9 ≤ 9) : CT l D y ⟨"NineBoards$Reader", "readGateName", "()I"⟩ prog_8_method_30_code 3 (some .int) ({ frames := 3, cells := 0, slots := 0, locals := 65 } : Room) [.ref rd] [(rd, .inr (5, [.int fa, .int pl, .ref ow, .ref tp, .ref (ad 0), .int (nI ra), .int so, .int (nI rs), .long le, .int wo, .int nu, .int si])), (tp, .inr (0, [.ref td, .int (nI k)])), (td, .inl (y 0, 1600, .inl tf)), (ow, .inl (y 1, 33, .inr (.inl ww))), (ad 0, .inr (2, [.int (d.1 0), .int (d.1 1), .int (d.1 2), .int (d.1 3), .ref (ad 1), .int (d.1 4), .ref (ad 11), .ref (ad 12), .ref (ad 2), .ref (ad 3), .int (d.1 5), .int (d.1 6), .int (d.1 7), .int (d.1 8)])), (ad 1, .inr (1, [.int (d.1 9), .ref (ad 4), .ref (ad 5), .ref (ad 6), .ref (ad 7), .ref (ad 8), .ref (ad 9), .ref (ad 10)])), (ad 4, .inl (y 0, 9, .inl (d.2 0)))] (QI D [(rd, .inr (5, [.int fa, .int pl, .ref ow, .ref tp, .ref (ad 0), .int (nI ra), .int so, .int (nI rs), .long le, .int wo, .int nu, .int si])), (tp, .inr (0, [.ref td, .int (nI k)])), (td, .inl (y 0, 1600, .inl tf)), (ow, .inl (y 1, 33, .inr (.inl ww))), (ad 0, .inr (2, [.int (d.1 0), .int (d.1 1), .int (d.1 2), .int (d.1 3), .ref (ad 1), .int (d.1 4), .ref (ad 11), .ref (ad 12), .ref (ad 2), .ref (ad 3), .int (d.1 5), .int (d.1 6), .int (d.1 7), .int (d.1 8)])), (ad 1, .inr (1, [.int (d.1 9), .ref (ad 4), .ref (ad 5), .ref (ad 6), .ref (ad 7), .ref (ad 8), .ref (ad 9), .ref (ad 10)])), (ad 4, .inl (y 0, 9, .inl (d.2 0)))] (fun (r : Int32) (u : Int32 × Int32 × Nat × Nat × Int32 × Int64 × Int32 × Int32 × Int32) => u.2.2.1 ≤ k ∧ u.2.2.2.1 ≤ u.2.2.1 ∧ (u.1 = 0 → fa = 0) ∧ ((r = -1 ∧ ¬ u.1 = 0) ∨ ∃ j : Nat, j < n9 ∧ r = nI j)) (fun u => [(rd, .inr (5, [.int u.1, .int u.2.1, .ref ow, .ref tp, .ref (ad 0), .int (nI u.2.2.1), .int u.2.2.2.2.1, .int (nI u.2.2.2.1), .long u.2.2.2.2.2.1, .int u.2.2.2.2.2.2.1, .int u.2.2.2.2.2.2.2.1, .int u.2.2.2.2.2.2.2.2])), (tp, .inr (0, [.ref td, .int (nI k)])), (td, .inl (y 0, 1600, .inl tf)), (ow, .inl (y 1, 33, .inr (.inl ww))), (ad 0, .inr (2, [.int (d.1 0), .int (d.1 1), .int (d.1 2), .int (d.1 3), .ref (ad 1), .int (d.1 4), .ref (ad 11), .ref (ad 12), .ref (ad 2), .ref (ad 3), .int (d.1 5), .int (d.1 6), .int (d.1 7), .int (d.1 8)])), (ad 1, .inr (1, [.int (d.1 9), .ref (ad 4), .ref (ad 5), .ref (ad 6), .ref (ad 7), .ref (ad 8), .ref (ad 9), .ref (ad 10)])), (ad 4, .inl (y 0, 9, .inl (d.2 0)))])) := by
  refine CT.of (by decide) (nb rfl) ?_
  intro p e s m args below meth c C hr
  refine j_lv (lv' := [(0, .ref rd)]) rfl ?_
  refine j_aload_n (pc := 0) C d_Reader_readGateName_0 rfl 0 rfl ?_
  refine j_get (pc := 1) C gf_Reader_62 0 rfl rfl d_Reader_readGateName_1 ?_
  refine j_istore_n (pc := 4) C (lv' := [(1, .int (nI rs)), (0, .ref rd)]) d_Reader_readGateName_4 rfl (by decide) rfl ?_
  refine j_aload_n (pc := 5) C d_Reader_readGateName_5 rfl 1 rfl ?_
  refine j_get (pc := 6) C gf_Reader_23 0 rfl rfl d_Reader_readGateName_6 ?_
  refine j_get (pc := 9) C gf_Reader_124 4 rfl rfl d_Reader_readGateName_9 ?_
  refine j_aload_n (pc := 12) C d_Reader_readGateName_12 rfl 1 rfl ?_
  refine j_callVi (pc := 13) C (c_r_readName l D y rd ow tp (ad 0) td fa pl so le wo nu si ra rs k tf ww ha hs hk) kw_Reader_188 kv_Reader_readName 0 5 rfl rfl ⟨by decide, by decide⟩ ⟨by decide, by decide⟩ (wr := [(ad 0, .inr (2, [.int (d.1 0), .int (d.1 1), .int (d.1 2), .int (d.1 3), .ref (ad 1), .int (d.1 4), .ref (ad 11), .ref (ad 12), .ref (ad 2), .ref (ad 3), .int (d.1 5), .int (d.1 6), .int (d.1 7), .int (d.1 8)])), (ad 1, .inr (1, [.int (d.1 9), .ref (ad 4), .ref (ad 5), .ref (ad 6), .ref (ad 7), .ref (ad 8), .ref (ad 9), .ref (ad 10)])), (ad 4, .inl (y 0, 9, .inl (d.2 0)))]) [0, 1, 2, 3] [4, 5, 6] rfl rfl (by decide) (by decide) (by decide) (As := []) (rest := [.ref (ad 1)]) rfl (nb rfl) rfl d_Reader_readGateName_13 (fun r1 u2 hr1 => ?_)
  obtain ⟨h3, h5, h6⟩ := hr1
  refine j_ws (ws' := [(ad 0, .inr (2, [.int (d.1 0), .int (d.1 1), .int (d.1 2), .int (d.1 3), .ref (ad 1), .int (d.1 4), .ref (ad 11), .ref (ad 12), .ref (ad 2), .ref (ad 3), .int (d.1 5), .int (d.1 6), .int (d.1 7), .int (d.1 8)])), (ad 1, .inr (1, [.int (d.1 9), .ref (ad 4), .ref (ad 5), .ref (ad 6), .ref (ad 7), .ref (ad 8), .ref (ad 9), .ref (ad 10)])), (ad 4, .inl (y 0, 9, .inl (d.2 0))), (rd, .inr (5, [.int u2.1, .int u2.2.1, .ref ow, .ref tp, .ref (ad 0), .int (nI u2.2.2.1), .int u2.2.2.2.2.1, .int (nI u2.2.2.2.1), .long u2.2.2.2.2.2.1, .int u2.2.2.2.2.2.2.1, .int u2.2.2.2.2.2.2.2.1, .int u2.2.2.2.2.2.2.2.2])), (tp, .inr (0, [.ref td, .int (nI k)])), (td, .inl (y 0, 1600, .inl tf)), (ow, .inl (y 1, 33, .inr (.inl ww)))]) rfl ?_
  refine j_callVi (pc := 16) C (c_named l D y ad d n9 r1 h9 b9) kw_Reader_282 kv_Gates_named 0 1 rfl rfl ⟨by decide, by decide⟩ ⟨by decide, by decide⟩ (wr := [(ad 0, .inr (2, [.int (d.1 0), .int (d.1 1), .int (d.1 2), .int (d.1 3), .ref (ad 1), .int (d.1 4), .ref (ad 11), .ref (ad 12), .ref (ad 2), .ref (ad 3), .int (d.1 5), .int (d.1 6), .int (d.1 7), .int (d.1 8)])), (rd, .inr (5, [.int u2.1, .int u2.2.1, .ref ow, .ref tp, .ref (ad 0), .int (nI u2.2.2.1), .int u2.2.2.2.2.1, .int (nI u2.2.2.2.1), .long u2.2.2.2.2.2.1, .int u2.2.2.2.2.2.2.1, .int u2.2.2.2.2.2.2.2.1, .int u2.2.2.2.2.2.2.2.2])), (tp, .inr (0, [.ref td, .int (nI k)])), (td, .inl (y 0, 1600, .inl tf)), (ow, .inl (y 1, 33, .inr (.inl ww)))]) [1, 2] [0, 3, 4, 5, 6] rfl rfl (by decide) (by decide) (by decide) (As := [.int r1]) (rest := []) rfl (nb rfl) rfl d_Reader_readGateName_16 (fun r7 _ hr7 => ?_)
  refine j_ws (ws' := [(ad 0, .inr (2, [.int (d.1 0), .int (d.1 1), .int (d.1 2), .int (d.1 3), .ref (ad 1), .int (d.1 4), .ref (ad 11), .ref (ad 12), .ref (ad 2), .ref (ad 3), .int (d.1 5), .int (d.1 6), .int (d.1 7), .int (d.1 8)])), (rd, .inr (5, [.int u2.1, .int u2.2.1, .ref ow, .ref tp, .ref (ad 0), .int (nI u2.2.2.1), .int u2.2.2.2.2.1, .int (nI u2.2.2.2.1), .long u2.2.2.2.2.2.1, .int u2.2.2.2.2.2.2.1, .int u2.2.2.2.2.2.2.2.1, .int u2.2.2.2.2.2.2.2.2])), (tp, .inr (0, [.ref td, .int (nI k)])), (td, .inl (y 0, 1600, .inl tf)), (ow, .inl (y 1, 33, .inr (.inl ww))), (ad 1, .inr (1, [.int (d.1 9), .ref (ad 4), .ref (ad 5), .ref (ad 6), .ref (ad 7), .ref (ad 8), .ref (ad 9), .ref (ad 10)])), (ad 4, .inl (y 0, 9, .inl (d.2 0)))]) rfl ?_
  rcases hr7 with rfl | ⟨j8, h12, rfl⟩
  · refine j_istore_n (pc := 19) C (lv' := [(2, .int (-1)), (1, .int (nI rs)), (0, .ref rd)]) d_Reader_readGateName_19 rfl (by decide) rfl ?_
    refine j_iload_n (pc := 20) C d_Reader_readGateName_20 rfl 0 rfl ?_
    refine j_iconst (pc := 21) C (v := (-1)) d_Reader_readGateName_21 (by decide) ?_
    refine j_icmp_neF (pc := 22) C (tgt := 31) d_Reader_readGateName_22 (by decide) (by decide) ?_
    refine j_aload_n (pc := 25) C d_Reader_readGateName_25 rfl 2 rfl ?_
    refine j_iconst (pc := 26) C (v := 3) d_Reader_readGateName_26 (by decide) ?_
    refine j_iload_n (pc := 27) C d_Reader_readGateName_27 rfl 1 rfl ?_
    refine j_callVv (pc := 28) C (c_r_fail_3 l D y rd ow tp (ad 0) td u2.1 u2.2.1 u2.2.2.2.2.1 u2.2.2.2.2.2.1 u2.2.2.2.2.2.2.1 u2.2.2.2.2.2.2.2.1 u2.2.2.2.2.2.2.2.2 u2.2.2.1 u2.2.2.2.1 k (nI rs)) kw_Reader_65 kv_Reader_fail 0 5 rfl rfl ⟨by decide, by decide⟩ ⟨by decide, by decide⟩ (wr := [(ad 0, .inr (2, [.int (d.1 0), .int (d.1 1), .int (d.1 2), .int (d.1 3), .ref (ad 1), .int (d.1 4), .ref (ad 11), .ref (ad 12), .ref (ad 2), .ref (ad 3), .int (d.1 5), .int (d.1 6), .int (d.1 7), .int (d.1 8)])), (td, .inl (y 0, 1600, .inl tf)), (ow, .inl (y 1, 33, .inr (.inl ww))), (ad 1, .inr (1, [.int (d.1 9), .ref (ad 4), .ref (ad 5), .ref (ad 6), .ref (ad 7), .ref (ad 8), .ref (ad 9), .ref (ad 10)])), (ad 4, .inl (y 0, 9, .inl (d.2 0)))]) [1, 2] [0, 3, 4, 5, 6] rfl rfl (by decide) (by decide) (by decide) (As := [.int 3, .int (nI rs)]) (rest := []) rfl (nb rfl) rfl d_Reader_readGateName_28 (fun u13 hu14 => ?_)
    have h15 := hu14
    refine j_ws (ws' := [(ad 0, .inr (2, [.int (d.1 0), .int (d.1 1), .int (d.1 2), .int (d.1 3), .ref (ad 1), .int (d.1 4), .ref (ad 11), .ref (ad 12), .ref (ad 2), .ref (ad 3), .int (d.1 5), .int (d.1 6), .int (d.1 7), .int (d.1 8)])), (td, .inl (y 0, 1600, .inl tf)), (ow, .inl (y 1, 33, .inr (.inl ww))), (ad 1, .inr (1, [.int (d.1 9), .ref (ad 4), .ref (ad 5), .ref (ad 6), .ref (ad 7), .ref (ad 8), .ref (ad 9), .ref (ad 10)])), (ad 4, .inl (y 0, 9, .inl (d.2 0))), (rd, .inr (5, [.int u13.1, .int u13.2, .ref ow, .ref tp, .ref (ad 0), .int (nI k), .int 0, .int (nI k), .long u2.2.2.2.2.2.1, .int u2.2.2.2.2.2.2.1, .int u2.2.2.2.2.2.2.2.1, .int u2.2.2.2.2.2.2.2.2])), (tp, .inr (0, [.ref td, .int (nI k)]))]) rfl ?_
    refine j_iload_n (pc := 31) C d_Reader_readGateName_31 rfl 0 rfl ?_
    exact j_iret (pc := 32) C hr rfl (u13.1, u13.2, k, k, 0, u2.2.2.2.2.2.1, u2.2.2.2.2.2.2.1, u2.2.2.2.2.2.2.2.1, u2.2.2.2.2.2.2.2.2) ⟨(show k ≤ k by omega), (show k ≤ k by omega), (fun e => absurd e h15), (Or.inl ⟨rfl, h15⟩)⟩ [5, 6, 1, 2, 0, 3, 4] rfl (by decide) (by decide) (by decide) d_Reader_readGateName_32
  · refine j_istore_n (pc := 19) C (lv' := [(2, .int (nI j8)), (1, .int (nI rs)), (0, .ref rd)]) d_Reader_readGateName_19 rfl (by decide) rfl ?_
    refine j_iload_n (pc := 20) C d_Reader_readGateName_20 rfl 0 rfl ?_
    refine j_iconst (pc := 21) C (v := (-1)) d_Reader_readGateName_21 (by decide) ?_
    refine j_icmp_neT (pc := 22) C (tgt := 31) d_Reader_readGateName_22 (by decide) (nI_nm1 (by omega)) ?_
    refine j_iload_n (pc := 31) C d_Reader_readGateName_31 rfl 0 rfl ?_
    exact j_iret (pc := 32) C hr rfl (u2.1, u2.2.1, u2.2.2.1, u2.2.2.2.1, u2.2.2.2.2.1, u2.2.2.2.2.2.1, u2.2.2.2.2.2.2.1, u2.2.2.2.2.2.2.2.1, u2.2.2.2.2.2.2.2.2) ⟨(show u2.2.2.1 ≤ k by omega), (show u2.2.2.2.1 ≤ u2.2.2.1 by omega), (fun e => id (h6 e)), (Or.inr ⟨j8, by omega, rfl⟩)⟩ [1, 2, 3, 4, 0, 5, 6] rfl (by decide) (by decide) (by decide) d_Reader_readGateName_32
