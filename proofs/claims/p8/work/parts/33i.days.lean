set_option maxHeartbeats 4000000 in
set_option maxRecDepth 100000 in
theorem c_yhasVillage (l : Launch) (D : va_G) (y : Nat → ClassId) (ad : Nat → Nat) (d : LD) (gt : LA_) (vq : Nat) (hlk : LKR gt d) (hv : vq < 2147483648) : CT l D y ⟨"NineBoards$Lake", "hasVillage", "(I)Z"⟩ prog_5_method_4_code 2 (some .boolean) ({ frames := 0, cells := 0, slots := 0, locals := 0 } : Room) [.ref (ad 0), .int (nI vq)] [(ad 0, .inr (2, [.int (d.1 0), .int (d.1 1), .int (d.1 2), .int (d.1 3), .ref (ad 1), .int (d.1 4), .ref (ad 11), .ref (ad 12), .ref (ad 2), .ref (ad 3), .int (d.1 5), .int (d.1 6), .int (d.1 7), .int (d.1 8)]))] (QI D [(ad 0, .inr (2, [.int (d.1 0), .int (d.1 1), .int (d.1 2), .int (d.1 3), .ref (ad 1), .int (d.1 4), .ref (ad 11), .ref (ad 12), .ref (ad 2), .ref (ad 3), .int (d.1 5), .int (d.1 6), .int (d.1 7), .int (d.1 8)]))] (fun (r : Int32) (u : Unit) => ((r = 1 ∧ (vq < gt.s 4)) ∨ (r = 0 ∧ ¬ (vq < gt.s 4)))) (fun _ => [(ad 0, .inr (2, [.int (d.1 0), .int (d.1 1), .int (d.1 2), .int (d.1 3), .ref (ad 1), .int (d.1 4), .ref (ad 11), .ref (ad 12), .ref (ad 2), .ref (ad 3), .int (d.1 5), .int (d.1 6), .int (d.1 7), .int (d.1 8)]))])) := by
  refine CT.of (by decide) (nb rfl) ?_
  intro p e s m args below meth c C hr
  refine j_lv (lv' := [(0, .ref (ad 0)), (1, .int (nI vq))]) rfl ?_
  obtain ⟨b9, b4, b10, b11⟩ := lk_b hlk
  obtain ⟨b1, b1x, b2, b2x, b3, b5, b6, b7, b8⟩ := lk_n hlk
  refine j_iload_n (pc := 0) C d_Lake_hasVillage_0 rfl 1 rfl ?_
  refine j_if_ltF (pc := 1) C (tgt := 16) d_Lake_hasVillage_1 (by decide) (show ¬ nI vq < nI 0 from nI_nlt (by omega) (by omega)) ?_
  refine j_iload_n (pc := 4) C d_Lake_hasVillage_4 rfl 1 rfl ?_
  refine j_aload_n (pc := 5) C d_Lake_hasVillage_5 rfl 0 rfl ?_
  refine j_get (pc := 6) C gf_Lake_58 0 rfl rfl d_Lake_hasVillage_6 ?_
  refine j_st (st' := [.int (nI (gt.s 4)), .int (nI vq)]) (by rw [lk_s hlk 4 (by decide)]) ?_
  by_cases c1 : (gt.s 4) ≤ vq
  · refine j_icmp_geT (pc := 9) C (tgt := 16) d_Lake_hasVillage_9 (by decide) (show nI (gt.s 4) ≤ nI vq from nI_le (by omega) (by omega)) ?_
    refine j_iconst (pc := 16) C (v := 0) d_Lake_hasVillage_16 (by decide) ?_
    exact j_iret (pc := 17) C hr (by decide) () (Or.inr ⟨rfl, by omega⟩) [0] rfl (by decide) (by decide) (by decide) d_Lake_hasVillage_17
  · refine j_icmp_geF (pc := 9) C (tgt := 16) d_Lake_hasVillage_9 (by decide) (show ¬ nI (gt.s 4) ≤ nI vq from nI_ge (by omega) (by omega)) ?_
    refine j_iconst (pc := 12) C (v := 1) d_Lake_hasVillage_12 (by decide) ?_
    refine j_goto (pc := 13) C (tgt := 17) d_Lake_hasVillage_13 (by decide) ?_
    exact j_iret (pc := 17) C hr (by decide) () (Or.inl ⟨rfl, by omega⟩) [0] rfl (by decide) (by decide) (by decide) d_Lake_hasVillage_17
set_option maxHeartbeats 4000000 in
set_option maxRecDepth 100000 in
theorem c_yhasGate (l : Launch) (D : va_G) (y : Nat → ClassId) (ad : Nat → Nat) (d : LD) (gt : LA_) (vq : Nat) (hlk : LKR gt d) (hv : vq < 2147483648) : CT l D y ⟨"NineBoards$Lake", "hasGate", "(I)Z"⟩ prog_5_method_3_code 2 (some .boolean) ({ frames := 0, cells := 0, slots := 0, locals := 0 } : Room) [.ref (ad 0), .int (nI vq)] [(ad 0, .inr (2, [.int (d.1 0), .int (d.1 1), .int (d.1 2), .int (d.1 3), .ref (ad 1), .int (d.1 4), .ref (ad 11), .ref (ad 12), .ref (ad 2), .ref (ad 3), .int (d.1 5), .int (d.1 6), .int (d.1 7), .int (d.1 8)])), (ad 1, .inr (1, [.int (d.1 9), .ref (ad 4), .ref (ad 5), .ref (ad 6), .ref (ad 7), .ref (ad 8), .ref (ad 9), .ref (ad 10)]))] (QI D [(ad 0, .inr (2, [.int (d.1 0), .int (d.1 1), .int (d.1 2), .int (d.1 3), .ref (ad 1), .int (d.1 4), .ref (ad 11), .ref (ad 12), .ref (ad 2), .ref (ad 3), .int (d.1 5), .int (d.1 6), .int (d.1 7), .int (d.1 8)])), (ad 1, .inr (1, [.int (d.1 9), .ref (ad 4), .ref (ad 5), .ref (ad 6), .ref (ad 7), .ref (ad 8), .ref (ad 9), .ref (ad 10)]))] (fun (r : Int32) (u : Unit) => ((r = 1 ∧ (vq < gt.s 9)) ∨ (r = 0 ∧ ¬ (vq < gt.s 9)))) (fun _ => [(ad 0, .inr (2, [.int (d.1 0), .int (d.1 1), .int (d.1 2), .int (d.1 3), .ref (ad 1), .int (d.1 4), .ref (ad 11), .ref (ad 12), .ref (ad 2), .ref (ad 3), .int (d.1 5), .int (d.1 6), .int (d.1 7), .int (d.1 8)])), (ad 1, .inr (1, [.int (d.1 9), .ref (ad 4), .ref (ad 5), .ref (ad 6), .ref (ad 7), .ref (ad 8), .ref (ad 9), .ref (ad 10)]))])) := by
  refine CT.of (by decide) (nb rfl) ?_
  intro p e s m args below meth c C hr
  refine j_lv (lv' := [(0, .ref (ad 0)), (1, .int (nI vq))]) rfl ?_
  obtain ⟨b9, b4, b10, b11⟩ := lk_b hlk
  obtain ⟨b1, b1x, b2, b2x, b3, b5, b6, b7, b8⟩ := lk_n hlk
  refine j_iload_n (pc := 0) C d_Lake_hasGate_0 rfl 1 rfl ?_
  refine j_if_ltF (pc := 1) C (tgt := 19) d_Lake_hasGate_1 (by decide) (show ¬ nI vq < nI 0 from nI_nlt (by omega) (by omega)) ?_
  refine j_iload_n (pc := 4) C d_Lake_hasGate_4 rfl 1 rfl ?_
  refine j_aload_n (pc := 5) C d_Lake_hasGate_5 rfl 0 rfl ?_
  refine j_get (pc := 6) C gf_Lake_12 0 rfl rfl d_Lake_hasGate_6 ?_
  refine j_get (pc := 9) C gf_Lake_55 1 rfl rfl d_Lake_hasGate_9 ?_
  refine j_st (st' := [.int (nI (gt.s 9)), .int (nI vq)]) (by rw [lk_s hlk 9 (by decide)]) ?_
  by_cases c1 : (gt.s 9) ≤ vq
  · refine j_icmp_geT (pc := 12) C (tgt := 19) d_Lake_hasGate_12 (by decide) (show nI (gt.s 9) ≤ nI vq from nI_le (by omega) (by omega)) ?_
    refine j_iconst (pc := 19) C (v := 0) d_Lake_hasGate_19 (by decide) ?_
    exact j_iret (pc := 20) C hr (by decide) () (Or.inr ⟨rfl, by omega⟩) [0, 1] rfl (by decide) (by decide) (by decide) d_Lake_hasGate_20
  · refine j_icmp_geF (pc := 12) C (tgt := 19) d_Lake_hasGate_12 (by decide) (show ¬ nI (gt.s 9) ≤ nI vq from nI_ge (by omega) (by omega)) ?_
    refine j_iconst (pc := 15) C (v := 1) d_Lake_hasGate_15 (by decide) ?_
    refine j_goto (pc := 16) C (tgt := 20) d_Lake_hasGate_16 (by decide) ?_
    exact j_iret (pc := 20) C hr (by decide) () (Or.inl ⟨rfl, by omega⟩) [0, 1] rfl (by decide) (by decide) (by decide) d_Lake_hasGate_20
set_option maxHeartbeats 4000000 in
set_option maxRecDepth 100000 in
theorem c_yhasVillage_m (l : Launch) (D : va_G) (y : Nat → ClassId) (ad : Nat → Nat) (d : LD) (gt : LA_) (hlk : LKR gt d) : CT l D y ⟨"NineBoards$Lake", "hasVillage", "(I)Z"⟩ prog_5_method_4_code 2 (some .boolean) ({ frames := 0, cells := 0, slots := 0, locals := 0 } : Room) [.ref (ad 0), .int (-1)] [(ad 0, .inr (2, [.int (d.1 0), .int (d.1 1), .int (d.1 2), .int (d.1 3), .ref (ad 1), .int (d.1 4), .ref (ad 11), .ref (ad 12), .ref (ad 2), .ref (ad 3), .int (d.1 5), .int (d.1 6), .int (d.1 7), .int (d.1 8)]))] (QI D [(ad 0, .inr (2, [.int (d.1 0), .int (d.1 1), .int (d.1 2), .int (d.1 3), .ref (ad 1), .int (d.1 4), .ref (ad 11), .ref (ad 12), .ref (ad 2), .ref (ad 3), .int (d.1 5), .int (d.1 6), .int (d.1 7), .int (d.1 8)]))] (fun (r : Int32) (u : Unit) => r = 0) (fun _ => [(ad 0, .inr (2, [.int (d.1 0), .int (d.1 1), .int (d.1 2), .int (d.1 3), .ref (ad 1), .int (d.1 4), .ref (ad 11), .ref (ad 12), .ref (ad 2), .ref (ad 3), .int (d.1 5), .int (d.1 6), .int (d.1 7), .int (d.1 8)]))])) := by
  refine CT.of (by decide) (nb rfl) ?_
  intro p e s m args below meth c C hr
  refine j_lv (lv' := [(0, .ref (ad 0)), (1, .int (-1))]) rfl ?_
  obtain ⟨b9, b4, b10, b11⟩ := lk_b hlk
  obtain ⟨b1, b1x, b2, b2x, b3, b5, b6, b7, b8⟩ := lk_n hlk
  refine j_iload_n (pc := 0) C d_Lake_hasVillage_0 rfl 1 rfl ?_
  refine j_if_ltT (pc := 1) C (tgt := 16) d_Lake_hasVillage_1 (by decide) (by decide) ?_
  refine j_iconst (pc := 16) C (v := 0) d_Lake_hasVillage_16 (by decide) ?_
  exact j_iret (pc := 17) C hr (by decide) () rfl [0] rfl (by decide) (by decide) (by decide) d_Lake_hasVillage_17
set_option maxHeartbeats 4000000 in
set_option maxRecDepth 100000 in
theorem c_xfits (l : Launch) (D : va_G) (y : Nat → ClassId) (bq : Nat) (aq : Nat) (lw : Nat) (hb : bq ≤ 1000) (ha : aq = 1 ∨ aq = 2) (hlw : lw ≤ 3) : CT l D y ⟨"NineBoards$Days", "fits", "(III)Z"⟩ prog_3_method_3_code 5 (some .boolean) ({ frames := 0, cells := 0, slots := 0, locals := 0 } : Room) [.int (nI bq), .int (nI aq), .int (nI lw)] [] (QI D [] (fun (r : Int32) (u : Unit) => ((r = 1 ∧ (fitT lw aq bq)) ∨ (r = 0 ∧ ¬ (fitT lw aq bq)))) (fun _ => [])) := by
  refine CT.of (by decide) (nb rfl) ?_
  intro p e s m args below meth c C hr
  refine j_lv (lv' := [(0, .int (nI bq)), (1, .int (nI aq)), (2, .int (nI lw))]) rfl ?_
  refine j_iload_n (pc := 0) C d_Days_fits_0 rfl 2 rfl ?_
  refine j_iconst (pc := 1) C (v := 2) d_Days_fits_1 (by decide) ?_
  by_cases c1 : ¬ lw = 2
  · refine j_icmp_neT (pc := 2) C (tgt := 9) d_Days_fits_2 (by decide) (show ¬ nI lw = nI 2 from fun e => absurd ((nI_eq (by omega) (by omega)).mp e) (by omega)) ?_
    refine j_iconst (pc := 9) C (v := 0) d_Days_fits_9 (by decide) ?_
    refine j_istore_n (pc := 10) C (lv' := [(3, .int 0), (0, .int (nI bq)), (1, .int (nI aq)), (2, .int (nI lw))]) d_Days_fits_10 rfl (by decide) rfl ?_
    refine j_iload_n (pc := 11) C d_Days_fits_11 rfl 3 rfl ?_
    refine j_iconst (pc := 12) C (v := 2) d_Days_fits_12 (by decide) ?_
    by_cases c2 : ¬ lw = 2
    · refine j_icmp_neT (pc := 13) C (tgt := 21) d_Days_fits_13 (by decide) (show ¬ nI lw = nI 2 from fun e => absurd ((nI_eq (by omega) (by omega)).mp e) (by omega)) ?_
      refine j_bipush (pc := 21) C (v := 20) d_Days_fits_21 (by decide) ?_
      refine j_istore (pc := 23) C (lv' := [(4, .int 20), (3, .int 0), (0, .int (nI bq)), (1, .int (nI aq)), (2, .int (nI lw))]) d_Days_fits_23 (by decide) rfl ?_
      refine j_iload_n (pc := 25) C d_Days_fits_25 rfl 3 rfl ?_
      refine j_iconst (pc := 26) C (v := 1) d_Days_fits_26 (by decide) ?_
      by_cases c3 : ¬ aq = 1
      · refine j_icmp_neT (pc := 27) C (tgt := 45) d_Days_fits_27 (by decide) (show ¬ nI aq = nI 1 from fun e => absurd ((nI_eq (by omega) (by omega)).mp e) (by omega)) ?_
        refine j_iload_n (pc := 45) C d_Days_fits_45 rfl 2 rfl ?_
        refine j_iconst (pc := 46) C (v := 1) d_Days_fits_46 (by decide) ?_
        refine j_iadd (pc := 47) C (v := nI (bq + 1)) d_Days_fits_47 (nI_add _ _) ?_
        refine j_iload (pc := 48) C d_Days_fits_48 0 rfl ?_
        by_cases c4 : 20 < (bq + 1)
        · refine j_icmp_gtT (pc := 50) C (tgt := 57) d_Days_fits_50 (by decide) (show nI 20 < nI (bq + 1) from nI_lt (by omega) (by omega)) ?_
          refine j_iconst (pc := 57) C (v := 0) d_Days_fits_57 (by decide) ?_
          exact j_iret (pc := 58) C hr (by decide) () (Or.inr ⟨rfl, by omega⟩) [] rfl (by decide) (by decide) (by decide) d_Days_fits_58
        · refine j_icmp_gtF (pc := 50) C (tgt := 57) d_Days_fits_50 (by decide) (show ¬ nI 20 < nI (bq + 1) from nI_nlt (by omega) (by omega)) ?_
          refine j_iconst (pc := 53) C (v := 1) d_Days_fits_53 (by decide) ?_
          refine j_goto (pc := 54) C (tgt := 58) d_Days_fits_54 (by decide) ?_
          exact j_iret (pc := 58) C hr (by decide) () (Or.inl ⟨rfl, by omega⟩) [] rfl (by decide) (by decide) (by decide) d_Days_fits_58
      · refine j_icmp_neF (pc := 27) C (tgt := 45) d_Days_fits_27 (by decide) (show nI aq = nI 1 from (nI_eq (by omega) (by omega)).mpr (by omega)) ?_
        refine j_iload_n (pc := 30) C d_Days_fits_30 rfl 2 rfl ?_
        refine j_iconst (pc := 31) C (v := 1) d_Days_fits_31 (by decide) ?_
        refine j_isub (pc := 32) C (v := zI ((bq : Nat) - (1 : Nat) : Int)) d_Days_fits_32 (zI_sub ((bq : Nat) : Int) ((1 : Nat) : Int)) ?_
        refine j_iload_n (pc := 33) C d_Days_fits_33 rfl 1 rfl ?_
        by_cases c5 : bq < 1 + 0
        · refine j_icmp_ltT (pc := 34) C (tgt := 41) d_Days_fits_34 (by decide) (show zI ((bq : Nat) - (1 : Nat) : Int) < nI 0 from zs_lt (by omega) (by omega) (by omega) (by omega)) ?_
          refine j_iconst (pc := 41) C (v := 0) d_Days_fits_41 (by decide) ?_
          refine j_goto (pc := 42) C (tgt := 58) d_Days_fits_42 (by decide) ?_
          exact j_iret (pc := 58) C hr (by decide) () (Or.inr ⟨rfl, by omega⟩) [] rfl (by decide) (by decide) (by decide) d_Days_fits_58
        · refine j_icmp_ltF (pc := 34) C (tgt := 41) d_Days_fits_34 (by decide) (show ¬ zI ((bq : Nat) - (1 : Nat) : Int) < nI 0 from zs_nlt (by omega) (by omega) (by omega) (by omega)) ?_
          refine j_iconst (pc := 37) C (v := 1) d_Days_fits_37 (by decide) ?_
          refine j_goto (pc := 38) C (tgt := 58) d_Days_fits_38 (by decide) ?_
          exact j_iret (pc := 58) C hr (by decide) () (Or.inl ⟨rfl, by omega⟩) [] rfl (by decide) (by decide) (by decide) d_Days_fits_58
    · refine j_icmp_neF (pc := 13) C (tgt := 21) d_Days_fits_13 (by decide) (show nI lw = nI 2 from (nI_eq (by omega) (by omega)).mpr (by omega)) ?_
      refine j_bipush (pc := 16) C (v := 9) d_Days_fits_16 (by decide) ?_
      refine j_goto (pc := 18) C (tgt := 23) d_Days_fits_18 (by decide) ?_
      refine j_istore (pc := 23) C (lv' := [(4, .int 9), (3, .int 0), (0, .int (nI bq)), (1, .int (nI aq)), (2, .int (nI lw))]) d_Days_fits_23 (by decide) rfl ?_
      refine j_iload_n (pc := 25) C d_Days_fits_25 rfl 3 rfl ?_
      refine j_iconst (pc := 26) C (v := 1) d_Days_fits_26 (by decide) ?_
      by_cases c6 : ¬ aq = 1
      · refine j_icmp_neT (pc := 27) C (tgt := 45) d_Days_fits_27 (by decide) (show ¬ nI aq = nI 1 from fun e => absurd ((nI_eq (by omega) (by omega)).mp e) (by omega)) ?_
        refine j_iload_n (pc := 45) C d_Days_fits_45 rfl 2 rfl ?_
        refine j_iconst (pc := 46) C (v := 1) d_Days_fits_46 (by decide) ?_
        refine j_iadd (pc := 47) C (v := nI (bq + 1)) d_Days_fits_47 (nI_add _ _) ?_
        refine j_iload (pc := 48) C d_Days_fits_48 0 rfl ?_
        by_cases c7 : 9 < (bq + 1)
        · refine j_icmp_gtT (pc := 50) C (tgt := 57) d_Days_fits_50 (by decide) (show nI 9 < nI (bq + 1) from nI_lt (by omega) (by omega)) ?_
          refine j_iconst (pc := 57) C (v := 0) d_Days_fits_57 (by decide) ?_
          exact j_iret (pc := 58) C hr (by decide) () (Or.inr ⟨rfl, by omega⟩) [] rfl (by decide) (by decide) (by decide) d_Days_fits_58
        · refine j_icmp_gtF (pc := 50) C (tgt := 57) d_Days_fits_50 (by decide) (show ¬ nI 9 < nI (bq + 1) from nI_nlt (by omega) (by omega)) ?_
          refine j_iconst (pc := 53) C (v := 1) d_Days_fits_53 (by decide) ?_
          refine j_goto (pc := 54) C (tgt := 58) d_Days_fits_54 (by decide) ?_
          exact j_iret (pc := 58) C hr (by decide) () (Or.inl ⟨rfl, by omega⟩) [] rfl (by decide) (by decide) (by decide) d_Days_fits_58
      · refine j_icmp_neF (pc := 27) C (tgt := 45) d_Days_fits_27 (by decide) (show nI aq = nI 1 from (nI_eq (by omega) (by omega)).mpr (by omega)) ?_
        refine j_iload_n (pc := 30) C d_Days_fits_30 rfl 2 rfl ?_
        refine j_iconst (pc := 31) C (v := 1) d_Days_fits_31 (by decide) ?_
        refine j_isub (pc := 32) C (v := zI ((bq : Nat) - (1 : Nat) : Int)) d_Days_fits_32 (zI_sub ((bq : Nat) : Int) ((1 : Nat) : Int)) ?_
        refine j_iload_n (pc := 33) C d_Days_fits_33 rfl 1 rfl ?_
        by_cases c8 : bq < 1 + 0
        · refine j_icmp_ltT (pc := 34) C (tgt := 41) d_Days_fits_34 (by decide) (show zI ((bq : Nat) - (1 : Nat) : Int) < nI 0 from zs_lt (by omega) (by omega) (by omega) (by omega)) ?_
          refine j_iconst (pc := 41) C (v := 0) d_Days_fits_41 (by decide) ?_
          refine j_goto (pc := 42) C (tgt := 58) d_Days_fits_42 (by decide) ?_
          exact j_iret (pc := 58) C hr (by decide) () (Or.inr ⟨rfl, by omega⟩) [] rfl (by decide) (by decide) (by decide) d_Days_fits_58
        · refine j_icmp_ltF (pc := 34) C (tgt := 41) d_Days_fits_34 (by decide) (show ¬ zI ((bq : Nat) - (1 : Nat) : Int) < nI 0 from zs_nlt (by omega) (by omega) (by omega) (by omega)) ?_
          refine j_iconst (pc := 37) C (v := 1) d_Days_fits_37 (by decide) ?_
          refine j_goto (pc := 38) C (tgt := 58) d_Days_fits_38 (by decide) ?_
          exact j_iret (pc := 58) C hr (by decide) () (Or.inl ⟨rfl, by omega⟩) [] rfl (by decide) (by decide) (by decide) d_Days_fits_58
  · refine j_icmp_neF (pc := 2) C (tgt := 9) d_Days_fits_2 (by decide) (show nI lw = nI 2 from (nI_eq (by omega) (by omega)).mpr (by omega)) ?_
    refine j_iconst (pc := 5) C (v := 1) d_Days_fits_5 (by decide) ?_
    refine j_goto (pc := 6) C (tgt := 10) d_Days_fits_6 (by decide) ?_
    refine j_istore_n (pc := 10) C (lv' := [(3, .int 1), (0, .int (nI bq)), (1, .int (nI aq)), (2, .int (nI lw))]) d_Days_fits_10 rfl (by decide) rfl ?_
    refine j_iload_n (pc := 11) C d_Days_fits_11 rfl 3 rfl ?_
    refine j_iconst (pc := 12) C (v := 2) d_Days_fits_12 (by decide) ?_
    by_cases c9 : ¬ lw = 2
    · refine j_icmp_neT (pc := 13) C (tgt := 21) d_Days_fits_13 (by decide) (show ¬ nI lw = nI 2 from fun e => absurd ((nI_eq (by omega) (by omega)).mp e) (by omega)) ?_
      refine j_bipush (pc := 21) C (v := 20) d_Days_fits_21 (by decide) ?_
      refine j_istore (pc := 23) C (lv' := [(4, .int 20), (3, .int 1), (0, .int (nI bq)), (1, .int (nI aq)), (2, .int (nI lw))]) d_Days_fits_23 (by decide) rfl ?_
      refine j_iload_n (pc := 25) C d_Days_fits_25 rfl 3 rfl ?_
      refine j_iconst (pc := 26) C (v := 1) d_Days_fits_26 (by decide) ?_
      by_cases c10 : ¬ aq = 1
      · refine j_icmp_neT (pc := 27) C (tgt := 45) d_Days_fits_27 (by decide) (show ¬ nI aq = nI 1 from fun e => absurd ((nI_eq (by omega) (by omega)).mp e) (by omega)) ?_
        refine j_iload_n (pc := 45) C d_Days_fits_45 rfl 2 rfl ?_
        refine j_iconst (pc := 46) C (v := 1) d_Days_fits_46 (by decide) ?_
        refine j_iadd (pc := 47) C (v := nI (bq + 1)) d_Days_fits_47 (nI_add _ _) ?_
        refine j_iload (pc := 48) C d_Days_fits_48 0 rfl ?_
        by_cases c11 : 20 < (bq + 1)
        · refine j_icmp_gtT (pc := 50) C (tgt := 57) d_Days_fits_50 (by decide) (show nI 20 < nI (bq + 1) from nI_lt (by omega) (by omega)) ?_
          refine j_iconst (pc := 57) C (v := 0) d_Days_fits_57 (by decide) ?_
          exact j_iret (pc := 58) C hr (by decide) () (Or.inr ⟨rfl, by omega⟩) [] rfl (by decide) (by decide) (by decide) d_Days_fits_58
        · refine j_icmp_gtF (pc := 50) C (tgt := 57) d_Days_fits_50 (by decide) (show ¬ nI 20 < nI (bq + 1) from nI_nlt (by omega) (by omega)) ?_
          refine j_iconst (pc := 53) C (v := 1) d_Days_fits_53 (by decide) ?_
          refine j_goto (pc := 54) C (tgt := 58) d_Days_fits_54 (by decide) ?_
          exact j_iret (pc := 58) C hr (by decide) () (Or.inl ⟨rfl, by omega⟩) [] rfl (by decide) (by decide) (by decide) d_Days_fits_58
      · refine j_icmp_neF (pc := 27) C (tgt := 45) d_Days_fits_27 (by decide) (show nI aq = nI 1 from (nI_eq (by omega) (by omega)).mpr (by omega)) ?_
        refine j_iload_n (pc := 30) C d_Days_fits_30 rfl 2 rfl ?_
        refine j_iconst (pc := 31) C (v := 1) d_Days_fits_31 (by decide) ?_
        refine j_isub (pc := 32) C (v := zI ((bq : Nat) - (1 : Nat) : Int)) d_Days_fits_32 (zI_sub ((bq : Nat) : Int) ((1 : Nat) : Int)) ?_
        refine j_iload_n (pc := 33) C d_Days_fits_33 rfl 1 rfl ?_
        by_cases c12 : bq < 1 + 1
        · refine j_icmp_ltT (pc := 34) C (tgt := 41) d_Days_fits_34 (by decide) (show zI ((bq : Nat) - (1 : Nat) : Int) < nI 1 from zs_lt (by omega) (by omega) (by omega) (by omega)) ?_
          refine j_iconst (pc := 41) C (v := 0) d_Days_fits_41 (by decide) ?_
          refine j_goto (pc := 42) C (tgt := 58) d_Days_fits_42 (by decide) ?_
          exact j_iret (pc := 58) C hr (by decide) () (Or.inr ⟨rfl, by omega⟩) [] rfl (by decide) (by decide) (by decide) d_Days_fits_58
        · refine j_icmp_ltF (pc := 34) C (tgt := 41) d_Days_fits_34 (by decide) (show ¬ zI ((bq : Nat) - (1 : Nat) : Int) < nI 1 from zs_nlt (by omega) (by omega) (by omega) (by omega)) ?_
          refine j_iconst (pc := 37) C (v := 1) d_Days_fits_37 (by decide) ?_
          refine j_goto (pc := 38) C (tgt := 58) d_Days_fits_38 (by decide) ?_
          exact j_iret (pc := 58) C hr (by decide) () (Or.inl ⟨rfl, by omega⟩) [] rfl (by decide) (by decide) (by decide) d_Days_fits_58
    · refine j_icmp_neF (pc := 13) C (tgt := 21) d_Days_fits_13 (by decide) (show nI lw = nI 2 from (nI_eq (by omega) (by omega)).mpr (by omega)) ?_
      refine j_bipush (pc := 16) C (v := 9) d_Days_fits_16 (by decide) ?_
      refine j_goto (pc := 18) C (tgt := 23) d_Days_fits_18 (by decide) ?_
      refine j_istore (pc := 23) C (lv' := [(4, .int 9), (3, .int 1), (0, .int (nI bq)), (1, .int (nI aq)), (2, .int (nI lw))]) d_Days_fits_23 (by decide) rfl ?_
      refine j_iload_n (pc := 25) C d_Days_fits_25 rfl 3 rfl ?_
      refine j_iconst (pc := 26) C (v := 1) d_Days_fits_26 (by decide) ?_
      by_cases c13 : ¬ aq = 1
      · refine j_icmp_neT (pc := 27) C (tgt := 45) d_Days_fits_27 (by decide) (show ¬ nI aq = nI 1 from fun e => absurd ((nI_eq (by omega) (by omega)).mp e) (by omega)) ?_
        refine j_iload_n (pc := 45) C d_Days_fits_45 rfl 2 rfl ?_
        refine j_iconst (pc := 46) C (v := 1) d_Days_fits_46 (by decide) ?_
        refine j_iadd (pc := 47) C (v := nI (bq + 1)) d_Days_fits_47 (nI_add _ _) ?_
        refine j_iload (pc := 48) C d_Days_fits_48 0 rfl ?_
        by_cases c14 : 9 < (bq + 1)
        · refine j_icmp_gtT (pc := 50) C (tgt := 57) d_Days_fits_50 (by decide) (show nI 9 < nI (bq + 1) from nI_lt (by omega) (by omega)) ?_
          refine j_iconst (pc := 57) C (v := 0) d_Days_fits_57 (by decide) ?_
          exact j_iret (pc := 58) C hr (by decide) () (Or.inr ⟨rfl, by omega⟩) [] rfl (by decide) (by decide) (by decide) d_Days_fits_58
        · refine j_icmp_gtF (pc := 50) C (tgt := 57) d_Days_fits_50 (by decide) (show ¬ nI 9 < nI (bq + 1) from nI_nlt (by omega) (by omega)) ?_
          refine j_iconst (pc := 53) C (v := 1) d_Days_fits_53 (by decide) ?_
          refine j_goto (pc := 54) C (tgt := 58) d_Days_fits_54 (by decide) ?_
          exact j_iret (pc := 58) C hr (by decide) () (Or.inl ⟨rfl, by omega⟩) [] rfl (by decide) (by decide) (by decide) d_Days_fits_58
      · refine j_icmp_neF (pc := 27) C (tgt := 45) d_Days_fits_27 (by decide) (show nI aq = nI 1 from (nI_eq (by omega) (by omega)).mpr (by omega)) ?_
        refine j_iload_n (pc := 30) C d_Days_fits_30 rfl 2 rfl ?_
        refine j_iconst (pc := 31) C (v := 1) d_Days_fits_31 (by decide) ?_
        refine j_isub (pc := 32) C (v := zI ((bq : Nat) - (1 : Nat) : Int)) d_Days_fits_32 (zI_sub ((bq : Nat) : Int) ((1 : Nat) : Int)) ?_
        refine j_iload_n (pc := 33) C d_Days_fits_33 rfl 1 rfl ?_
        by_cases c15 : bq < 1 + 1
        · refine j_icmp_ltT (pc := 34) C (tgt := 41) d_Days_fits_34 (by decide) (show zI ((bq : Nat) - (1 : Nat) : Int) < nI 1 from zs_lt (by omega) (by omega) (by omega) (by omega)) ?_
          refine j_iconst (pc := 41) C (v := 0) d_Days_fits_41 (by decide) ?_
          refine j_goto (pc := 42) C (tgt := 58) d_Days_fits_42 (by decide) ?_
          exact j_iret (pc := 58) C hr (by decide) () (Or.inr ⟨rfl, by omega⟩) [] rfl (by decide) (by decide) (by decide) d_Days_fits_58
        · refine j_icmp_ltF (pc := 34) C (tgt := 41) d_Days_fits_34 (by decide) (show ¬ zI ((bq : Nat) - (1 : Nat) : Int) < nI 1 from zs_nlt (by omega) (by omega) (by omega) (by omega)) ?_
          refine j_iconst (pc := 37) C (v := 1) d_Days_fits_37 (by decide) ?_
          refine j_goto (pc := 38) C (tgt := 58) d_Days_fits_38 (by decide) ?_
          exact j_iret (pc := 58) C hr (by decide) () (Or.inl ⟨rfl, by omega⟩) [] rfl (by decide) (by decide) (by decide) d_Days_fits_58
set_option maxHeartbeats 4000000 in
set_option maxRecDepth 100000 in
theorem c_xallows (l : Launch) (D : va_G) (y : Nat → ClassId) (ad : Nat → Nat) (d : LD) (gt : LA_) (h : Nat) (sa : Nat → Nat) (dy : Nat) (wa : Nat) (la : Nat) (f0 : Nat → Int32) (bd : Nat → Nat) (vq : Nat) (aq : Nat) (lw : Nat) (hlk : LKR gt d) (x0 : XW 9 f0 bd) (hbd : BN (gt.s 9) bd 20) (hv : vq < 2147483648) (ha : aq ≤ 2) (hlw : lw ≤ 3) (hla : la ≤ 2) : CT l D y ⟨"NineBoards$Days", "allows", "(LNineBoards$Lake;LNineBoards$State;III)Z"⟩ prog_3_method_2_code 7 (some .boolean) ({ frames := 1, cells := 0, slots := 0, locals := 24 } : Room) [.ref (ad 0), .ref h, .int (nI vq), .int (nI aq), .int (nI lw)] [(ad 0, .inr (2, [.int (d.1 0), .int (d.1 1), .int (d.1 2), .int (d.1 3), .ref (ad 1), .int (d.1 4), .ref (ad 11), .ref (ad 12), .ref (ad 2), .ref (ad 3), .int (d.1 5), .int (d.1 6), .int (d.1 7), .int (d.1 8)])), (ad 1, .inr (1, [.int (d.1 9), .ref (ad 4), .ref (ad 5), .ref (ad 6), .ref (ad 7), .ref (ad 8), .ref (ad 9), .ref (ad 10)])), (ad 10, .inl (y 0, 9, .inl (d.2 6))), (ad 12, .inl (y 0, 6, .inl (d.2 8))), (h, .inr (7, [.int (nI dy), .int (nI wa), .int (nI la), .ref (sa 0), .ref (sa 1), .ref (sa 2), .ref (sa 3), .ref (sa 4), .ref (sa 5), .ref (sa 6)])), (sa 0, .inl (y 0, 9, .inl f0))] (QI D [(ad 0, .inr (2, [.int (d.1 0), .int (d.1 1), .int (d.1 2), .int (d.1 3), .ref (ad 1), .int (d.1 4), .ref (ad 11), .ref (ad 12), .ref (ad 2), .ref (ad 3), .int (d.1 5), .int (d.1 6), .int (d.1 7), .int (d.1 8)])), (ad 1, .inr (1, [.int (d.1 9), .ref (ad 4), .ref (ad 5), .ref (ad 6), .ref (ad 7), .ref (ad 8), .ref (ad 9), .ref (ad 10)])), (ad 10, .inl (y 0, 9, .inl (d.2 6))), (ad 12, .inl (y 0, 6, .inl (d.2 8))), (h, .inr (7, [.int (nI dy), .int (nI wa), .int (nI la), .ref (sa 0), .ref (sa 1), .ref (sa 2), .ref (sa 3), .ref (sa 4), .ref (sa 5), .ref (sa 6)])), (sa 0, .inl (y 0, 9, .inl f0))] (fun (r : Int32) (u : Unit) => ((r = 1 ∧ (alwT gt bd la lw aq vq)) ∨ (r = 0 ∧ ¬ (alwT gt bd la lw aq vq)))) (fun _ => [(ad 0, .inr (2, [.int (d.1 0), .int (d.1 1), .int (d.1 2), .int (d.1 3), .ref (ad 1), .int (d.1 4), .ref (ad 11), .ref (ad 12), .ref (ad 2), .ref (ad 3), .int (d.1 5), .int (d.1 6), .int (d.1 7), .int (d.1 8)])), (ad 1, .inr (1, [.int (d.1 9), .ref (ad 4), .ref (ad 5), .ref (ad 6), .ref (ad 7), .ref (ad 8), .ref (ad 9), .ref (ad 10)])), (ad 10, .inl (y 0, 9, .inl (d.2 6))), (ad 12, .inl (y 0, 6, .inl (d.2 8))), (h, .inr (7, [.int (nI dy), .int (nI wa), .int (nI la), .ref (sa 0), .ref (sa 1), .ref (sa 2), .ref (sa 3), .ref (sa 4), .ref (sa 5), .ref (sa 6)])), (sa 0, .inl (y 0, 9, .inl f0))])) := by
  refine CT.of (by decide) (nb rfl) ?_
  intro p e s m args below meth c C hr
  refine j_lv (lv' := [(0, .ref (ad 0)), (1, .ref h), (2, .int (nI vq)), (3, .int (nI aq)), (4, .int (nI lw))]) rfl ?_
  obtain ⟨b9, b4, b10, b11⟩ := lk_b hlk
  obtain ⟨b1, b1x, b2, b2x, b3, b5, b6, b7, b8⟩ := lk_n hlk
  have hk8 : XW (gt.s 4) (d.2 8) (gt.r 8) := lk_v hlk
  refine j_iload_n (pc := 0) C d_Days_allows_0 rfl 3 rfl ?_
  by_cases c1 : ¬ aq = 0
  · refine j_if_neT (pc := 1) C (tgt := 6) d_Days_allows_1 (by decide) (show ¬ nI aq = nI 0 from fun e => absurd ((nI_eq (by omega) (by omega)).mp e) (by omega)) ?_
    refine j_iload_n (pc := 6) C d_Days_allows_6 rfl 3 rfl ?_
    refine j_iconst (pc := 7) C (v := 1) d_Days_allows_7 (by decide) ?_
    by_cases c2 : aq = 1
    · refine j_icmp_eqT (pc := 8) C (tgt := 16) d_Days_allows_8 (by decide) (show nI aq = nI 1 from (nI_eq (by omega) (by omega)).mpr (by omega)) ?_
      refine j_aload_n (pc := 16) C d_Days_allows_16 rfl 0 rfl ?_
      refine j_iload_n (pc := 17) C d_Days_allows_17 rfl 2 rfl ?_
      refine j_callVi (pc := 18) C (c_yhasVillage l D y ad d gt vq hlk hv) kw_Days_9 kv_Lake_hasVillage 0 2 rfl rfl ⟨by decide, by decide⟩ ⟨by decide, by decide⟩ (wr := [(ad 1, .inr (1, [.int (d.1 9), .ref (ad 4), .ref (ad 5), .ref (ad 6), .ref (ad 7), .ref (ad 8), .ref (ad 9), .ref (ad 10)])), (ad 10, .inl (y 0, 9, .inl (d.2 6))), (ad 12, .inl (y 0, 6, .inl (d.2 8))), (h, .inr (7, [.int (nI dy), .int (nI wa), .int (nI la), .ref (sa 0), .ref (sa 1), .ref (sa 2), .ref (sa 3), .ref (sa 4), .ref (sa 5), .ref (sa 6)])), (sa 0, .inl (y 0, 9, .inl f0))]) [0] [1, 2, 3, 4, 5] rfl rfl (by decide +kernel) (by decide +kernel) (by decide +kernel) (As := [.int (nI vq)]) (rest := []) rfl (nb rfl) rfl d_Days_allows_18 (fun r3 _ hr3 => ?_)
      refine j_ws (ws' := [(ad 1, .inr (1, [.int (d.1 9), .ref (ad 4), .ref (ad 5), .ref (ad 6), .ref (ad 7), .ref (ad 8), .ref (ad 9), .ref (ad 10)])), (ad 10, .inl (y 0, 9, .inl (d.2 6))), (ad 12, .inl (y 0, 6, .inl (d.2 8))), (h, .inr (7, [.int (nI dy), .int (nI wa), .int (nI la), .ref (sa 0), .ref (sa 1), .ref (sa 2), .ref (sa 3), .ref (sa 4), .ref (sa 5), .ref (sa 6)])), (sa 0, .inl (y 0, 9, .inl f0)), (ad 0, .inr (2, [.int (d.1 0), .int (d.1 1), .int (d.1 2), .int (d.1 3), .ref (ad 1), .int (d.1 4), .ref (ad 11), .ref (ad 12), .ref (ad 2), .ref (ad 3), .int (d.1 5), .int (d.1 6), .int (d.1 7), .int (d.1 8)]))]) rfl ?_
      rcases hr3 with ⟨rfl, xh5⟩ | ⟨rfl, xh6⟩
      · refine j_if_eqF (pc := 21) C (tgt := 30) d_Days_allows_21 (by decide) (by decide) ?_
        refine j_iload (pc := 24) C d_Days_allows_24 4 rfl ?_
        refine j_iconst (pc := 26) C (v := 3) d_Days_allows_26 (by decide) ?_
        by_cases c7 : ¬ lw = 3
        · refine j_icmp_neT (pc := 27) C (tgt := 32) d_Days_allows_27 (by decide) (show ¬ nI lw = nI 3 from fun e => absurd ((nI_eq (by omega) (by omega)).mp e) (by omega)) ?_
          refine j_iload (pc := 32) C d_Days_allows_32 4 rfl ?_
          by_cases c8 : ¬ lw = 0
          · refine j_if_neT (pc := 34) C (tgt := 47) d_Days_allows_34 (by decide) (show ¬ nI lw = nI 0 from fun e => absurd ((nI_eq (by omega) (by omega)).mp e) (by omega)) ?_
            refine j_aload_n (pc := 47) C d_Days_allows_47 rfl 0 rfl ?_
            refine j_get (pc := 48) C gf_Days_21 5 rfl rfl d_Days_allows_48 ?_
            refine j_iload_n (pc := 51) C d_Days_allows_51 rfl 2 rfl ?_
            have xh9 : gt.r 8 vq < gt.s 9 := lk_vb hlk vq (by omega)
            refine j_iald (pc := 52) C 2 rfl (v := nI ((gt.r 8) vq)) (vp_in_nI (by omega) (by decide)) (by rw [nI_clamp (by omega)]; exact (hk8 vq (by omega))) d_Days_allows_52 ?_
            refine j_istore (pc := 53) C (lv' := [(5, .int (nI ((gt.r 8) vq))), (0, .ref (ad 0)), (1, .ref h), (2, .int (nI vq)), (3, .int (nI aq)), (4, .int (nI lw))]) d_Days_allows_53 (by decide) rfl ?_
            refine j_aload_n (pc := 55) C d_Days_allows_55 rfl 1 rfl ?_
            refine j_get (pc := 56) C gf_Days_25 5 rfl rfl d_Days_allows_56 ?_
            refine j_get (pc := 59) C gf_Days_29 0 rfl rfl d_Days_allows_59 ?_
            refine j_iload (pc := 62) C d_Days_allows_62 0 rfl ?_
            have xh10 := lk_j hlk ((gt.r 8) vq) (by omega)
            obtain ⟨xh10a, xh10b, xh10c⟩ := xh10
            by_cases e11 : gt.r 6 ((gt.r 8) vq) = 0
            · refine j_iald (pc := 64) C 1 rfl (v := (-1)) (vp_in_nI (by omega) (by decide)) (by rw [nI_clamp (by omega)]; exact (xh10a.trans (if_pos e11))) d_Days_allows_64 ?_
              refine j_istore (pc := 65) C (lv' := [(6, .int (-1)), (5, .int (nI ((gt.r 8) vq))), (0, .ref (ad 0)), (1, .ref h), (2, .int (nI vq)), (3, .int (nI aq)), (4, .int (nI lw))]) d_Days_allows_65 (by decide) rfl ?_
              refine j_aload_n (pc := 67) C d_Days_allows_67 rfl 3 rfl ?_
              refine j_get (pc := 68) C gf_Days_34 3 rfl rfl d_Days_allows_68 ?_
              refine j_iload (pc := 71) C d_Days_allows_71 1 rfl ?_
              have xh12 : bd ((gt.r 8) vq) ≤ 20 := hbd ((gt.r 8) vq) (by omega)
              refine j_iald (pc := 73) C 4 rfl (v := nI (bd ((gt.r 8) vq))) (vp_in_nI (by omega) (by decide)) (by rw [nI_clamp (by omega)]; exact (x0 ((gt.r 8) vq) (by omega))) d_Days_allows_73 ?_
              refine j_iload_n (pc := 74) C d_Days_allows_74 rfl 5 rfl ?_
              refine j_iload (pc := 75) C d_Days_allows_75 6 rfl ?_
              refine j_callSi (pc := 77) C (c_xfits l D y (bd ((gt.r 8) vq)) aq lw (by omega) (by omega) hlw) kw_Days_37 ks_Days_fits ⟨by decide, by decide⟩ ⟨by decide, by decide⟩ (wr := [(ad 1, .inr (1, [.int (d.1 9), .ref (ad 4), .ref (ad 5), .ref (ad 6), .ref (ad 7), .ref (ad 8), .ref (ad 9), .ref (ad 10)])), (ad 10, .inl (y 0, 9, .inl (d.2 6))), (ad 12, .inl (y 0, 6, .inl (d.2 8))), (h, .inr (7, [.int (nI dy), .int (nI wa), .int (nI la), .ref (sa 0), .ref (sa 1), .ref (sa 2), .ref (sa 3), .ref (sa 4), .ref (sa 5), .ref (sa 6)])), (sa 0, .inl (y 0, 9, .inl f0)), (ad 0, .inr (2, [.int (d.1 0), .int (d.1 1), .int (d.1 2), .int (d.1 3), .ref (ad 1), .int (d.1 4), .ref (ad 11), .ref (ad 12), .ref (ad 2), .ref (ad 3), .int (d.1 5), .int (d.1 6), .int (d.1 7), .int (d.1 8)]))]) [] [0, 1, 2, 3, 4, 5] rfl rfl (by decide +kernel) (by decide +kernel) (by decide +kernel) (As := [.int (nI (bd ((gt.r 8) vq))), .int (nI aq), .int (nI lw)]) (rest := []) rfl (nb rfl) rfl d_Days_allows_77 (fun r13 _ hr13 => ?_)
              refine j_ws (ws' := [(ad 1, .inr (1, [.int (d.1 9), .ref (ad 4), .ref (ad 5), .ref (ad 6), .ref (ad 7), .ref (ad 8), .ref (ad 9), .ref (ad 10)])), (ad 10, .inl (y 0, 9, .inl (d.2 6))), (ad 12, .inl (y 0, 6, .inl (d.2 8))), (h, .inr (7, [.int (nI dy), .int (nI wa), .int (nI la), .ref (sa 0), .ref (sa 1), .ref (sa 2), .ref (sa 3), .ref (sa 4), .ref (sa 5), .ref (sa 6)])), (sa 0, .inl (y 0, 9, .inl f0)), (ad 0, .inr (2, [.int (d.1 0), .int (d.1 1), .int (d.1 2), .int (d.1 3), .ref (ad 1), .int (d.1 4), .ref (ad 11), .ref (ad 12), .ref (ad 2), .ref (ad 3), .int (d.1 5), .int (d.1 6), .int (d.1 7), .int (d.1 8)]))]) rfl ?_
              rcases hr13 with ⟨rfl, xh15⟩ | ⟨rfl, xh16⟩
              · refine j_if_eqF (pc := 80) C (tgt := 109) d_Days_allows_80 (by decide) (by decide) ?_
                refine j_iload (pc := 83) C d_Days_allows_83 0 rfl ?_
                refine j_iconst (pc := 85) C (v := (-1)) d_Days_allows_85 (by decide) ?_
                refine j_icmp_eqT (pc := 86) C (tgt := 105) d_Days_allows_86 (by decide) (by decide) ?_
                refine j_iconst (pc := 105) C (v := 1) d_Days_allows_105 (by decide) ?_
                refine j_goto (pc := 106) C (tgt := 110) d_Days_allows_106 (by decide) ?_
                exact j_iret (pc := 110) C hr (by decide) () (Or.inl ⟨rfl, by omega⟩) [5, 0, 1, 2, 3, 4] rfl (by decide) (by decide) (by decide) d_Days_allows_110
              · refine j_if_eqT (pc := 80) C (tgt := 109) d_Days_allows_80 (by decide) (by decide) ?_
                refine j_iconst (pc := 109) C (v := 0) d_Days_allows_109 (by decide) ?_
                exact j_iret (pc := 110) C hr (by decide) () (Or.inr ⟨rfl, by omega⟩) [5, 0, 1, 2, 3, 4] rfl (by decide) (by decide) (by decide) d_Days_allows_110
            · refine j_iald (pc := 64) C 1 rfl (v := nI (gt.r 6 ((gt.r 8) vq) - 1)) (vp_in_nI (by omega) (by decide)) (by rw [nI_clamp (by omega)]; exact (xh10a.trans (if_neg e11))) d_Days_allows_64 ?_
              refine j_istore (pc := 65) C (lv' := [(6, .int (nI (gt.r 6 ((gt.r 8) vq) - 1))), (5, .int (nI ((gt.r 8) vq))), (0, .ref (ad 0)), (1, .ref h), (2, .int (nI vq)), (3, .int (nI aq)), (4, .int (nI lw))]) d_Days_allows_65 (by decide) rfl ?_
              refine j_aload_n (pc := 67) C d_Days_allows_67 rfl 3 rfl ?_
              refine j_get (pc := 68) C gf_Days_34 3 rfl rfl d_Days_allows_68 ?_
              refine j_iload (pc := 71) C d_Days_allows_71 1 rfl ?_
              have xh17 : bd ((gt.r 8) vq) ≤ 20 := hbd ((gt.r 8) vq) (by omega)
              refine j_iald (pc := 73) C 4 rfl (v := nI (bd ((gt.r 8) vq))) (vp_in_nI (by omega) (by decide)) (by rw [nI_clamp (by omega)]; exact (x0 ((gt.r 8) vq) (by omega))) d_Days_allows_73 ?_
              refine j_iload_n (pc := 74) C d_Days_allows_74 rfl 5 rfl ?_
              refine j_iload (pc := 75) C d_Days_allows_75 6 rfl ?_
              refine j_callSi (pc := 77) C (c_xfits l D y (bd ((gt.r 8) vq)) aq lw (by omega) (by omega) hlw) kw_Days_37 ks_Days_fits ⟨by decide, by decide⟩ ⟨by decide, by decide⟩ (wr := [(ad 1, .inr (1, [.int (d.1 9), .ref (ad 4), .ref (ad 5), .ref (ad 6), .ref (ad 7), .ref (ad 8), .ref (ad 9), .ref (ad 10)])), (ad 10, .inl (y 0, 9, .inl (d.2 6))), (ad 12, .inl (y 0, 6, .inl (d.2 8))), (h, .inr (7, [.int (nI dy), .int (nI wa), .int (nI la), .ref (sa 0), .ref (sa 1), .ref (sa 2), .ref (sa 3), .ref (sa 4), .ref (sa 5), .ref (sa 6)])), (sa 0, .inl (y 0, 9, .inl f0)), (ad 0, .inr (2, [.int (d.1 0), .int (d.1 1), .int (d.1 2), .int (d.1 3), .ref (ad 1), .int (d.1 4), .ref (ad 11), .ref (ad 12), .ref (ad 2), .ref (ad 3), .int (d.1 5), .int (d.1 6), .int (d.1 7), .int (d.1 8)]))]) [] [0, 1, 2, 3, 4, 5] rfl rfl (by decide +kernel) (by decide +kernel) (by decide +kernel) (As := [.int (nI (bd ((gt.r 8) vq))), .int (nI aq), .int (nI lw)]) (rest := []) rfl (nb rfl) rfl d_Days_allows_77 (fun r18 _ hr18 => ?_)
              refine j_ws (ws' := [(ad 1, .inr (1, [.int (d.1 9), .ref (ad 4), .ref (ad 5), .ref (ad 6), .ref (ad 7), .ref (ad 8), .ref (ad 9), .ref (ad 10)])), (ad 10, .inl (y 0, 9, .inl (d.2 6))), (ad 12, .inl (y 0, 6, .inl (d.2 8))), (h, .inr (7, [.int (nI dy), .int (nI wa), .int (nI la), .ref (sa 0), .ref (sa 1), .ref (sa 2), .ref (sa 3), .ref (sa 4), .ref (sa 5), .ref (sa 6)])), (sa 0, .inl (y 0, 9, .inl f0)), (ad 0, .inr (2, [.int (d.1 0), .int (d.1 1), .int (d.1 2), .int (d.1 3), .ref (ad 1), .int (d.1 4), .ref (ad 11), .ref (ad 12), .ref (ad 2), .ref (ad 3), .int (d.1 5), .int (d.1 6), .int (d.1 7), .int (d.1 8)]))]) rfl ?_
              rcases hr18 with ⟨rfl, xh20⟩ | ⟨rfl, xh21⟩
              · refine j_if_eqF (pc := 80) C (tgt := 109) d_Days_allows_80 (by decide) (by decide) ?_
                refine j_iload (pc := 83) C d_Days_allows_83 0 rfl ?_
                refine j_iconst (pc := 85) C (v := (-1)) d_Days_allows_85 (by decide) ?_
                refine j_icmp_eqF (pc := 86) C (tgt := 105) d_Days_allows_86 (by decide) (nI_nm1 (by omega)) ?_
                refine j_aload_n (pc := 89) C d_Days_allows_89 rfl 3 rfl ?_
                refine j_get (pc := 90) C gf_Days_34 3 rfl rfl d_Days_allows_90 ?_
                refine j_iload (pc := 93) C d_Days_allows_93 0 rfl ?_
                have xh22 : bd (gt.r 6 ((gt.r 8) vq) - 1) ≤ 20 := hbd (gt.r 6 ((gt.r 8) vq) - 1) (by omega)
                refine j_iald (pc := 95) C 4 rfl (v := nI (bd (gt.r 6 ((gt.r 8) vq) - 1))) (vp_in_nI (by omega) (by decide)) (by rw [nI_clamp (by omega)]; exact (x0 (gt.r 6 ((gt.r 8) vq) - 1) (by omega))) d_Days_allows_95 ?_
                refine j_iload_n (pc := 96) C d_Days_allows_96 rfl 5 rfl ?_
                refine j_iload (pc := 97) C d_Days_allows_97 6 rfl ?_
                refine j_callSi (pc := 99) C (c_xfits l D y (bd (gt.r 6 ((gt.r 8) vq) - 1)) aq lw (by omega) (by omega) hlw) kw_Days_37 ks_Days_fits ⟨by decide, by decide⟩ ⟨by decide, by decide⟩ (wr := [(ad 1, .inr (1, [.int (d.1 9), .ref (ad 4), .ref (ad 5), .ref (ad 6), .ref (ad 7), .ref (ad 8), .ref (ad 9), .ref (ad 10)])), (ad 10, .inl (y 0, 9, .inl (d.2 6))), (ad 12, .inl (y 0, 6, .inl (d.2 8))), (h, .inr (7, [.int (nI dy), .int (nI wa), .int (nI la), .ref (sa 0), .ref (sa 1), .ref (sa 2), .ref (sa 3), .ref (sa 4), .ref (sa 5), .ref (sa 6)])), (sa 0, .inl (y 0, 9, .inl f0)), (ad 0, .inr (2, [.int (d.1 0), .int (d.1 1), .int (d.1 2), .int (d.1 3), .ref (ad 1), .int (d.1 4), .ref (ad 11), .ref (ad 12), .ref (ad 2), .ref (ad 3), .int (d.1 5), .int (d.1 6), .int (d.1 7), .int (d.1 8)]))]) [] [0, 1, 2, 3, 4, 5] rfl rfl (by decide +kernel) (by decide +kernel) (by decide +kernel) (As := [.int (nI (bd (gt.r 6 ((gt.r 8) vq) - 1))), .int (nI aq), .int (nI lw)]) (rest := []) rfl (nb rfl) rfl d_Days_allows_99 (fun r23 _ hr23 => ?_)
                refine j_ws (ws' := [(ad 1, .inr (1, [.int (d.1 9), .ref (ad 4), .ref (ad 5), .ref (ad 6), .ref (ad 7), .ref (ad 8), .ref (ad 9), .ref (ad 10)])), (ad 10, .inl (y 0, 9, .inl (d.2 6))), (ad 12, .inl (y 0, 6, .inl (d.2 8))), (h, .inr (7, [.int (nI dy), .int (nI wa), .int (nI la), .ref (sa 0), .ref (sa 1), .ref (sa 2), .ref (sa 3), .ref (sa 4), .ref (sa 5), .ref (sa 6)])), (sa 0, .inl (y 0, 9, .inl f0)), (ad 0, .inr (2, [.int (d.1 0), .int (d.1 1), .int (d.1 2), .int (d.1 3), .ref (ad 1), .int (d.1 4), .ref (ad 11), .ref (ad 12), .ref (ad 2), .ref (ad 3), .int (d.1 5), .int (d.1 6), .int (d.1 7), .int (d.1 8)]))]) rfl ?_
                rcases hr23 with ⟨rfl, xh25⟩ | ⟨rfl, xh26⟩
                · refine j_if_eqF (pc := 102) C (tgt := 109) d_Days_allows_102 (by decide) (by decide) ?_
                  refine j_iconst (pc := 105) C (v := 1) d_Days_allows_105 (by decide) ?_
                  refine j_goto (pc := 106) C (tgt := 110) d_Days_allows_106 (by decide) ?_
                  exact j_iret (pc := 110) C hr (by decide) () (Or.inl ⟨rfl, by omega⟩) [5, 0, 1, 2, 3, 4] rfl (by decide) (by decide) (by decide) d_Days_allows_110
                · refine j_if_eqT (pc := 102) C (tgt := 109) d_Days_allows_102 (by decide) (by decide) ?_
                  refine j_iconst (pc := 109) C (v := 0) d_Days_allows_109 (by decide) ?_
                  exact j_iret (pc := 110) C hr (by decide) () (Or.inr ⟨rfl, by omega⟩) [5, 0, 1, 2, 3, 4] rfl (by decide) (by decide) (by decide) d_Days_allows_110
              · refine j_if_eqT (pc := 80) C (tgt := 109) d_Days_allows_80 (by decide) (by decide) ?_
                refine j_iconst (pc := 109) C (v := 0) d_Days_allows_109 (by decide) ?_
                exact j_iret (pc := 110) C hr (by decide) () (Or.inr ⟨rfl, by omega⟩) [5, 0, 1, 2, 3, 4] rfl (by decide) (by decide) (by decide) d_Days_allows_110
          · refine j_if_neF (pc := 34) C (tgt := 47) d_Days_allows_34 (by decide) (show nI lw = nI 0 from (nI_eq (by omega) (by omega)).mpr (by omega)) ?_
            refine j_iload_n (pc := 37) C d_Days_allows_37 rfl 3 rfl ?_
            refine j_aload_n (pc := 38) C d_Days_allows_38 rfl 1 rfl ?_
            refine j_get (pc := 39) C gf_Days_15 3 rfl rfl d_Days_allows_39 ?_
            by_cases c27 : ¬ aq = la
            · refine j_icmp_neT (pc := 42) C (tgt := 47) d_Days_allows_42 (by decide) (show ¬ nI aq = nI la from fun e => absurd ((nI_eq (by omega) (by omega)).mp e) (by omega)) ?_
              refine j_aload_n (pc := 47) C d_Days_allows_47 rfl 0 rfl ?_
              refine j_get (pc := 48) C gf_Days_21 5 rfl rfl d_Days_allows_48 ?_
              refine j_iload_n (pc := 51) C d_Days_allows_51 rfl 2 rfl ?_
              have xh28 : gt.r 8 vq < gt.s 9 := lk_vb hlk vq (by omega)
              refine j_iald (pc := 52) C 2 rfl (v := nI ((gt.r 8) vq)) (vp_in_nI (by omega) (by decide)) (by rw [nI_clamp (by omega)]; exact (hk8 vq (by omega))) d_Days_allows_52 ?_
              refine j_istore (pc := 53) C (lv' := [(5, .int (nI ((gt.r 8) vq))), (0, .ref (ad 0)), (1, .ref h), (2, .int (nI vq)), (3, .int (nI aq)), (4, .int (nI lw))]) d_Days_allows_53 (by decide) rfl ?_
              refine j_aload_n (pc := 55) C d_Days_allows_55 rfl 1 rfl ?_
              refine j_get (pc := 56) C gf_Days_25 5 rfl rfl d_Days_allows_56 ?_
              refine j_get (pc := 59) C gf_Days_29 0 rfl rfl d_Days_allows_59 ?_
              refine j_iload (pc := 62) C d_Days_allows_62 0 rfl ?_
              have xh29 := lk_j hlk ((gt.r 8) vq) (by omega)
              obtain ⟨xh29a, xh29b, xh29c⟩ := xh29
              by_cases e30 : gt.r 6 ((gt.r 8) vq) = 0
              · refine j_iald (pc := 64) C 1 rfl (v := (-1)) (vp_in_nI (by omega) (by decide)) (by rw [nI_clamp (by omega)]; exact (xh29a.trans (if_pos e30))) d_Days_allows_64 ?_
                refine j_istore (pc := 65) C (lv' := [(6, .int (-1)), (5, .int (nI ((gt.r 8) vq))), (0, .ref (ad 0)), (1, .ref h), (2, .int (nI vq)), (3, .int (nI aq)), (4, .int (nI lw))]) d_Days_allows_65 (by decide) rfl ?_
                refine j_aload_n (pc := 67) C d_Days_allows_67 rfl 3 rfl ?_
                refine j_get (pc := 68) C gf_Days_34 3 rfl rfl d_Days_allows_68 ?_
                refine j_iload (pc := 71) C d_Days_allows_71 1 rfl ?_
                have xh31 : bd ((gt.r 8) vq) ≤ 20 := hbd ((gt.r 8) vq) (by omega)
                refine j_iald (pc := 73) C 4 rfl (v := nI (bd ((gt.r 8) vq))) (vp_in_nI (by omega) (by decide)) (by rw [nI_clamp (by omega)]; exact (x0 ((gt.r 8) vq) (by omega))) d_Days_allows_73 ?_
                refine j_iload_n (pc := 74) C d_Days_allows_74 rfl 5 rfl ?_
                refine j_iload (pc := 75) C d_Days_allows_75 6 rfl ?_
                refine j_callSi (pc := 77) C (c_xfits l D y (bd ((gt.r 8) vq)) aq lw (by omega) (by omega) hlw) kw_Days_37 ks_Days_fits ⟨by decide, by decide⟩ ⟨by decide, by decide⟩ (wr := [(ad 1, .inr (1, [.int (d.1 9), .ref (ad 4), .ref (ad 5), .ref (ad 6), .ref (ad 7), .ref (ad 8), .ref (ad 9), .ref (ad 10)])), (ad 10, .inl (y 0, 9, .inl (d.2 6))), (ad 12, .inl (y 0, 6, .inl (d.2 8))), (h, .inr (7, [.int (nI dy), .int (nI wa), .int (nI la), .ref (sa 0), .ref (sa 1), .ref (sa 2), .ref (sa 3), .ref (sa 4), .ref (sa 5), .ref (sa 6)])), (sa 0, .inl (y 0, 9, .inl f0)), (ad 0, .inr (2, [.int (d.1 0), .int (d.1 1), .int (d.1 2), .int (d.1 3), .ref (ad 1), .int (d.1 4), .ref (ad 11), .ref (ad 12), .ref (ad 2), .ref (ad 3), .int (d.1 5), .int (d.1 6), .int (d.1 7), .int (d.1 8)]))]) [] [0, 1, 2, 3, 4, 5] rfl rfl (by decide +kernel) (by decide +kernel) (by decide +kernel) (As := [.int (nI (bd ((gt.r 8) vq))), .int (nI aq), .int (nI lw)]) (rest := []) rfl (nb rfl) rfl d_Days_allows_77 (fun r32 _ hr32 => ?_)
                refine j_ws (ws' := [(ad 1, .inr (1, [.int (d.1 9), .ref (ad 4), .ref (ad 5), .ref (ad 6), .ref (ad 7), .ref (ad 8), .ref (ad 9), .ref (ad 10)])), (ad 10, .inl (y 0, 9, .inl (d.2 6))), (ad 12, .inl (y 0, 6, .inl (d.2 8))), (h, .inr (7, [.int (nI dy), .int (nI wa), .int (nI la), .ref (sa 0), .ref (sa 1), .ref (sa 2), .ref (sa 3), .ref (sa 4), .ref (sa 5), .ref (sa 6)])), (sa 0, .inl (y 0, 9, .inl f0)), (ad 0, .inr (2, [.int (d.1 0), .int (d.1 1), .int (d.1 2), .int (d.1 3), .ref (ad 1), .int (d.1 4), .ref (ad 11), .ref (ad 12), .ref (ad 2), .ref (ad 3), .int (d.1 5), .int (d.1 6), .int (d.1 7), .int (d.1 8)]))]) rfl ?_
                rcases hr32 with ⟨rfl, xh34⟩ | ⟨rfl, xh35⟩
                · refine j_if_eqF (pc := 80) C (tgt := 109) d_Days_allows_80 (by decide) (by decide) ?_
                  refine j_iload (pc := 83) C d_Days_allows_83 0 rfl ?_
                  refine j_iconst (pc := 85) C (v := (-1)) d_Days_allows_85 (by decide) ?_
                  refine j_icmp_eqT (pc := 86) C (tgt := 105) d_Days_allows_86 (by decide) (by decide) ?_
                  refine j_iconst (pc := 105) C (v := 1) d_Days_allows_105 (by decide) ?_
                  refine j_goto (pc := 106) C (tgt := 110) d_Days_allows_106 (by decide) ?_
                  exact j_iret (pc := 110) C hr (by decide) () (Or.inl ⟨rfl, by omega⟩) [5, 0, 1, 2, 3, 4] rfl (by decide) (by decide) (by decide) d_Days_allows_110
                · refine j_if_eqT (pc := 80) C (tgt := 109) d_Days_allows_80 (by decide) (by decide) ?_
                  refine j_iconst (pc := 109) C (v := 0) d_Days_allows_109 (by decide) ?_
                  exact j_iret (pc := 110) C hr (by decide) () (Or.inr ⟨rfl, by omega⟩) [5, 0, 1, 2, 3, 4] rfl (by decide) (by decide) (by decide) d_Days_allows_110
              · refine j_iald (pc := 64) C 1 rfl (v := nI (gt.r 6 ((gt.r 8) vq) - 1)) (vp_in_nI (by omega) (by decide)) (by rw [nI_clamp (by omega)]; exact (xh29a.trans (if_neg e30))) d_Days_allows_64 ?_
                refine j_istore (pc := 65) C (lv' := [(6, .int (nI (gt.r 6 ((gt.r 8) vq) - 1))), (5, .int (nI ((gt.r 8) vq))), (0, .ref (ad 0)), (1, .ref h), (2, .int (nI vq)), (3, .int (nI aq)), (4, .int (nI lw))]) d_Days_allows_65 (by decide) rfl ?_
                refine j_aload_n (pc := 67) C d_Days_allows_67 rfl 3 rfl ?_
                refine j_get (pc := 68) C gf_Days_34 3 rfl rfl d_Days_allows_68 ?_
                refine j_iload (pc := 71) C d_Days_allows_71 1 rfl ?_
                have xh36 : bd ((gt.r 8) vq) ≤ 20 := hbd ((gt.r 8) vq) (by omega)
                refine j_iald (pc := 73) C 4 rfl (v := nI (bd ((gt.r 8) vq))) (vp_in_nI (by omega) (by decide)) (by rw [nI_clamp (by omega)]; exact (x0 ((gt.r 8) vq) (by omega))) d_Days_allows_73 ?_
                refine j_iload_n (pc := 74) C d_Days_allows_74 rfl 5 rfl ?_
                refine j_iload (pc := 75) C d_Days_allows_75 6 rfl ?_
                refine j_callSi (pc := 77) C (c_xfits l D y (bd ((gt.r 8) vq)) aq lw (by omega) (by omega) hlw) kw_Days_37 ks_Days_fits ⟨by decide, by decide⟩ ⟨by decide, by decide⟩ (wr := [(ad 1, .inr (1, [.int (d.1 9), .ref (ad 4), .ref (ad 5), .ref (ad 6), .ref (ad 7), .ref (ad 8), .ref (ad 9), .ref (ad 10)])), (ad 10, .inl (y 0, 9, .inl (d.2 6))), (ad 12, .inl (y 0, 6, .inl (d.2 8))), (h, .inr (7, [.int (nI dy), .int (nI wa), .int (nI la), .ref (sa 0), .ref (sa 1), .ref (sa 2), .ref (sa 3), .ref (sa 4), .ref (sa 5), .ref (sa 6)])), (sa 0, .inl (y 0, 9, .inl f0)), (ad 0, .inr (2, [.int (d.1 0), .int (d.1 1), .int (d.1 2), .int (d.1 3), .ref (ad 1), .int (d.1 4), .ref (ad 11), .ref (ad 12), .ref (ad 2), .ref (ad 3), .int (d.1 5), .int (d.1 6), .int (d.1 7), .int (d.1 8)]))]) [] [0, 1, 2, 3, 4, 5] rfl rfl (by decide +kernel) (by decide +kernel) (by decide +kernel) (As := [.int (nI (bd ((gt.r 8) vq))), .int (nI aq), .int (nI lw)]) (rest := []) rfl (nb rfl) rfl d_Days_allows_77 (fun r37 _ hr37 => ?_)
                refine j_ws (ws' := [(ad 1, .inr (1, [.int (d.1 9), .ref (ad 4), .ref (ad 5), .ref (ad 6), .ref (ad 7), .ref (ad 8), .ref (ad 9), .ref (ad 10)])), (ad 10, .inl (y 0, 9, .inl (d.2 6))), (ad 12, .inl (y 0, 6, .inl (d.2 8))), (h, .inr (7, [.int (nI dy), .int (nI wa), .int (nI la), .ref (sa 0), .ref (sa 1), .ref (sa 2), .ref (sa 3), .ref (sa 4), .ref (sa 5), .ref (sa 6)])), (sa 0, .inl (y 0, 9, .inl f0)), (ad 0, .inr (2, [.int (d.1 0), .int (d.1 1), .int (d.1 2), .int (d.1 3), .ref (ad 1), .int (d.1 4), .ref (ad 11), .ref (ad 12), .ref (ad 2), .ref (ad 3), .int (d.1 5), .int (d.1 6), .int (d.1 7), .int (d.1 8)]))]) rfl ?_
                rcases hr37 with ⟨rfl, xh39⟩ | ⟨rfl, xh40⟩
                · refine j_if_eqF (pc := 80) C (tgt := 109) d_Days_allows_80 (by decide) (by decide) ?_
                  refine j_iload (pc := 83) C d_Days_allows_83 0 rfl ?_
                  refine j_iconst (pc := 85) C (v := (-1)) d_Days_allows_85 (by decide) ?_
                  refine j_icmp_eqF (pc := 86) C (tgt := 105) d_Days_allows_86 (by decide) (nI_nm1 (by omega)) ?_
                  refine j_aload_n (pc := 89) C d_Days_allows_89 rfl 3 rfl ?_
                  refine j_get (pc := 90) C gf_Days_34 3 rfl rfl d_Days_allows_90 ?_
                  refine j_iload (pc := 93) C d_Days_allows_93 0 rfl ?_
                  have xh41 : bd (gt.r 6 ((gt.r 8) vq) - 1) ≤ 20 := hbd (gt.r 6 ((gt.r 8) vq) - 1) (by omega)
                  refine j_iald (pc := 95) C 4 rfl (v := nI (bd (gt.r 6 ((gt.r 8) vq) - 1))) (vp_in_nI (by omega) (by decide)) (by rw [nI_clamp (by omega)]; exact (x0 (gt.r 6 ((gt.r 8) vq) - 1) (by omega))) d_Days_allows_95 ?_
                  refine j_iload_n (pc := 96) C d_Days_allows_96 rfl 5 rfl ?_
                  refine j_iload (pc := 97) C d_Days_allows_97 6 rfl ?_
                  refine j_callSi (pc := 99) C (c_xfits l D y (bd (gt.r 6 ((gt.r 8) vq) - 1)) aq lw (by omega) (by omega) hlw) kw_Days_37 ks_Days_fits ⟨by decide, by decide⟩ ⟨by decide, by decide⟩ (wr := [(ad 1, .inr (1, [.int (d.1 9), .ref (ad 4), .ref (ad 5), .ref (ad 6), .ref (ad 7), .ref (ad 8), .ref (ad 9), .ref (ad 10)])), (ad 10, .inl (y 0, 9, .inl (d.2 6))), (ad 12, .inl (y 0, 6, .inl (d.2 8))), (h, .inr (7, [.int (nI dy), .int (nI wa), .int (nI la), .ref (sa 0), .ref (sa 1), .ref (sa 2), .ref (sa 3), .ref (sa 4), .ref (sa 5), .ref (sa 6)])), (sa 0, .inl (y 0, 9, .inl f0)), (ad 0, .inr (2, [.int (d.1 0), .int (d.1 1), .int (d.1 2), .int (d.1 3), .ref (ad 1), .int (d.1 4), .ref (ad 11), .ref (ad 12), .ref (ad 2), .ref (ad 3), .int (d.1 5), .int (d.1 6), .int (d.1 7), .int (d.1 8)]))]) [] [0, 1, 2, 3, 4, 5] rfl rfl (by decide +kernel) (by decide +kernel) (by decide +kernel) (As := [.int (nI (bd (gt.r 6 ((gt.r 8) vq) - 1))), .int (nI aq), .int (nI lw)]) (rest := []) rfl (nb rfl) rfl d_Days_allows_99 (fun r42 _ hr42 => ?_)
                  refine j_ws (ws' := [(ad 1, .inr (1, [.int (d.1 9), .ref (ad 4), .ref (ad 5), .ref (ad 6), .ref (ad 7), .ref (ad 8), .ref (ad 9), .ref (ad 10)])), (ad 10, .inl (y 0, 9, .inl (d.2 6))), (ad 12, .inl (y 0, 6, .inl (d.2 8))), (h, .inr (7, [.int (nI dy), .int (nI wa), .int (nI la), .ref (sa 0), .ref (sa 1), .ref (sa 2), .ref (sa 3), .ref (sa 4), .ref (sa 5), .ref (sa 6)])), (sa 0, .inl (y 0, 9, .inl f0)), (ad 0, .inr (2, [.int (d.1 0), .int (d.1 1), .int (d.1 2), .int (d.1 3), .ref (ad 1), .int (d.1 4), .ref (ad 11), .ref (ad 12), .ref (ad 2), .ref (ad 3), .int (d.1 5), .int (d.1 6), .int (d.1 7), .int (d.1 8)]))]) rfl ?_
                  rcases hr42 with ⟨rfl, xh44⟩ | ⟨rfl, xh45⟩
                  · refine j_if_eqF (pc := 102) C (tgt := 109) d_Days_allows_102 (by decide) (by decide) ?_
                    refine j_iconst (pc := 105) C (v := 1) d_Days_allows_105 (by decide) ?_
                    refine j_goto (pc := 106) C (tgt := 110) d_Days_allows_106 (by decide) ?_
                    exact j_iret (pc := 110) C hr (by decide) () (Or.inl ⟨rfl, by omega⟩) [5, 0, 1, 2, 3, 4] rfl (by decide) (by decide) (by decide) d_Days_allows_110
                  · refine j_if_eqT (pc := 102) C (tgt := 109) d_Days_allows_102 (by decide) (by decide) ?_
                    refine j_iconst (pc := 109) C (v := 0) d_Days_allows_109 (by decide) ?_
                    exact j_iret (pc := 110) C hr (by decide) () (Or.inr ⟨rfl, by omega⟩) [5, 0, 1, 2, 3, 4] rfl (by decide) (by decide) (by decide) d_Days_allows_110
                · refine j_if_eqT (pc := 80) C (tgt := 109) d_Days_allows_80 (by decide) (by decide) ?_
                  refine j_iconst (pc := 109) C (v := 0) d_Days_allows_109 (by decide) ?_
                  exact j_iret (pc := 110) C hr (by decide) () (Or.inr ⟨rfl, by omega⟩) [5, 0, 1, 2, 3, 4] rfl (by decide) (by decide) (by decide) d_Days_allows_110
            · refine j_icmp_neF (pc := 42) C (tgt := 47) d_Days_allows_42 (by decide) (show nI aq = nI la from (nI_eq (by omega) (by omega)).mpr (by omega)) ?_
              refine j_iconst (pc := 45) C (v := 0) d_Days_allows_45 (by decide) ?_
              exact j_iret (pc := 46) C hr (by decide) () (Or.inr ⟨rfl, by omega⟩) [5, 0, 1, 2, 3, 4] rfl (by decide) (by decide) (by decide) d_Days_allows_46
        · refine j_icmp_neF (pc := 27) C (tgt := 32) d_Days_allows_27 (by decide) (show nI lw = nI 3 from (nI_eq (by omega) (by omega)).mpr (by omega)) ?_
          refine j_iconst (pc := 30) C (v := 0) d_Days_allows_30 (by decide) ?_
          exact j_iret (pc := 31) C hr (by decide) () (Or.inr ⟨rfl, by omega⟩) [5, 0, 1, 2, 3, 4] rfl (by decide) (by decide) (by decide) d_Days_allows_31
      · refine j_if_eqT (pc := 21) C (tgt := 30) d_Days_allows_21 (by decide) (by decide) ?_
        refine j_iconst (pc := 30) C (v := 0) d_Days_allows_30 (by decide) ?_
        exact j_iret (pc := 31) C hr (by decide) () (Or.inr ⟨rfl, by omega⟩) [5, 0, 1, 2, 3, 4] rfl (by decide) (by decide) (by decide) d_Days_allows_31
    · refine j_icmp_eqF (pc := 8) C (tgt := 16) d_Days_allows_8 (by decide) (show ¬ nI aq = nI 1 from fun e => absurd ((nI_eq (by omega) (by omega)).mp e) (by omega)) ?_
      refine j_iload_n (pc := 11) C d_Days_allows_11 rfl 3 rfl ?_
      refine j_iconst (pc := 12) C (v := 2) d_Days_allows_12 (by decide) ?_
      by_cases c46 : ¬ aq = 2
      · refine j_icmp_neT (pc := 13) C (tgt := 30) d_Days_allows_13 (by decide) (show ¬ nI aq = nI 2 from fun e => absurd ((nI_eq (by omega) (by omega)).mp e) (by omega)) ?_
        refine j_iconst (pc := 30) C (v := 0) d_Days_allows_30 (by decide) ?_
        exact j_iret (pc := 31) C hr (by decide) () (Or.inr ⟨rfl, by omega⟩) [0, 1, 2, 3, 4, 5] rfl (by decide) (by decide) (by decide) d_Days_allows_31
      · refine j_icmp_neF (pc := 13) C (tgt := 30) d_Days_allows_13 (by decide) (show nI aq = nI 2 from (nI_eq (by omega) (by omega)).mpr (by omega)) ?_
        refine j_aload_n (pc := 16) C d_Days_allows_16 rfl 0 rfl ?_
        refine j_iload_n (pc := 17) C d_Days_allows_17 rfl 2 rfl ?_
        refine j_callVi (pc := 18) C (c_yhasVillage l D y ad d gt vq hlk hv) kw_Days_9 kv_Lake_hasVillage 0 2 rfl rfl ⟨by decide, by decide⟩ ⟨by decide, by decide⟩ (wr := [(ad 1, .inr (1, [.int (d.1 9), .ref (ad 4), .ref (ad 5), .ref (ad 6), .ref (ad 7), .ref (ad 8), .ref (ad 9), .ref (ad 10)])), (ad 10, .inl (y 0, 9, .inl (d.2 6))), (ad 12, .inl (y 0, 6, .inl (d.2 8))), (h, .inr (7, [.int (nI dy), .int (nI wa), .int (nI la), .ref (sa 0), .ref (sa 1), .ref (sa 2), .ref (sa 3), .ref (sa 4), .ref (sa 5), .ref (sa 6)])), (sa 0, .inl (y 0, 9, .inl f0))]) [0] [1, 2, 3, 4, 5] rfl rfl (by decide +kernel) (by decide +kernel) (by decide +kernel) (As := [.int (nI vq)]) (rest := []) rfl (nb rfl) rfl d_Days_allows_18 (fun r47 _ hr47 => ?_)
        refine j_ws (ws' := [(ad 1, .inr (1, [.int (d.1 9), .ref (ad 4), .ref (ad 5), .ref (ad 6), .ref (ad 7), .ref (ad 8), .ref (ad 9), .ref (ad 10)])), (ad 10, .inl (y 0, 9, .inl (d.2 6))), (ad 12, .inl (y 0, 6, .inl (d.2 8))), (h, .inr (7, [.int (nI dy), .int (nI wa), .int (nI la), .ref (sa 0), .ref (sa 1), .ref (sa 2), .ref (sa 3), .ref (sa 4), .ref (sa 5), .ref (sa 6)])), (sa 0, .inl (y 0, 9, .inl f0)), (ad 0, .inr (2, [.int (d.1 0), .int (d.1 1), .int (d.1 2), .int (d.1 3), .ref (ad 1), .int (d.1 4), .ref (ad 11), .ref (ad 12), .ref (ad 2), .ref (ad 3), .int (d.1 5), .int (d.1 6), .int (d.1 7), .int (d.1 8)]))]) rfl ?_
        rcases hr47 with ⟨rfl, xh49⟩ | ⟨rfl, xh50⟩
        · refine j_if_eqF (pc := 21) C (tgt := 30) d_Days_allows_21 (by decide) (by decide) ?_
          refine j_iload (pc := 24) C d_Days_allows_24 4 rfl ?_
          refine j_iconst (pc := 26) C (v := 3) d_Days_allows_26 (by decide) ?_
          by_cases c51 : ¬ lw = 3
          · refine j_icmp_neT (pc := 27) C (tgt := 32) d_Days_allows_27 (by decide) (show ¬ nI lw = nI 3 from fun e => absurd ((nI_eq (by omega) (by omega)).mp e) (by omega)) ?_
            refine j_iload (pc := 32) C d_Days_allows_32 4 rfl ?_
            by_cases c52 : ¬ lw = 0
            · refine j_if_neT (pc := 34) C (tgt := 47) d_Days_allows_34 (by decide) (show ¬ nI lw = nI 0 from fun e => absurd ((nI_eq (by omega) (by omega)).mp e) (by omega)) ?_
              refine j_aload_n (pc := 47) C d_Days_allows_47 rfl 0 rfl ?_
              refine j_get (pc := 48) C gf_Days_21 5 rfl rfl d_Days_allows_48 ?_
              refine j_iload_n (pc := 51) C d_Days_allows_51 rfl 2 rfl ?_
              have xh53 : gt.r 8 vq < gt.s 9 := lk_vb hlk vq (by omega)
              refine j_iald (pc := 52) C 2 rfl (v := nI ((gt.r 8) vq)) (vp_in_nI (by omega) (by decide)) (by rw [nI_clamp (by omega)]; exact (hk8 vq (by omega))) d_Days_allows_52 ?_
              refine j_istore (pc := 53) C (lv' := [(5, .int (nI ((gt.r 8) vq))), (0, .ref (ad 0)), (1, .ref h), (2, .int (nI vq)), (3, .int (nI aq)), (4, .int (nI lw))]) d_Days_allows_53 (by decide) rfl ?_
              refine j_aload_n (pc := 55) C d_Days_allows_55 rfl 1 rfl ?_
              refine j_get (pc := 56) C gf_Days_25 5 rfl rfl d_Days_allows_56 ?_
              refine j_get (pc := 59) C gf_Days_29 0 rfl rfl d_Days_allows_59 ?_
              refine j_iload (pc := 62) C d_Days_allows_62 0 rfl ?_
              have xh54 := lk_j hlk ((gt.r 8) vq) (by omega)
              obtain ⟨xh54a, xh54b, xh54c⟩ := xh54
              by_cases e55 : gt.r 6 ((gt.r 8) vq) = 0
              · refine j_iald (pc := 64) C 1 rfl (v := (-1)) (vp_in_nI (by omega) (by decide)) (by rw [nI_clamp (by omega)]; exact (xh54a.trans (if_pos e55))) d_Days_allows_64 ?_
                refine j_istore (pc := 65) C (lv' := [(6, .int (-1)), (5, .int (nI ((gt.r 8) vq))), (0, .ref (ad 0)), (1, .ref h), (2, .int (nI vq)), (3, .int (nI aq)), (4, .int (nI lw))]) d_Days_allows_65 (by decide) rfl ?_
                refine j_aload_n (pc := 67) C d_Days_allows_67 rfl 3 rfl ?_
                refine j_get (pc := 68) C gf_Days_34 3 rfl rfl d_Days_allows_68 ?_
                refine j_iload (pc := 71) C d_Days_allows_71 1 rfl ?_
                have xh56 : bd ((gt.r 8) vq) ≤ 20 := hbd ((gt.r 8) vq) (by omega)
                refine j_iald (pc := 73) C 4 rfl (v := nI (bd ((gt.r 8) vq))) (vp_in_nI (by omega) (by decide)) (by rw [nI_clamp (by omega)]; exact (x0 ((gt.r 8) vq) (by omega))) d_Days_allows_73 ?_
                refine j_iload_n (pc := 74) C d_Days_allows_74 rfl 5 rfl ?_
                refine j_iload (pc := 75) C d_Days_allows_75 6 rfl ?_
                refine j_callSi (pc := 77) C (c_xfits l D y (bd ((gt.r 8) vq)) aq lw (by omega) (by omega) hlw) kw_Days_37 ks_Days_fits ⟨by decide, by decide⟩ ⟨by decide, by decide⟩ (wr := [(ad 1, .inr (1, [.int (d.1 9), .ref (ad 4), .ref (ad 5), .ref (ad 6), .ref (ad 7), .ref (ad 8), .ref (ad 9), .ref (ad 10)])), (ad 10, .inl (y 0, 9, .inl (d.2 6))), (ad 12, .inl (y 0, 6, .inl (d.2 8))), (h, .inr (7, [.int (nI dy), .int (nI wa), .int (nI la), .ref (sa 0), .ref (sa 1), .ref (sa 2), .ref (sa 3), .ref (sa 4), .ref (sa 5), .ref (sa 6)])), (sa 0, .inl (y 0, 9, .inl f0)), (ad 0, .inr (2, [.int (d.1 0), .int (d.1 1), .int (d.1 2), .int (d.1 3), .ref (ad 1), .int (d.1 4), .ref (ad 11), .ref (ad 12), .ref (ad 2), .ref (ad 3), .int (d.1 5), .int (d.1 6), .int (d.1 7), .int (d.1 8)]))]) [] [0, 1, 2, 3, 4, 5] rfl rfl (by decide +kernel) (by decide +kernel) (by decide +kernel) (As := [.int (nI (bd ((gt.r 8) vq))), .int (nI aq), .int (nI lw)]) (rest := []) rfl (nb rfl) rfl d_Days_allows_77 (fun r57 _ hr57 => ?_)
                refine j_ws (ws' := [(ad 1, .inr (1, [.int (d.1 9), .ref (ad 4), .ref (ad 5), .ref (ad 6), .ref (ad 7), .ref (ad 8), .ref (ad 9), .ref (ad 10)])), (ad 10, .inl (y 0, 9, .inl (d.2 6))), (ad 12, .inl (y 0, 6, .inl (d.2 8))), (h, .inr (7, [.int (nI dy), .int (nI wa), .int (nI la), .ref (sa 0), .ref (sa 1), .ref (sa 2), .ref (sa 3), .ref (sa 4), .ref (sa 5), .ref (sa 6)])), (sa 0, .inl (y 0, 9, .inl f0)), (ad 0, .inr (2, [.int (d.1 0), .int (d.1 1), .int (d.1 2), .int (d.1 3), .ref (ad 1), .int (d.1 4), .ref (ad 11), .ref (ad 12), .ref (ad 2), .ref (ad 3), .int (d.1 5), .int (d.1 6), .int (d.1 7), .int (d.1 8)]))]) rfl ?_
                rcases hr57 with ⟨rfl, xh59⟩ | ⟨rfl, xh60⟩
                · refine j_if_eqF (pc := 80) C (tgt := 109) d_Days_allows_80 (by decide) (by decide) ?_
                  refine j_iload (pc := 83) C d_Days_allows_83 0 rfl ?_
                  refine j_iconst (pc := 85) C (v := (-1)) d_Days_allows_85 (by decide) ?_
                  refine j_icmp_eqT (pc := 86) C (tgt := 105) d_Days_allows_86 (by decide) (by decide) ?_
                  refine j_iconst (pc := 105) C (v := 1) d_Days_allows_105 (by decide) ?_
                  refine j_goto (pc := 106) C (tgt := 110) d_Days_allows_106 (by decide) ?_
                  exact j_iret (pc := 110) C hr (by decide) () (Or.inl ⟨rfl, by omega⟩) [5, 0, 1, 2, 3, 4] rfl (by decide) (by decide) (by decide) d_Days_allows_110
                · refine j_if_eqT (pc := 80) C (tgt := 109) d_Days_allows_80 (by decide) (by decide) ?_
                  refine j_iconst (pc := 109) C (v := 0) d_Days_allows_109 (by decide) ?_
                  exact j_iret (pc := 110) C hr (by decide) () (Or.inr ⟨rfl, by omega⟩) [5, 0, 1, 2, 3, 4] rfl (by decide) (by decide) (by decide) d_Days_allows_110
              · refine j_iald (pc := 64) C 1 rfl (v := nI (gt.r 6 ((gt.r 8) vq) - 1)) (vp_in_nI (by omega) (by decide)) (by rw [nI_clamp (by omega)]; exact (xh54a.trans (if_neg e55))) d_Days_allows_64 ?_
                refine j_istore (pc := 65) C (lv' := [(6, .int (nI (gt.r 6 ((gt.r 8) vq) - 1))), (5, .int (nI ((gt.r 8) vq))), (0, .ref (ad 0)), (1, .ref h), (2, .int (nI vq)), (3, .int (nI aq)), (4, .int (nI lw))]) d_Days_allows_65 (by decide) rfl ?_
                refine j_aload_n (pc := 67) C d_Days_allows_67 rfl 3 rfl ?_
                refine j_get (pc := 68) C gf_Days_34 3 rfl rfl d_Days_allows_68 ?_
                refine j_iload (pc := 71) C d_Days_allows_71 1 rfl ?_
                have xh61 : bd ((gt.r 8) vq) ≤ 20 := hbd ((gt.r 8) vq) (by omega)
                refine j_iald (pc := 73) C 4 rfl (v := nI (bd ((gt.r 8) vq))) (vp_in_nI (by omega) (by decide)) (by rw [nI_clamp (by omega)]; exact (x0 ((gt.r 8) vq) (by omega))) d_Days_allows_73 ?_
                refine j_iload_n (pc := 74) C d_Days_allows_74 rfl 5 rfl ?_
                refine j_iload (pc := 75) C d_Days_allows_75 6 rfl ?_
                refine j_callSi (pc := 77) C (c_xfits l D y (bd ((gt.r 8) vq)) aq lw (by omega) (by omega) hlw) kw_Days_37 ks_Days_fits ⟨by decide, by decide⟩ ⟨by decide, by decide⟩ (wr := [(ad 1, .inr (1, [.int (d.1 9), .ref (ad 4), .ref (ad 5), .ref (ad 6), .ref (ad 7), .ref (ad 8), .ref (ad 9), .ref (ad 10)])), (ad 10, .inl (y 0, 9, .inl (d.2 6))), (ad 12, .inl (y 0, 6, .inl (d.2 8))), (h, .inr (7, [.int (nI dy), .int (nI wa), .int (nI la), .ref (sa 0), .ref (sa 1), .ref (sa 2), .ref (sa 3), .ref (sa 4), .ref (sa 5), .ref (sa 6)])), (sa 0, .inl (y 0, 9, .inl f0)), (ad 0, .inr (2, [.int (d.1 0), .int (d.1 1), .int (d.1 2), .int (d.1 3), .ref (ad 1), .int (d.1 4), .ref (ad 11), .ref (ad 12), .ref (ad 2), .ref (ad 3), .int (d.1 5), .int (d.1 6), .int (d.1 7), .int (d.1 8)]))]) [] [0, 1, 2, 3, 4, 5] rfl rfl (by decide +kernel) (by decide +kernel) (by decide +kernel) (As := [.int (nI (bd ((gt.r 8) vq))), .int (nI aq), .int (nI lw)]) (rest := []) rfl (nb rfl) rfl d_Days_allows_77 (fun r62 _ hr62 => ?_)
                refine j_ws (ws' := [(ad 1, .inr (1, [.int (d.1 9), .ref (ad 4), .ref (ad 5), .ref (ad 6), .ref (ad 7), .ref (ad 8), .ref (ad 9), .ref (ad 10)])), (ad 10, .inl (y 0, 9, .inl (d.2 6))), (ad 12, .inl (y 0, 6, .inl (d.2 8))), (h, .inr (7, [.int (nI dy), .int (nI wa), .int (nI la), .ref (sa 0), .ref (sa 1), .ref (sa 2), .ref (sa 3), .ref (sa 4), .ref (sa 5), .ref (sa 6)])), (sa 0, .inl (y 0, 9, .inl f0)), (ad 0, .inr (2, [.int (d.1 0), .int (d.1 1), .int (d.1 2), .int (d.1 3), .ref (ad 1), .int (d.1 4), .ref (ad 11), .ref (ad 12), .ref (ad 2), .ref (ad 3), .int (d.1 5), .int (d.1 6), .int (d.1 7), .int (d.1 8)]))]) rfl ?_
                rcases hr62 with ⟨rfl, xh64⟩ | ⟨rfl, xh65⟩
                · refine j_if_eqF (pc := 80) C (tgt := 109) d_Days_allows_80 (by decide) (by decide) ?_
                  refine j_iload (pc := 83) C d_Days_allows_83 0 rfl ?_
                  refine j_iconst (pc := 85) C (v := (-1)) d_Days_allows_85 (by decide) ?_
                  refine j_icmp_eqF (pc := 86) C (tgt := 105) d_Days_allows_86 (by decide) (nI_nm1 (by omega)) ?_
                  refine j_aload_n (pc := 89) C d_Days_allows_89 rfl 3 rfl ?_
                  refine j_get (pc := 90) C gf_Days_34 3 rfl rfl d_Days_allows_90 ?_
                  refine j_iload (pc := 93) C d_Days_allows_93 0 rfl ?_
                  have xh66 : bd (gt.r 6 ((gt.r 8) vq) - 1) ≤ 20 := hbd (gt.r 6 ((gt.r 8) vq) - 1) (by omega)
                  refine j_iald (pc := 95) C 4 rfl (v := nI (bd (gt.r 6 ((gt.r 8) vq) - 1))) (vp_in_nI (by omega) (by decide)) (by rw [nI_clamp (by omega)]; exact (x0 (gt.r 6 ((gt.r 8) vq) - 1) (by omega))) d_Days_allows_95 ?_
                  refine j_iload_n (pc := 96) C d_Days_allows_96 rfl 5 rfl ?_
                  refine j_iload (pc := 97) C d_Days_allows_97 6 rfl ?_
                  refine j_callSi (pc := 99) C (c_xfits l D y (bd (gt.r 6 ((gt.r 8) vq) - 1)) aq lw (by omega) (by omega) hlw) kw_Days_37 ks_Days_fits ⟨by decide, by decide⟩ ⟨by decide, by decide⟩ (wr := [(ad 1, .inr (1, [.int (d.1 9), .ref (ad 4), .ref (ad 5), .ref (ad 6), .ref (ad 7), .ref (ad 8), .ref (ad 9), .ref (ad 10)])), (ad 10, .inl (y 0, 9, .inl (d.2 6))), (ad 12, .inl (y 0, 6, .inl (d.2 8))), (h, .inr (7, [.int (nI dy), .int (nI wa), .int (nI la), .ref (sa 0), .ref (sa 1), .ref (sa 2), .ref (sa 3), .ref (sa 4), .ref (sa 5), .ref (sa 6)])), (sa 0, .inl (y 0, 9, .inl f0)), (ad 0, .inr (2, [.int (d.1 0), .int (d.1 1), .int (d.1 2), .int (d.1 3), .ref (ad 1), .int (d.1 4), .ref (ad 11), .ref (ad 12), .ref (ad 2), .ref (ad 3), .int (d.1 5), .int (d.1 6), .int (d.1 7), .int (d.1 8)]))]) [] [0, 1, 2, 3, 4, 5] rfl rfl (by decide +kernel) (by decide +kernel) (by decide +kernel) (As := [.int (nI (bd (gt.r 6 ((gt.r 8) vq) - 1))), .int (nI aq), .int (nI lw)]) (rest := []) rfl (nb rfl) rfl d_Days_allows_99 (fun r67 _ hr67 => ?_)
                  refine j_ws (ws' := [(ad 1, .inr (1, [.int (d.1 9), .ref (ad 4), .ref (ad 5), .ref (ad 6), .ref (ad 7), .ref (ad 8), .ref (ad 9), .ref (ad 10)])), (ad 10, .inl (y 0, 9, .inl (d.2 6))), (ad 12, .inl (y 0, 6, .inl (d.2 8))), (h, .inr (7, [.int (nI dy), .int (nI wa), .int (nI la), .ref (sa 0), .ref (sa 1), .ref (sa 2), .ref (sa 3), .ref (sa 4), .ref (sa 5), .ref (sa 6)])), (sa 0, .inl (y 0, 9, .inl f0)), (ad 0, .inr (2, [.int (d.1 0), .int (d.1 1), .int (d.1 2), .int (d.1 3), .ref (ad 1), .int (d.1 4), .ref (ad 11), .ref (ad 12), .ref (ad 2), .ref (ad 3), .int (d.1 5), .int (d.1 6), .int (d.1 7), .int (d.1 8)]))]) rfl ?_
                  rcases hr67 with ⟨rfl, xh69⟩ | ⟨rfl, xh70⟩
                  · refine j_if_eqF (pc := 102) C (tgt := 109) d_Days_allows_102 (by decide) (by decide) ?_
                    refine j_iconst (pc := 105) C (v := 1) d_Days_allows_105 (by decide) ?_
                    refine j_goto (pc := 106) C (tgt := 110) d_Days_allows_106 (by decide) ?_
                    exact j_iret (pc := 110) C hr (by decide) () (Or.inl ⟨rfl, by omega⟩) [5, 0, 1, 2, 3, 4] rfl (by decide) (by decide) (by decide) d_Days_allows_110
                  · refine j_if_eqT (pc := 102) C (tgt := 109) d_Days_allows_102 (by decide) (by decide) ?_
                    refine j_iconst (pc := 109) C (v := 0) d_Days_allows_109 (by decide) ?_
                    exact j_iret (pc := 110) C hr (by decide) () (Or.inr ⟨rfl, by omega⟩) [5, 0, 1, 2, 3, 4] rfl (by decide) (by decide) (by decide) d_Days_allows_110
                · refine j_if_eqT (pc := 80) C (tgt := 109) d_Days_allows_80 (by decide) (by decide) ?_
                  refine j_iconst (pc := 109) C (v := 0) d_Days_allows_109 (by decide) ?_
                  exact j_iret (pc := 110) C hr (by decide) () (Or.inr ⟨rfl, by omega⟩) [5, 0, 1, 2, 3, 4] rfl (by decide) (by decide) (by decide) d_Days_allows_110
            · refine j_if_neF (pc := 34) C (tgt := 47) d_Days_allows_34 (by decide) (show nI lw = nI 0 from (nI_eq (by omega) (by omega)).mpr (by omega)) ?_
              refine j_iload_n (pc := 37) C d_Days_allows_37 rfl 3 rfl ?_
              refine j_aload_n (pc := 38) C d_Days_allows_38 rfl 1 rfl ?_
              refine j_get (pc := 39) C gf_Days_15 3 rfl rfl d_Days_allows_39 ?_
              by_cases c71 : ¬ aq = la
              · refine j_icmp_neT (pc := 42) C (tgt := 47) d_Days_allows_42 (by decide) (show ¬ nI aq = nI la from fun e => absurd ((nI_eq (by omega) (by omega)).mp e) (by omega)) ?_
                refine j_aload_n (pc := 47) C d_Days_allows_47 rfl 0 rfl ?_
                refine j_get (pc := 48) C gf_Days_21 5 rfl rfl d_Days_allows_48 ?_
                refine j_iload_n (pc := 51) C d_Days_allows_51 rfl 2 rfl ?_
                have xh72 : gt.r 8 vq < gt.s 9 := lk_vb hlk vq (by omega)
                refine j_iald (pc := 52) C 2 rfl (v := nI ((gt.r 8) vq)) (vp_in_nI (by omega) (by decide)) (by rw [nI_clamp (by omega)]; exact (hk8 vq (by omega))) d_Days_allows_52 ?_
                refine j_istore (pc := 53) C (lv' := [(5, .int (nI ((gt.r 8) vq))), (0, .ref (ad 0)), (1, .ref h), (2, .int (nI vq)), (3, .int (nI aq)), (4, .int (nI lw))]) d_Days_allows_53 (by decide) rfl ?_
                refine j_aload_n (pc := 55) C d_Days_allows_55 rfl 1 rfl ?_
                refine j_get (pc := 56) C gf_Days_25 5 rfl rfl d_Days_allows_56 ?_
                refine j_get (pc := 59) C gf_Days_29 0 rfl rfl d_Days_allows_59 ?_
                refine j_iload (pc := 62) C d_Days_allows_62 0 rfl ?_
                have xh73 := lk_j hlk ((gt.r 8) vq) (by omega)
                obtain ⟨xh73a, xh73b, xh73c⟩ := xh73
                by_cases e74 : gt.r 6 ((gt.r 8) vq) = 0
                · refine j_iald (pc := 64) C 1 rfl (v := (-1)) (vp_in_nI (by omega) (by decide)) (by rw [nI_clamp (by omega)]; exact (xh73a.trans (if_pos e74))) d_Days_allows_64 ?_
                  refine j_istore (pc := 65) C (lv' := [(6, .int (-1)), (5, .int (nI ((gt.r 8) vq))), (0, .ref (ad 0)), (1, .ref h), (2, .int (nI vq)), (3, .int (nI aq)), (4, .int (nI lw))]) d_Days_allows_65 (by decide) rfl ?_
                  refine j_aload_n (pc := 67) C d_Days_allows_67 rfl 3 rfl ?_
                  refine j_get (pc := 68) C gf_Days_34 3 rfl rfl d_Days_allows_68 ?_
                  refine j_iload (pc := 71) C d_Days_allows_71 1 rfl ?_
                  have xh75 : bd ((gt.r 8) vq) ≤ 20 := hbd ((gt.r 8) vq) (by omega)
                  refine j_iald (pc := 73) C 4 rfl (v := nI (bd ((gt.r 8) vq))) (vp_in_nI (by omega) (by decide)) (by rw [nI_clamp (by omega)]; exact (x0 ((gt.r 8) vq) (by omega))) d_Days_allows_73 ?_
                  refine j_iload_n (pc := 74) C d_Days_allows_74 rfl 5 rfl ?_
                  refine j_iload (pc := 75) C d_Days_allows_75 6 rfl ?_
                  refine j_callSi (pc := 77) C (c_xfits l D y (bd ((gt.r 8) vq)) aq lw (by omega) (by omega) hlw) kw_Days_37 ks_Days_fits ⟨by decide, by decide⟩ ⟨by decide, by decide⟩ (wr := [(ad 1, .inr (1, [.int (d.1 9), .ref (ad 4), .ref (ad 5), .ref (ad 6), .ref (ad 7), .ref (ad 8), .ref (ad 9), .ref (ad 10)])), (ad 10, .inl (y 0, 9, .inl (d.2 6))), (ad 12, .inl (y 0, 6, .inl (d.2 8))), (h, .inr (7, [.int (nI dy), .int (nI wa), .int (nI la), .ref (sa 0), .ref (sa 1), .ref (sa 2), .ref (sa 3), .ref (sa 4), .ref (sa 5), .ref (sa 6)])), (sa 0, .inl (y 0, 9, .inl f0)), (ad 0, .inr (2, [.int (d.1 0), .int (d.1 1), .int (d.1 2), .int (d.1 3), .ref (ad 1), .int (d.1 4), .ref (ad 11), .ref (ad 12), .ref (ad 2), .ref (ad 3), .int (d.1 5), .int (d.1 6), .int (d.1 7), .int (d.1 8)]))]) [] [0, 1, 2, 3, 4, 5] rfl rfl (by decide +kernel) (by decide +kernel) (by decide +kernel) (As := [.int (nI (bd ((gt.r 8) vq))), .int (nI aq), .int (nI lw)]) (rest := []) rfl (nb rfl) rfl d_Days_allows_77 (fun r76 _ hr76 => ?_)
                  refine j_ws (ws' := [(ad 1, .inr (1, [.int (d.1 9), .ref (ad 4), .ref (ad 5), .ref (ad 6), .ref (ad 7), .ref (ad 8), .ref (ad 9), .ref (ad 10)])), (ad 10, .inl (y 0, 9, .inl (d.2 6))), (ad 12, .inl (y 0, 6, .inl (d.2 8))), (h, .inr (7, [.int (nI dy), .int (nI wa), .int (nI la), .ref (sa 0), .ref (sa 1), .ref (sa 2), .ref (sa 3), .ref (sa 4), .ref (sa 5), .ref (sa 6)])), (sa 0, .inl (y 0, 9, .inl f0)), (ad 0, .inr (2, [.int (d.1 0), .int (d.1 1), .int (d.1 2), .int (d.1 3), .ref (ad 1), .int (d.1 4), .ref (ad 11), .ref (ad 12), .ref (ad 2), .ref (ad 3), .int (d.1 5), .int (d.1 6), .int (d.1 7), .int (d.1 8)]))]) rfl ?_
                  rcases hr76 with ⟨rfl, xh78⟩ | ⟨rfl, xh79⟩
                  · refine j_if_eqF (pc := 80) C (tgt := 109) d_Days_allows_80 (by decide) (by decide) ?_
                    refine j_iload (pc := 83) C d_Days_allows_83 0 rfl ?_
                    refine j_iconst (pc := 85) C (v := (-1)) d_Days_allows_85 (by decide) ?_
                    refine j_icmp_eqT (pc := 86) C (tgt := 105) d_Days_allows_86 (by decide) (by decide) ?_
                    refine j_iconst (pc := 105) C (v := 1) d_Days_allows_105 (by decide) ?_
                    refine j_goto (pc := 106) C (tgt := 110) d_Days_allows_106 (by decide) ?_
                    exact j_iret (pc := 110) C hr (by decide) () (Or.inl ⟨rfl, by omega⟩) [5, 0, 1, 2, 3, 4] rfl (by decide) (by decide) (by decide) d_Days_allows_110
                  · refine j_if_eqT (pc := 80) C (tgt := 109) d_Days_allows_80 (by decide) (by decide) ?_
                    refine j_iconst (pc := 109) C (v := 0) d_Days_allows_109 (by decide) ?_
                    exact j_iret (pc := 110) C hr (by decide) () (Or.inr ⟨rfl, by omega⟩) [5, 0, 1, 2, 3, 4] rfl (by decide) (by decide) (by decide) d_Days_allows_110
                · refine j_iald (pc := 64) C 1 rfl (v := nI (gt.r 6 ((gt.r 8) vq) - 1)) (vp_in_nI (by omega) (by decide)) (by rw [nI_clamp (by omega)]; exact (xh73a.trans (if_neg e74))) d_Days_allows_64 ?_
                  refine j_istore (pc := 65) C (lv' := [(6, .int (nI (gt.r 6 ((gt.r 8) vq) - 1))), (5, .int (nI ((gt.r 8) vq))), (0, .ref (ad 0)), (1, .ref h), (2, .int (nI vq)), (3, .int (nI aq)), (4, .int (nI lw))]) d_Days_allows_65 (by decide) rfl ?_
                  refine j_aload_n (pc := 67) C d_Days_allows_67 rfl 3 rfl ?_
                  refine j_get (pc := 68) C gf_Days_34 3 rfl rfl d_Days_allows_68 ?_
                  refine j_iload (pc := 71) C d_Days_allows_71 1 rfl ?_
                  have xh80 : bd ((gt.r 8) vq) ≤ 20 := hbd ((gt.r 8) vq) (by omega)
                  refine j_iald (pc := 73) C 4 rfl (v := nI (bd ((gt.r 8) vq))) (vp_in_nI (by omega) (by decide)) (by rw [nI_clamp (by omega)]; exact (x0 ((gt.r 8) vq) (by omega))) d_Days_allows_73 ?_
                  refine j_iload_n (pc := 74) C d_Days_allows_74 rfl 5 rfl ?_
                  refine j_iload (pc := 75) C d_Days_allows_75 6 rfl ?_
                  refine j_callSi (pc := 77) C (c_xfits l D y (bd ((gt.r 8) vq)) aq lw (by omega) (by omega) hlw) kw_Days_37 ks_Days_fits ⟨by decide, by decide⟩ ⟨by decide, by decide⟩ (wr := [(ad 1, .inr (1, [.int (d.1 9), .ref (ad 4), .ref (ad 5), .ref (ad 6), .ref (ad 7), .ref (ad 8), .ref (ad 9), .ref (ad 10)])), (ad 10, .inl (y 0, 9, .inl (d.2 6))), (ad 12, .inl (y 0, 6, .inl (d.2 8))), (h, .inr (7, [.int (nI dy), .int (nI wa), .int (nI la), .ref (sa 0), .ref (sa 1), .ref (sa 2), .ref (sa 3), .ref (sa 4), .ref (sa 5), .ref (sa 6)])), (sa 0, .inl (y 0, 9, .inl f0)), (ad 0, .inr (2, [.int (d.1 0), .int (d.1 1), .int (d.1 2), .int (d.1 3), .ref (ad 1), .int (d.1 4), .ref (ad 11), .ref (ad 12), .ref (ad 2), .ref (ad 3), .int (d.1 5), .int (d.1 6), .int (d.1 7), .int (d.1 8)]))]) [] [0, 1, 2, 3, 4, 5] rfl rfl (by decide +kernel) (by decide +kernel) (by decide +kernel) (As := [.int (nI (bd ((gt.r 8) vq))), .int (nI aq), .int (nI lw)]) (rest := []) rfl (nb rfl) rfl d_Days_allows_77 (fun r81 _ hr81 => ?_)
                  refine j_ws (ws' := [(ad 1, .inr (1, [.int (d.1 9), .ref (ad 4), .ref (ad 5), .ref (ad 6), .ref (ad 7), .ref (ad 8), .ref (ad 9), .ref (ad 10)])), (ad 10, .inl (y 0, 9, .inl (d.2 6))), (ad 12, .inl (y 0, 6, .inl (d.2 8))), (h, .inr (7, [.int (nI dy), .int (nI wa), .int (nI la), .ref (sa 0), .ref (sa 1), .ref (sa 2), .ref (sa 3), .ref (sa 4), .ref (sa 5), .ref (sa 6)])), (sa 0, .inl (y 0, 9, .inl f0)), (ad 0, .inr (2, [.int (d.1 0), .int (d.1 1), .int (d.1 2), .int (d.1 3), .ref (ad 1), .int (d.1 4), .ref (ad 11), .ref (ad 12), .ref (ad 2), .ref (ad 3), .int (d.1 5), .int (d.1 6), .int (d.1 7), .int (d.1 8)]))]) rfl ?_
                  rcases hr81 with ⟨rfl, xh83⟩ | ⟨rfl, xh84⟩
                  · refine j_if_eqF (pc := 80) C (tgt := 109) d_Days_allows_80 (by decide) (by decide) ?_
                    refine j_iload (pc := 83) C d_Days_allows_83 0 rfl ?_
                    refine j_iconst (pc := 85) C (v := (-1)) d_Days_allows_85 (by decide) ?_
                    refine j_icmp_eqF (pc := 86) C (tgt := 105) d_Days_allows_86 (by decide) (nI_nm1 (by omega)) ?_
                    refine j_aload_n (pc := 89) C d_Days_allows_89 rfl 3 rfl ?_
                    refine j_get (pc := 90) C gf_Days_34 3 rfl rfl d_Days_allows_90 ?_
                    refine j_iload (pc := 93) C d_Days_allows_93 0 rfl ?_
                    have xh85 : bd (gt.r 6 ((gt.r 8) vq) - 1) ≤ 20 := hbd (gt.r 6 ((gt.r 8) vq) - 1) (by omega)
                    refine j_iald (pc := 95) C 4 rfl (v := nI (bd (gt.r 6 ((gt.r 8) vq) - 1))) (vp_in_nI (by omega) (by decide)) (by rw [nI_clamp (by omega)]; exact (x0 (gt.r 6 ((gt.r 8) vq) - 1) (by omega))) d_Days_allows_95 ?_
                    refine j_iload_n (pc := 96) C d_Days_allows_96 rfl 5 rfl ?_
                    refine j_iload (pc := 97) C d_Days_allows_97 6 rfl ?_
                    refine j_callSi (pc := 99) C (c_xfits l D y (bd (gt.r 6 ((gt.r 8) vq) - 1)) aq lw (by omega) (by omega) hlw) kw_Days_37 ks_Days_fits ⟨by decide, by decide⟩ ⟨by decide, by decide⟩ (wr := [(ad 1, .inr (1, [.int (d.1 9), .ref (ad 4), .ref (ad 5), .ref (ad 6), .ref (ad 7), .ref (ad 8), .ref (ad 9), .ref (ad 10)])), (ad 10, .inl (y 0, 9, .inl (d.2 6))), (ad 12, .inl (y 0, 6, .inl (d.2 8))), (h, .inr (7, [.int (nI dy), .int (nI wa), .int (nI la), .ref (sa 0), .ref (sa 1), .ref (sa 2), .ref (sa 3), .ref (sa 4), .ref (sa 5), .ref (sa 6)])), (sa 0, .inl (y 0, 9, .inl f0)), (ad 0, .inr (2, [.int (d.1 0), .int (d.1 1), .int (d.1 2), .int (d.1 3), .ref (ad 1), .int (d.1 4), .ref (ad 11), .ref (ad 12), .ref (ad 2), .ref (ad 3), .int (d.1 5), .int (d.1 6), .int (d.1 7), .int (d.1 8)]))]) [] [0, 1, 2, 3, 4, 5] rfl rfl (by decide +kernel) (by decide +kernel) (by decide +kernel) (As := [.int (nI (bd (gt.r 6 ((gt.r 8) vq) - 1))), .int (nI aq), .int (nI lw)]) (rest := []) rfl (nb rfl) rfl d_Days_allows_99 (fun r86 _ hr86 => ?_)
                    refine j_ws (ws' := [(ad 1, .inr (1, [.int (d.1 9), .ref (ad 4), .ref (ad 5), .ref (ad 6), .ref (ad 7), .ref (ad 8), .ref (ad 9), .ref (ad 10)])), (ad 10, .inl (y 0, 9, .inl (d.2 6))), (ad 12, .inl (y 0, 6, .inl (d.2 8))), (h, .inr (7, [.int (nI dy), .int (nI wa), .int (nI la), .ref (sa 0), .ref (sa 1), .ref (sa 2), .ref (sa 3), .ref (sa 4), .ref (sa 5), .ref (sa 6)])), (sa 0, .inl (y 0, 9, .inl f0)), (ad 0, .inr (2, [.int (d.1 0), .int (d.1 1), .int (d.1 2), .int (d.1 3), .ref (ad 1), .int (d.1 4), .ref (ad 11), .ref (ad 12), .ref (ad 2), .ref (ad 3), .int (d.1 5), .int (d.1 6), .int (d.1 7), .int (d.1 8)]))]) rfl ?_
                    rcases hr86 with ⟨rfl, xh88⟩ | ⟨rfl, xh89⟩
                    · refine j_if_eqF (pc := 102) C (tgt := 109) d_Days_allows_102 (by decide) (by decide) ?_
                      refine j_iconst (pc := 105) C (v := 1) d_Days_allows_105 (by decide) ?_
                      refine j_goto (pc := 106) C (tgt := 110) d_Days_allows_106 (by decide) ?_
                      exact j_iret (pc := 110) C hr (by decide) () (Or.inl ⟨rfl, by omega⟩) [5, 0, 1, 2, 3, 4] rfl (by decide) (by decide) (by decide) d_Days_allows_110
                    · refine j_if_eqT (pc := 102) C (tgt := 109) d_Days_allows_102 (by decide) (by decide) ?_
                      refine j_iconst (pc := 109) C (v := 0) d_Days_allows_109 (by decide) ?_
                      exact j_iret (pc := 110) C hr (by decide) () (Or.inr ⟨rfl, by omega⟩) [5, 0, 1, 2, 3, 4] rfl (by decide) (by decide) (by decide) d_Days_allows_110
                  · refine j_if_eqT (pc := 80) C (tgt := 109) d_Days_allows_80 (by decide) (by decide) ?_
                    refine j_iconst (pc := 109) C (v := 0) d_Days_allows_109 (by decide) ?_
                    exact j_iret (pc := 110) C hr (by decide) () (Or.inr ⟨rfl, by omega⟩) [5, 0, 1, 2, 3, 4] rfl (by decide) (by decide) (by decide) d_Days_allows_110
              · refine j_icmp_neF (pc := 42) C (tgt := 47) d_Days_allows_42 (by decide) (show nI aq = nI la from (nI_eq (by omega) (by omega)).mpr (by omega)) ?_
                refine j_iconst (pc := 45) C (v := 0) d_Days_allows_45 (by decide) ?_
                exact j_iret (pc := 46) C hr (by decide) () (Or.inr ⟨rfl, by omega⟩) [5, 0, 1, 2, 3, 4] rfl (by decide) (by decide) (by decide) d_Days_allows_46
          · refine j_icmp_neF (pc := 27) C (tgt := 32) d_Days_allows_27 (by decide) (show nI lw = nI 3 from (nI_eq (by omega) (by omega)).mpr (by omega)) ?_
            refine j_iconst (pc := 30) C (v := 0) d_Days_allows_30 (by decide) ?_
            exact j_iret (pc := 31) C hr (by decide) () (Or.inr ⟨rfl, by omega⟩) [5, 0, 1, 2, 3, 4] rfl (by decide) (by decide) (by decide) d_Days_allows_31
        · refine j_if_eqT (pc := 21) C (tgt := 30) d_Days_allows_21 (by decide) (by decide) ?_
          refine j_iconst (pc := 30) C (v := 0) d_Days_allows_30 (by decide) ?_
          exact j_iret (pc := 31) C hr (by decide) () (Or.inr ⟨rfl, by omega⟩) [5, 0, 1, 2, 3, 4] rfl (by decide) (by decide) (by decide) d_Days_allows_31
  · refine j_if_neF (pc := 1) C (tgt := 6) d_Days_allows_1 (by decide) (show nI aq = nI 0 from (nI_eq (by omega) (by omega)).mpr (by omega)) ?_
    refine j_iconst (pc := 4) C (v := 1) d_Days_allows_4 (by decide) ?_
    exact j_iret (pc := 5) C hr (by decide) () (Or.inl ⟨rfl, by omega⟩) [0, 1, 2, 3, 4, 5] rfl (by decide) (by decide) (by decide) d_Days_allows_5
set_option maxHeartbeats 4000000 in
set_option maxRecDepth 100000 in
theorem c_xallows_n (l : Launch) (D : va_G) (y : Nat → ClassId) (ad : Nat → Nat) (d : LD) (gt : LA_) (h : Nat) (sa : Nat → Nat) (dy : Nat) (wa : Nat) (la : Nat) (f0 : Nat → Int32) (bd : Nat → Nat) (aq : Nat) (lw : Nat) (hlk : LKR gt d) (ha : aq ≤ 2) : CT l D y ⟨"NineBoards$Days", "allows", "(LNineBoards$Lake;LNineBoards$State;III)Z"⟩ prog_3_method_2_code 7 (some .boolean) ({ frames := 1, cells := 0, slots := 0, locals := 21 } : Room) [.ref (ad 0), .ref h, .int (-1), .int (nI aq), .int (nI lw)] [(ad 0, .inr (2, [.int (d.1 0), .int (d.1 1), .int (d.1 2), .int (d.1 3), .ref (ad 1), .int (d.1 4), .ref (ad 11), .ref (ad 12), .ref (ad 2), .ref (ad 3), .int (d.1 5), .int (d.1 6), .int (d.1 7), .int (d.1 8)])), (ad 1, .inr (1, [.int (d.1 9), .ref (ad 4), .ref (ad 5), .ref (ad 6), .ref (ad 7), .ref (ad 8), .ref (ad 9), .ref (ad 10)])), (ad 10, .inl (y 0, 9, .inl (d.2 6))), (ad 12, .inl (y 0, 6, .inl (d.2 8))), (h, .inr (7, [.int (nI dy), .int (nI wa), .int (nI la), .ref (sa 0), .ref (sa 1), .ref (sa 2), .ref (sa 3), .ref (sa 4), .ref (sa 5), .ref (sa 6)])), (sa 0, .inl (y 0, 9, .inl f0))] (QI D [(ad 0, .inr (2, [.int (d.1 0), .int (d.1 1), .int (d.1 2), .int (d.1 3), .ref (ad 1), .int (d.1 4), .ref (ad 11), .ref (ad 12), .ref (ad 2), .ref (ad 3), .int (d.1 5), .int (d.1 6), .int (d.1 7), .int (d.1 8)])), (ad 1, .inr (1, [.int (d.1 9), .ref (ad 4), .ref (ad 5), .ref (ad 6), .ref (ad 7), .ref (ad 8), .ref (ad 9), .ref (ad 10)])), (ad 10, .inl (y 0, 9, .inl (d.2 6))), (ad 12, .inl (y 0, 6, .inl (d.2 8))), (h, .inr (7, [.int (nI dy), .int (nI wa), .int (nI la), .ref (sa 0), .ref (sa 1), .ref (sa 2), .ref (sa 3), .ref (sa 4), .ref (sa 5), .ref (sa 6)])), (sa 0, .inl (y 0, 9, .inl f0))] (fun (r : Int32) (u : Unit) => ((r = 1 ∧ (aq = 0)) ∨ (r = 0 ∧ ¬ (aq = 0)))) (fun _ => [(ad 0, .inr (2, [.int (d.1 0), .int (d.1 1), .int (d.1 2), .int (d.1 3), .ref (ad 1), .int (d.1 4), .ref (ad 11), .ref (ad 12), .ref (ad 2), .ref (ad 3), .int (d.1 5), .int (d.1 6), .int (d.1 7), .int (d.1 8)])), (ad 1, .inr (1, [.int (d.1 9), .ref (ad 4), .ref (ad 5), .ref (ad 6), .ref (ad 7), .ref (ad 8), .ref (ad 9), .ref (ad 10)])), (ad 10, .inl (y 0, 9, .inl (d.2 6))), (ad 12, .inl (y 0, 6, .inl (d.2 8))), (h, .inr (7, [.int (nI dy), .int (nI wa), .int (nI la), .ref (sa 0), .ref (sa 1), .ref (sa 2), .ref (sa 3), .ref (sa 4), .ref (sa 5), .ref (sa 6)])), (sa 0, .inl (y 0, 9, .inl f0))])) := by
  refine CT.of (by decide) (nb rfl) ?_
  intro p e s m args below meth c C hr
  refine j_lv (lv' := [(0, .ref (ad 0)), (1, .ref h), (2, .int (-1)), (3, .int (nI aq)), (4, .int (nI lw))]) rfl ?_
  obtain ⟨b9, b4, b10, b11⟩ := lk_b hlk
  obtain ⟨b1, b1x, b2, b2x, b3, b5, b6, b7, b8⟩ := lk_n hlk
  have hk8 : XW (gt.s 4) (d.2 8) (gt.r 8) := lk_v hlk
  refine j_iload_n (pc := 0) C d_Days_allows_0 rfl 3 rfl ?_
  by_cases c1 : ¬ aq = 0
  · refine j_if_neT (pc := 1) C (tgt := 6) d_Days_allows_1 (by decide) (show ¬ nI aq = nI 0 from fun e => absurd ((nI_eq (by omega) (by omega)).mp e) (by omega)) ?_
    refine j_iload_n (pc := 6) C d_Days_allows_6 rfl 3 rfl ?_
    refine j_iconst (pc := 7) C (v := 1) d_Days_allows_7 (by decide) ?_
    by_cases c2 : aq = 1
    · refine j_icmp_eqT (pc := 8) C (tgt := 16) d_Days_allows_8 (by decide) (show nI aq = nI 1 from (nI_eq (by omega) (by omega)).mpr (by omega)) ?_
      refine j_aload_n (pc := 16) C d_Days_allows_16 rfl 0 rfl ?_
      refine j_iload_n (pc := 17) C d_Days_allows_17 rfl 2 rfl ?_
      refine j_callVi (pc := 18) C (c_yhasVillage_m l D y ad d gt hlk) kw_Days_9 kv_Lake_hasVillage 0 2 rfl rfl ⟨by decide, by decide⟩ ⟨by decide, by decide⟩ (wr := [(ad 1, .inr (1, [.int (d.1 9), .ref (ad 4), .ref (ad 5), .ref (ad 6), .ref (ad 7), .ref (ad 8), .ref (ad 9), .ref (ad 10)])), (ad 10, .inl (y 0, 9, .inl (d.2 6))), (ad 12, .inl (y 0, 6, .inl (d.2 8))), (h, .inr (7, [.int (nI dy), .int (nI wa), .int (nI la), .ref (sa 0), .ref (sa 1), .ref (sa 2), .ref (sa 3), .ref (sa 4), .ref (sa 5), .ref (sa 6)])), (sa 0, .inl (y 0, 9, .inl f0))]) [0] [1, 2, 3, 4, 5] rfl rfl (by decide +kernel) (by decide +kernel) (by decide +kernel) (As := [.int (-1)]) (rest := []) rfl (nb rfl) rfl d_Days_allows_18 (fun r3 _ hr3 => ?_)
      obtain rfl := hr3
      refine j_ws (ws' := [(ad 1, .inr (1, [.int (d.1 9), .ref (ad 4), .ref (ad 5), .ref (ad 6), .ref (ad 7), .ref (ad 8), .ref (ad 9), .ref (ad 10)])), (ad 10, .inl (y 0, 9, .inl (d.2 6))), (ad 12, .inl (y 0, 6, .inl (d.2 8))), (h, .inr (7, [.int (nI dy), .int (nI wa), .int (nI la), .ref (sa 0), .ref (sa 1), .ref (sa 2), .ref (sa 3), .ref (sa 4), .ref (sa 5), .ref (sa 6)])), (sa 0, .inl (y 0, 9, .inl f0)), (ad 0, .inr (2, [.int (d.1 0), .int (d.1 1), .int (d.1 2), .int (d.1 3), .ref (ad 1), .int (d.1 4), .ref (ad 11), .ref (ad 12), .ref (ad 2), .ref (ad 3), .int (d.1 5), .int (d.1 6), .int (d.1 7), .int (d.1 8)]))]) rfl ?_
      refine j_if_eqT (pc := 21) C (tgt := 30) d_Days_allows_21 (by decide) (by decide) ?_
      refine j_iconst (pc := 30) C (v := 0) d_Days_allows_30 (by decide) ?_
      exact j_iret (pc := 31) C hr (by decide) () (Or.inr ⟨rfl, by omega⟩) [5, 0, 1, 2, 3, 4] rfl (by decide) (by decide) (by decide) d_Days_allows_31
    · refine j_icmp_eqF (pc := 8) C (tgt := 16) d_Days_allows_8 (by decide) (show ¬ nI aq = nI 1 from fun e => absurd ((nI_eq (by omega) (by omega)).mp e) (by omega)) ?_
      refine j_iload_n (pc := 11) C d_Days_allows_11 rfl 3 rfl ?_
      refine j_iconst (pc := 12) C (v := 2) d_Days_allows_12 (by decide) ?_
      by_cases c4 : ¬ aq = 2
      · refine j_icmp_neT (pc := 13) C (tgt := 30) d_Days_allows_13 (by decide) (show ¬ nI aq = nI 2 from fun e => absurd ((nI_eq (by omega) (by omega)).mp e) (by omega)) ?_
        refine j_iconst (pc := 30) C (v := 0) d_Days_allows_30 (by decide) ?_
        exact j_iret (pc := 31) C hr (by decide) () (Or.inr ⟨rfl, by omega⟩) [0, 1, 2, 3, 4, 5] rfl (by decide) (by decide) (by decide) d_Days_allows_31
      · refine j_icmp_neF (pc := 13) C (tgt := 30) d_Days_allows_13 (by decide) (show nI aq = nI 2 from (nI_eq (by omega) (by omega)).mpr (by omega)) ?_
        refine j_aload_n (pc := 16) C d_Days_allows_16 rfl 0 rfl ?_
        refine j_iload_n (pc := 17) C d_Days_allows_17 rfl 2 rfl ?_
        refine j_callVi (pc := 18) C (c_yhasVillage_m l D y ad d gt hlk) kw_Days_9 kv_Lake_hasVillage 0 2 rfl rfl ⟨by decide, by decide⟩ ⟨by decide, by decide⟩ (wr := [(ad 1, .inr (1, [.int (d.1 9), .ref (ad 4), .ref (ad 5), .ref (ad 6), .ref (ad 7), .ref (ad 8), .ref (ad 9), .ref (ad 10)])), (ad 10, .inl (y 0, 9, .inl (d.2 6))), (ad 12, .inl (y 0, 6, .inl (d.2 8))), (h, .inr (7, [.int (nI dy), .int (nI wa), .int (nI la), .ref (sa 0), .ref (sa 1), .ref (sa 2), .ref (sa 3), .ref (sa 4), .ref (sa 5), .ref (sa 6)])), (sa 0, .inl (y 0, 9, .inl f0))]) [0] [1, 2, 3, 4, 5] rfl rfl (by decide +kernel) (by decide +kernel) (by decide +kernel) (As := [.int (-1)]) (rest := []) rfl (nb rfl) rfl d_Days_allows_18 (fun r5 _ hr5 => ?_)
        obtain rfl := hr5
        refine j_ws (ws' := [(ad 1, .inr (1, [.int (d.1 9), .ref (ad 4), .ref (ad 5), .ref (ad 6), .ref (ad 7), .ref (ad 8), .ref (ad 9), .ref (ad 10)])), (ad 10, .inl (y 0, 9, .inl (d.2 6))), (ad 12, .inl (y 0, 6, .inl (d.2 8))), (h, .inr (7, [.int (nI dy), .int (nI wa), .int (nI la), .ref (sa 0), .ref (sa 1), .ref (sa 2), .ref (sa 3), .ref (sa 4), .ref (sa 5), .ref (sa 6)])), (sa 0, .inl (y 0, 9, .inl f0)), (ad 0, .inr (2, [.int (d.1 0), .int (d.1 1), .int (d.1 2), .int (d.1 3), .ref (ad 1), .int (d.1 4), .ref (ad 11), .ref (ad 12), .ref (ad 2), .ref (ad 3), .int (d.1 5), .int (d.1 6), .int (d.1 7), .int (d.1 8)]))]) rfl ?_
        refine j_if_eqT (pc := 21) C (tgt := 30) d_Days_allows_21 (by decide) (by decide) ?_
        refine j_iconst (pc := 30) C (v := 0) d_Days_allows_30 (by decide) ?_
        exact j_iret (pc := 31) C hr (by decide) () (Or.inr ⟨rfl, by omega⟩) [5, 0, 1, 2, 3, 4] rfl (by decide) (by decide) (by decide) d_Days_allows_31
  · refine j_if_neF (pc := 1) C (tgt := 6) d_Days_allows_1 (by decide) (show nI aq = nI 0 from (nI_eq (by omega) (by omega)).mpr (by omega)) ?_
    refine j_iconst (pc := 4) C (v := 1) d_Days_allows_4 (by decide) ?_
    exact j_iret (pc := 5) C hr (by decide) () (Or.inl ⟨rfl, by omega⟩) [0, 1, 2, 3, 4, 5] rfl (by decide) (by decide) (by decide) d_Days_allows_5
set_option maxHeartbeats 4000000 in
set_option maxRecDepth 100000 in
theorem c_xallows_o (l : Launch) (D : va_G) (y : Nat → ClassId) (ad : Nat → Nat) (d : LD) (gt : LA_) (h : Nat) (sa : Nat → Nat) (dy : Nat) (wa : Nat) (la : Nat) (f0 : Nat → Int32) (bd : Nat → Nat) (vi : Int32) (v : Int32) (lw : Nat) (h0 : ¬ v = 0) (h1 : ¬ v = 1) (h2 : ¬ v = 2) : CT l D y ⟨"NineBoards$Days", "allows", "(LNineBoards$Lake;LNineBoards$State;III)Z"⟩ prog_3_method_2_code 7 (some .boolean) ({ frames := 0, cells := 0, slots := 0, locals := 0 } : Room) [.ref (ad 0), .ref h, .int vi, .int v, .int (nI lw)] [(ad 0, .inr (2, [.int (d.1 0), .int (d.1 1), .int (d.1 2), .int (d.1 3), .ref (ad 1), .int (d.1 4), .ref (ad 11), .ref (ad 12), .ref (ad 2), .ref (ad 3), .int (d.1 5), .int (d.1 6), .int (d.1 7), .int (d.1 8)])), (ad 1, .inr (1, [.int (d.1 9), .ref (ad 4), .ref (ad 5), .ref (ad 6), .ref (ad 7), .ref (ad 8), .ref (ad 9), .ref (ad 10)])), (ad 10, .inl (y 0, 9, .inl (d.2 6))), (ad 12, .inl (y 0, 6, .inl (d.2 8))), (h, .inr (7, [.int (nI dy), .int (nI wa), .int (nI la), .ref (sa 0), .ref (sa 1), .ref (sa 2), .ref (sa 3), .ref (sa 4), .ref (sa 5), .ref (sa 6)])), (sa 0, .inl (y 0, 9, .inl f0))] (QI D [(ad 0, .inr (2, [.int (d.1 0), .int (d.1 1), .int (d.1 2), .int (d.1 3), .ref (ad 1), .int (d.1 4), .ref (ad 11), .ref (ad 12), .ref (ad 2), .ref (ad 3), .int (d.1 5), .int (d.1 6), .int (d.1 7), .int (d.1 8)])), (ad 1, .inr (1, [.int (d.1 9), .ref (ad 4), .ref (ad 5), .ref (ad 6), .ref (ad 7), .ref (ad 8), .ref (ad 9), .ref (ad 10)])), (ad 10, .inl (y 0, 9, .inl (d.2 6))), (ad 12, .inl (y 0, 6, .inl (d.2 8))), (h, .inr (7, [.int (nI dy), .int (nI wa), .int (nI la), .ref (sa 0), .ref (sa 1), .ref (sa 2), .ref (sa 3), .ref (sa 4), .ref (sa 5), .ref (sa 6)])), (sa 0, .inl (y 0, 9, .inl f0))] (fun (r : Int32) (u : Unit) => r = 0) (fun _ => [(ad 0, .inr (2, [.int (d.1 0), .int (d.1 1), .int (d.1 2), .int (d.1 3), .ref (ad 1), .int (d.1 4), .ref (ad 11), .ref (ad 12), .ref (ad 2), .ref (ad 3), .int (d.1 5), .int (d.1 6), .int (d.1 7), .int (d.1 8)])), (ad 1, .inr (1, [.int (d.1 9), .ref (ad 4), .ref (ad 5), .ref (ad 6), .ref (ad 7), .ref (ad 8), .ref (ad 9), .ref (ad 10)])), (ad 10, .inl (y 0, 9, .inl (d.2 6))), (ad 12, .inl (y 0, 6, .inl (d.2 8))), (h, .inr (7, [.int (nI dy), .int (nI wa), .int (nI la), .ref (sa 0), .ref (sa 1), .ref (sa 2), .ref (sa 3), .ref (sa 4), .ref (sa 5), .ref (sa 6)])), (sa 0, .inl (y 0, 9, .inl f0))])) := by
  refine CT.of (by decide) (nb rfl) ?_
  intro p e s m args below meth c C hr
  refine j_lv (lv' := [(0, .ref (ad 0)), (1, .ref h), (2, .int vi), (3, .int v), (4, .int (nI lw))]) rfl ?_
  refine j_iload_n (pc := 0) C d_Days_allows_0 rfl 3 rfl ?_
  refine j_if_neT (pc := 1) C (tgt := 6) d_Days_allows_1 (by decide) h0 ?_
  refine j_iload_n (pc := 6) C d_Days_allows_6 rfl 3 rfl ?_
  refine j_iconst (pc := 7) C (v := 1) d_Days_allows_7 (by decide) ?_
  refine j_icmp_eqF (pc := 8) C (tgt := 16) d_Days_allows_8 (by decide) h1 ?_
  refine j_iload_n (pc := 11) C d_Days_allows_11 rfl 3 rfl ?_
  refine j_iconst (pc := 12) C (v := 2) d_Days_allows_12 (by decide) ?_
  refine j_icmp_neT (pc := 13) C (tgt := 30) d_Days_allows_13 (by decide) h2 ?_
  refine j_iconst (pc := 30) C (v := 0) d_Days_allows_30 (by decide) ?_
  exact j_iret (pc := 31) C hr (by decide) () rfl [0, 1, 2, 3, 4, 5] rfl (by decide) (by decide) (by decide) d_Days_allows_31
set_option maxHeartbeats 4000000 in
set_option maxRecDepth 100000 in
theorem c_xmoveBoards_1 (l : Launch) (D : va_G) (y : Nat → ClassId) (ad : Nat → Nat) (d : LD) (gt : LA_) (h : Nat) (sa : Nat → Nat) (dy : Nat) (wa : Nat) (la : Nat) (f0 : Nat → Int32) (bd : Nat → Nat) (hlk : LKR gt d) (x0 : XW 9 f0 bd) (hbd : BN (gt.s 9) bd 20) (hdy : dy ≤ 2000) (hv4 : 0 < gt.s 4) (hq1 : 1 ≤ bd (gt.r 8 (dy % gt.s 4))) (hq2 : (gt.r 6 (gt.r 8 (dy % gt.s 4)) = 0 ∨ 1 ≤ bd (gt.r 6 (gt.r 8 (dy % gt.s 4)) - 1))) : CT l D y ⟨"NineBoards$Days", "moveBoards", "(LNineBoards$Lake;LNineBoards$State;I)V"⟩ prog_3_method_7_code 6 none ({ frames := 2, cells := 0, slots := 0, locals := 43 } : Room) [.ref (ad 0), .ref h, .int (-1)] [(ad 0, .inr (2, [.int (d.1 0), .int (d.1 1), .int (d.1 2), .int (d.1 3), .ref (ad 1), .int (d.1 4), .ref (ad 11), .ref (ad 12), .ref (ad 2), .ref (ad 3), .int (d.1 5), .int (d.1 6), .int (d.1 7), .int (d.1 8)])), (ad 1, .inr (1, [.int (d.1 9), .ref (ad 4), .ref (ad 5), .ref (ad 6), .ref (ad 7), .ref (ad 8), .ref (ad 9), .ref (ad 10)])), (ad 10, .inl (y 0, 9, .inl (d.2 6))), (ad 12, .inl (y 0, 6, .inl (d.2 8))), (h, .inr (7, [.int (nI dy), .int (nI wa), .int (nI la), .ref (sa 0), .ref (sa 1), .ref (sa 2), .ref (sa 3), .ref (sa 4), .ref (sa 5), .ref (sa 6)])), (sa 0, .inl (y 0, 9, .inl f0))] (QV D [(ad 0, .inr (2, [.int (d.1 0), .int (d.1 1), .int (d.1 2), .int (d.1 3), .ref (ad 1), .int (d.1 4), .ref (ad 11), .ref (ad 12), .ref (ad 2), .ref (ad 3), .int (d.1 5), .int (d.1 6), .int (d.1 7), .int (d.1 8)])), (ad 1, .inr (1, [.int (d.1 9), .ref (ad 4), .ref (ad 5), .ref (ad 6), .ref (ad 7), .ref (ad 8), .ref (ad 9), .ref (ad 10)])), (ad 10, .inl (y 0, 9, .inl (d.2 6))), (ad 12, .inl (y 0, 6, .inl (d.2 8))), (h, .inr (7, [.int (nI dy), .int (nI wa), .int (nI la), .ref (sa 0), .ref (sa 1), .ref (sa 2), .ref (sa 3), .ref (sa 4), .ref (sa 5), .ref (sa 6)])), (sa 0, .inl (y 0, 9, .inl f0))] (fun (u : Nat → Int32) => XW 9 u (mvB gt bd (gt.r 8 (dy % gt.s 4)) 1)) (fun u => [(ad 0, .inr (2, [.int (d.1 0), .int (d.1 1), .int (d.1 2), .int (d.1 3), .ref (ad 1), .int (d.1 4), .ref (ad 11), .ref (ad 12), .ref (ad 2), .ref (ad 3), .int (d.1 5), .int (d.1 6), .int (d.1 7), .int (d.1 8)])), (ad 1, .inr (1, [.int (d.1 9), .ref (ad 4), .ref (ad 5), .ref (ad 6), .ref (ad 7), .ref (ad 8), .ref (ad 9), .ref (ad 10)])), (ad 10, .inl (y 0, 9, .inl (d.2 6))), (ad 12, .inl (y 0, 6, .inl (d.2 8))), (h, .inr (7, [.int (nI dy), .int (nI wa), .int (nI la), .ref (sa 0), .ref (sa 1), .ref (sa 2), .ref (sa 3), .ref (sa 4), .ref (sa 5), .ref (sa 6)])), (sa 0, .inl (y 0, 9, .inl u))])) := by
  refine CT.of (by decide) (nb rfl) ?_
  intro p e s m args below meth c C hr
  refine j_lv (lv' := [(0, .ref (ad 0)), (1, .ref h), (2, .int (-1))]) rfl ?_
  obtain ⟨b9, b4, b10, b11⟩ := lk_b hlk
  obtain ⟨b1, b1x, b2, b2x, b3, b5, b6, b7, b8⟩ := lk_n hlk
  have hk8 : XW (gt.s 4) (d.2 8) (gt.r 8) := lk_v hlk
  have hvq : dy % gt.s 4 < gt.s 4 := Nat.mod_lt _ hv4
  refine j_aload_n (pc := 0) C d_Days_moveBoards_0 rfl 0 rfl ?_
  refine j_aload_n (pc := 1) C d_Days_moveBoards_1 rfl 1 rfl ?_
  refine j_get (pc := 2) C gf_Days_59 4 rfl rfl d_Days_moveBoards_2 ?_
  refine j_callVi (pc := 5) C (c_xvillageOn l D y ad d gt dy hlk (by omega)) kw_Days_109 kv_Lake_villageOn 0 2 rfl rfl ⟨by decide, by decide⟩ ⟨by decide, by decide⟩ (wr := [(ad 1, .inr (1, [.int (d.1 9), .ref (ad 4), .ref (ad 5), .ref (ad 6), .ref (ad 7), .ref (ad 8), .ref (ad 9), .ref (ad 10)])), (ad 10, .inl (y 0, 9, .inl (d.2 6))), (ad 12, .inl (y 0, 6, .inl (d.2 8))), (h, .inr (7, [.int (nI dy), .int (nI wa), .int (nI la), .ref (sa 0), .ref (sa 1), .ref (sa 2), .ref (sa 3), .ref (sa 4), .ref (sa 5), .ref (sa 6)])), (sa 0, .inl (y 0, 9, .inl f0))]) [0] [1, 2, 3, 4, 5] rfl rfl (by decide +kernel) (by decide +kernel) (by decide +kernel) (As := [.int (nI dy)]) (rest := []) rfl (nb rfl) rfl d_Days_moveBoards_5 (fun r1 _ hr1 => ?_)
  refine j_ws (ws' := [(ad 1, .inr (1, [.int (d.1 9), .ref (ad 4), .ref (ad 5), .ref (ad 6), .ref (ad 7), .ref (ad 8), .ref (ad 9), .ref (ad 10)])), (ad 10, .inl (y 0, 9, .inl (d.2 6))), (ad 12, .inl (y 0, 6, .inl (d.2 8))), (h, .inr (7, [.int (nI dy), .int (nI wa), .int (nI la), .ref (sa 0), .ref (sa 1), .ref (sa 2), .ref (sa 3), .ref (sa 4), .ref (sa 5), .ref (sa 6)])), (sa 0, .inl (y 0, 9, .inl f0)), (ad 0, .inr (2, [.int (d.1 0), .int (d.1 1), .int (d.1 2), .int (d.1 3), .ref (ad 1), .int (d.1 4), .ref (ad 11), .ref (ad 12), .ref (ad 2), .ref (ad 3), .int (d.1 5), .int (d.1 6), .int (d.1 7), .int (d.1 8)]))]) rfl ?_
  rcases hr1 with ⟨rfl, xh3⟩ | ⟨rfl, xh4⟩
  · exact absurd xh3 (by omega)
  · refine j_istore_n (pc := 8) C (lv' := [(3, .int (nI (dy % gt.s 4))), (0, .ref (ad 0)), (1, .ref h), (2, .int (-1))]) d_Days_moveBoards_8 rfl (by decide) rfl ?_
    refine j_iload_n (pc := 9) C d_Days_moveBoards_9 rfl 0 rfl ?_
    refine j_iconst (pc := 10) C (v := (-1)) d_Days_moveBoards_10 (by decide) ?_
    refine j_icmp_neT (pc := 11) C (tgt := 15) d_Days_moveBoards_11 (by decide) (nI_nm1 (by omega)) ?_
    refine j_aload_n (pc := 15) C d_Days_moveBoards_15 rfl 1 rfl ?_
    refine j_get (pc := 16) C gf_Days_21 5 rfl rfl d_Days_moveBoards_16 ?_
    refine j_iload_n (pc := 19) C d_Days_moveBoards_19 rfl 0 rfl ?_
    have xh5 : gt.r 8 (dy % gt.s 4) < gt.s 9 := lk_vb hlk (dy % gt.s 4) (by omega)
    refine j_iald (pc := 20) C 2 rfl (v := nI ((gt.r 8) (dy % gt.s 4))) (vp_in_nI (by omega) (by decide)) (by rw [nI_clamp (by omega)]; exact (hk8 (dy % gt.s 4) (by omega))) d_Days_moveBoards_20 ?_
    refine j_istore (pc := 21) C (lv' := [(4, .int (nI ((gt.r 8) (dy % gt.s 4)))), (3, .int (nI (dy % gt.s 4))), (0, .ref (ad 0)), (1, .ref h), (2, .int (-1))]) d_Days_moveBoards_21 (by decide) rfl ?_
    refine j_aload_n (pc := 23) C d_Days_moveBoards_23 rfl 2 rfl ?_
    refine j_get (pc := 24) C gf_Days_25 5 rfl rfl d_Days_moveBoards_24 ?_
    refine j_get (pc := 27) C gf_Days_29 0 rfl rfl d_Days_moveBoards_27 ?_
    refine j_iload (pc := 30) C d_Days_moveBoards_30 0 rfl ?_
    have xh6 := lk_j hlk ((gt.r 8) (dy % gt.s 4)) (by omega)
    obtain ⟨xh6a, xh6b, xh6c⟩ := xh6
    by_cases e7 : gt.r 6 ((gt.r 8) (dy % gt.s 4)) = 0
    · refine j_iald (pc := 32) C 1 rfl (v := (-1)) (vp_in_nI (by omega) (by decide)) (by rw [nI_clamp (by omega)]; exact (xh6a.trans (if_pos e7))) d_Days_moveBoards_32 ?_
      refine j_istore (pc := 33) C (lv' := [(5, .int (-1)), (4, .int (nI ((gt.r 8) (dy % gt.s 4)))), (3, .int (nI (dy % gt.s 4))), (0, .ref (ad 0)), (1, .ref h), (2, .int (-1))]) d_Days_moveBoards_33 (by decide) rfl ?_
      refine j_aload_n (pc := 35) C d_Days_moveBoards_35 rfl 4 rfl ?_
      refine j_get (pc := 36) C gf_Days_34 3 rfl rfl d_Days_moveBoards_36 ?_
      refine j_iload (pc := 39) C d_Days_moveBoards_39 1 rfl ?_
      refine j_dup2 (pc := 41) C d_Days_moveBoards_41 rfl rfl ?_
      have xh8 : bd ((gt.r 8) (dy % gt.s 4)) ≤ 20 := hbd ((gt.r 8) (dy % gt.s 4)) (by omega)
      refine j_iald (pc := 42) C 4 rfl (v := nI (bd ((gt.r 8) (dy % gt.s 4)))) (vp_in_nI (by omega) (by decide)) (by rw [nI_clamp (by omega)]; exact (x0 ((gt.r 8) (dy % gt.s 4)) (by omega))) d_Days_moveBoards_42 ?_
      refine j_iload_n (pc := 43) C d_Days_moveBoards_43 rfl 5 rfl ?_
      refine j_iadd (pc := 44) C (v := nI ((bd ((gt.r 8) (dy % gt.s 4))) - 1)) d_Days_moveBoards_44 (nI_dn (by omega)) ?_
      refine j_iast (pc := 45) C 4 rfl (ws' := [(ad 1, .inr (1, [.int (d.1 9), .ref (ad 4), .ref (ad 5), .ref (ad 6), .ref (ad 7), .ref (ad 8), .ref (ad 9), .ref (ad 10)])), (ad 10, .inl (y 0, 9, .inl (d.2 6))), (ad 12, .inl (y 0, 6, .inl (d.2 8))), (h, .inr (7, [.int (nI dy), .int (nI wa), .int (nI la), .ref (sa 0), .ref (sa 1), .ref (sa 2), .ref (sa 3), .ref (sa 4), .ref (sa 5), .ref (sa 6)])), (sa 0, .inl (y 0, 9, .inl (upd f0 ((gt.r 8) (dy % gt.s 4)) (nI ((bd ((gt.r 8) (dy % gt.s 4))) - 1))))), (ad 0, .inr (2, [.int (d.1 0), .int (d.1 1), .int (d.1 2), .int (d.1 3), .ref (ad 1), .int (d.1 4), .ref (ad 11), .ref (ad 12), .ref (ad 2), .ref (ad 3), .int (d.1 5), .int (d.1 6), .int (d.1 7), .int (d.1 8)]))]) (vp_in_nI (by omega) (by decide)) (by rw [nI_clamp (by omega)]; rfl) d_Days_moveBoards_45 ?_
      have xh9 : XW 9 (upd f0 ((gt.r 8) (dy % gt.s 4)) (nI ((bd ((gt.r 8) (dy % gt.s 4))) - 1))) (upN bd ((gt.r 8) (dy % gt.s 4)) ((bd ((gt.r 8) (dy % gt.s 4))) - 1)) := xw_up x0
      refine j_iload (pc := 46) C d_Days_moveBoards_46 0 rfl ?_
      refine j_iconst (pc := 48) C (v := (-1)) d_Days_moveBoards_48 (by decide) ?_
      refine j_icmp_eqT (pc := 49) C (tgt := 63) d_Days_moveBoards_49 (by decide) (by decide) ?_
      exact j_vret (pc := 63) C hr (upd f0 ((gt.r 8) (dy % gt.s 4)) (nI ((bd ((gt.r 8) (dy % gt.s 4))) - 1))) (by rw [mv_0 e7]; exact xh9) [5, 0, 1, 2, 3, 4] rfl (by decide) (by decide) (by decide) d_Days_moveBoards_63
    · refine j_iald (pc := 32) C 1 rfl (v := nI (gt.r 6 ((gt.r 8) (dy % gt.s 4)) - 1)) (vp_in_nI (by omega) (by decide)) (by rw [nI_clamp (by omega)]; exact (xh6a.trans (if_neg e7))) d_Days_moveBoards_32 ?_
      refine j_istore (pc := 33) C (lv' := [(5, .int (nI (gt.r 6 ((gt.r 8) (dy % gt.s 4)) - 1))), (4, .int (nI ((gt.r 8) (dy % gt.s 4)))), (3, .int (nI (dy % gt.s 4))), (0, .ref (ad 0)), (1, .ref h), (2, .int (-1))]) d_Days_moveBoards_33 (by decide) rfl ?_
      refine j_aload_n (pc := 35) C d_Days_moveBoards_35 rfl 4 rfl ?_
      refine j_get (pc := 36) C gf_Days_34 3 rfl rfl d_Days_moveBoards_36 ?_
      refine j_iload (pc := 39) C d_Days_moveBoards_39 1 rfl ?_
      refine j_dup2 (pc := 41) C d_Days_moveBoards_41 rfl rfl ?_
      have xh10 : bd ((gt.r 8) (dy % gt.s 4)) ≤ 20 := hbd ((gt.r 8) (dy % gt.s 4)) (by omega)
      refine j_iald (pc := 42) C 4 rfl (v := nI (bd ((gt.r 8) (dy % gt.s 4)))) (vp_in_nI (by omega) (by decide)) (by rw [nI_clamp (by omega)]; exact (x0 ((gt.r 8) (dy % gt.s 4)) (by omega))) d_Days_moveBoards_42 ?_
      refine j_iload_n (pc := 43) C d_Days_moveBoards_43 rfl 5 rfl ?_
      refine j_iadd (pc := 44) C (v := nI ((bd ((gt.r 8) (dy % gt.s 4))) - 1)) d_Days_moveBoards_44 (nI_dn (by omega)) ?_
      refine j_iast (pc := 45) C 4 rfl (ws' := [(ad 1, .inr (1, [.int (d.1 9), .ref (ad 4), .ref (ad 5), .ref (ad 6), .ref (ad 7), .ref (ad 8), .ref (ad 9), .ref (ad 10)])), (ad 10, .inl (y 0, 9, .inl (d.2 6))), (ad 12, .inl (y 0, 6, .inl (d.2 8))), (h, .inr (7, [.int (nI dy), .int (nI wa), .int (nI la), .ref (sa 0), .ref (sa 1), .ref (sa 2), .ref (sa 3), .ref (sa 4), .ref (sa 5), .ref (sa 6)])), (sa 0, .inl (y 0, 9, .inl (upd f0 ((gt.r 8) (dy % gt.s 4)) (nI ((bd ((gt.r 8) (dy % gt.s 4))) - 1))))), (ad 0, .inr (2, [.int (d.1 0), .int (d.1 1), .int (d.1 2), .int (d.1 3), .ref (ad 1), .int (d.1 4), .ref (ad 11), .ref (ad 12), .ref (ad 2), .ref (ad 3), .int (d.1 5), .int (d.1 6), .int (d.1 7), .int (d.1 8)]))]) (vp_in_nI (by omega) (by decide)) (by rw [nI_clamp (by omega)]; rfl) d_Days_moveBoards_45 ?_
      have xh11 : XW 9 (upd f0 ((gt.r 8) (dy % gt.s 4)) (nI ((bd ((gt.r 8) (dy % gt.s 4))) - 1))) (upN bd ((gt.r 8) (dy % gt.s 4)) ((bd ((gt.r 8) (dy % gt.s 4))) - 1)) := xw_up x0
      refine j_iload (pc := 46) C d_Days_moveBoards_46 0 rfl ?_
      refine j_iconst (pc := 48) C (v := (-1)) d_Days_moveBoards_48 (by decide) ?_
      refine j_icmp_eqF (pc := 49) C (tgt := 63) d_Days_moveBoards_49 (by decide) (nI_nm1 (by omega)) ?_
      have hjq : upN bd (gt.r 8 (dy % gt.s 4)) (bd (gt.r 8 (dy % gt.s 4)) - 1) (gt.r 6 (gt.r 8 (dy % gt.s 4)) - 1) = bd (gt.r 6 (gt.r 8 (dy % gt.s 4)) - 1) := upN_n (by omega)
      have hjb := hbd (gt.r 6 (gt.r 8 (dy % gt.s 4)) - 1) (by omega)
      refine j_aload_n (pc := 52) C d_Days_moveBoards_52 rfl 4 rfl ?_
      refine j_get (pc := 53) C gf_Days_34 3 rfl rfl d_Days_moveBoards_53 ?_
      refine j_iload (pc := 56) C d_Days_moveBoards_56 0 rfl ?_
      refine j_dup2 (pc := 58) C d_Days_moveBoards_58 rfl rfl ?_
      refine j_iald (pc := 59) C 4 rfl (v := nI ((upN bd ((gt.r 8) (dy % gt.s 4)) ((bd ((gt.r 8) (dy % gt.s 4))) - 1)) (gt.r 6 ((gt.r 8) (dy % gt.s 4)) - 1))) (vp_in_nI (by omega) (by decide)) (by rw [nI_clamp (by omega)]; exact (xh11 (gt.r 6 ((gt.r 8) (dy % gt.s 4)) - 1) (by omega))) d_Days_moveBoards_59 ?_
      refine j_iload_n (pc := 60) C d_Days_moveBoards_60 rfl 5 rfl ?_
      refine j_iadd (pc := 61) C (v := nI (((upN bd ((gt.r 8) (dy % gt.s 4)) ((bd ((gt.r 8) (dy % gt.s 4))) - 1)) (gt.r 6 ((gt.r 8) (dy % gt.s 4)) - 1)) - 1)) d_Days_moveBoards_61 (nI_dn (by omega)) ?_
      refine j_iast (pc := 62) C 4 rfl (ws' := [(ad 1, .inr (1, [.int (d.1 9), .ref (ad 4), .ref (ad 5), .ref (ad 6), .ref (ad 7), .ref (ad 8), .ref (ad 9), .ref (ad 10)])), (ad 10, .inl (y 0, 9, .inl (d.2 6))), (ad 12, .inl (y 0, 6, .inl (d.2 8))), (h, .inr (7, [.int (nI dy), .int (nI wa), .int (nI la), .ref (sa 0), .ref (sa 1), .ref (sa 2), .ref (sa 3), .ref (sa 4), .ref (sa 5), .ref (sa 6)])), (sa 0, .inl (y 0, 9, .inl (upd (upd f0 ((gt.r 8) (dy % gt.s 4)) (nI ((bd ((gt.r 8) (dy % gt.s 4))) - 1))) (gt.r 6 ((gt.r 8) (dy % gt.s 4)) - 1) (nI (((upN bd ((gt.r 8) (dy % gt.s 4)) ((bd ((gt.r 8) (dy % gt.s 4))) - 1)) (gt.r 6 ((gt.r 8) (dy % gt.s 4)) - 1)) - 1))))), (ad 0, .inr (2, [.int (d.1 0), .int (d.1 1), .int (d.1 2), .int (d.1 3), .ref (ad 1), .int (d.1 4), .ref (ad 11), .ref (ad 12), .ref (ad 2), .ref (ad 3), .int (d.1 5), .int (d.1 6), .int (d.1 7), .int (d.1 8)]))]) (vp_in_nI (by omega) (by decide)) (by rw [nI_clamp (by omega)]; rfl) d_Days_moveBoards_62 ?_
      have xh12 : XW 9 (upd (upd f0 ((gt.r 8) (dy % gt.s 4)) (nI ((bd ((gt.r 8) (dy % gt.s 4))) - 1))) (gt.r 6 ((gt.r 8) (dy % gt.s 4)) - 1) (nI (((upN bd ((gt.r 8) (dy % gt.s 4)) ((bd ((gt.r 8) (dy % gt.s 4))) - 1)) (gt.r 6 ((gt.r 8) (dy % gt.s 4)) - 1)) - 1))) (upN (upN bd ((gt.r 8) (dy % gt.s 4)) ((bd ((gt.r 8) (dy % gt.s 4))) - 1)) (gt.r 6 ((gt.r 8) (dy % gt.s 4)) - 1) (((upN bd ((gt.r 8) (dy % gt.s 4)) ((bd ((gt.r 8) (dy % gt.s 4))) - 1)) (gt.r 6 ((gt.r 8) (dy % gt.s 4)) - 1)) - 1)) := xw_up xh11
      exact j_vret (pc := 63) C hr (upd (upd f0 ((gt.r 8) (dy % gt.s 4)) (nI ((bd ((gt.r 8) (dy % gt.s 4))) - 1))) (gt.r 6 ((gt.r 8) (dy % gt.s 4)) - 1) (nI (((upN bd ((gt.r 8) (dy % gt.s 4)) ((bd ((gt.r 8) (dy % gt.s 4))) - 1)) (gt.r 6 ((gt.r 8) (dy % gt.s 4)) - 1)) - 1))) (by rw [mv_1 e7]; exact xh12) [5, 0, 1, 2, 3, 4] rfl (by decide) (by decide) (by decide) d_Days_moveBoards_63
set_option maxHeartbeats 4000000 in
set_option maxRecDepth 100000 in
theorem c_xmoveBoards_2 (l : Launch) (D : va_G) (y : Nat → ClassId) (ad : Nat → Nat) (d : LD) (gt : LA_) (h : Nat) (sa : Nat → Nat) (dy : Nat) (wa : Nat) (la : Nat) (f0 : Nat → Int32) (bd : Nat → Nat) (hlk : LKR gt d) (x0 : XW 9 f0 bd) (hbd : BN (gt.s 9) bd 20) (hdy : dy ≤ 2000) (hv4 : 0 < gt.s 4) : CT l D y ⟨"NineBoards$Days", "moveBoards", "(LNineBoards$Lake;LNineBoards$State;I)V"⟩ prog_3_method_7_code 6 none ({ frames := 2, cells := 0, slots := 0, locals := 43 } : Room) [.ref (ad 0), .ref h, .int 1] [(ad 0, .inr (2, [.int (d.1 0), .int (d.1 1), .int (d.1 2), .int (d.1 3), .ref (ad 1), .int (d.1 4), .ref (ad 11), .ref (ad 12), .ref (ad 2), .ref (ad 3), .int (d.1 5), .int (d.1 6), .int (d.1 7), .int (d.1 8)])), (ad 1, .inr (1, [.int (d.1 9), .ref (ad 4), .ref (ad 5), .ref (ad 6), .ref (ad 7), .ref (ad 8), .ref (ad 9), .ref (ad 10)])), (ad 10, .inl (y 0, 9, .inl (d.2 6))), (ad 12, .inl (y 0, 6, .inl (d.2 8))), (h, .inr (7, [.int (nI dy), .int (nI wa), .int (nI la), .ref (sa 0), .ref (sa 1), .ref (sa 2), .ref (sa 3), .ref (sa 4), .ref (sa 5), .ref (sa 6)])), (sa 0, .inl (y 0, 9, .inl f0))] (QV D [(ad 0, .inr (2, [.int (d.1 0), .int (d.1 1), .int (d.1 2), .int (d.1 3), .ref (ad 1), .int (d.1 4), .ref (ad 11), .ref (ad 12), .ref (ad 2), .ref (ad 3), .int (d.1 5), .int (d.1 6), .int (d.1 7), .int (d.1 8)])), (ad 1, .inr (1, [.int (d.1 9), .ref (ad 4), .ref (ad 5), .ref (ad 6), .ref (ad 7), .ref (ad 8), .ref (ad 9), .ref (ad 10)])), (ad 10, .inl (y 0, 9, .inl (d.2 6))), (ad 12, .inl (y 0, 6, .inl (d.2 8))), (h, .inr (7, [.int (nI dy), .int (nI wa), .int (nI la), .ref (sa 0), .ref (sa 1), .ref (sa 2), .ref (sa 3), .ref (sa 4), .ref (sa 5), .ref (sa 6)])), (sa 0, .inl (y 0, 9, .inl f0))] (fun (u : Nat → Int32) => XW 9 u (mvB gt bd (gt.r 8 (dy % gt.s 4)) 2)) (fun u => [(ad 0, .inr (2, [.int (d.1 0), .int (d.1 1), .int (d.1 2), .int (d.1 3), .ref (ad 1), .int (d.1 4), .ref (ad 11), .ref (ad 12), .ref (ad 2), .ref (ad 3), .int (d.1 5), .int (d.1 6), .int (d.1 7), .int (d.1 8)])), (ad 1, .inr (1, [.int (d.1 9), .ref (ad 4), .ref (ad 5), .ref (ad 6), .ref (ad 7), .ref (ad 8), .ref (ad 9), .ref (ad 10)])), (ad 10, .inl (y 0, 9, .inl (d.2 6))), (ad 12, .inl (y 0, 6, .inl (d.2 8))), (h, .inr (7, [.int (nI dy), .int (nI wa), .int (nI la), .ref (sa 0), .ref (sa 1), .ref (sa 2), .ref (sa 3), .ref (sa 4), .ref (sa 5), .ref (sa 6)])), (sa 0, .inl (y 0, 9, .inl u))])) := by
  refine CT.of (by decide) (nb rfl) ?_
  intro p e s m args below meth c C hr
  refine j_lv (lv' := [(0, .ref (ad 0)), (1, .ref h), (2, .int 1)]) rfl ?_
  obtain ⟨b9, b4, b10, b11⟩ := lk_b hlk
  obtain ⟨b1, b1x, b2, b2x, b3, b5, b6, b7, b8⟩ := lk_n hlk
  have hk8 : XW (gt.s 4) (d.2 8) (gt.r 8) := lk_v hlk
  have hvq : dy % gt.s 4 < gt.s 4 := Nat.mod_lt _ hv4
  refine j_aload_n (pc := 0) C d_Days_moveBoards_0 rfl 0 rfl ?_
  refine j_aload_n (pc := 1) C d_Days_moveBoards_1 rfl 1 rfl ?_
  refine j_get (pc := 2) C gf_Days_59 4 rfl rfl d_Days_moveBoards_2 ?_
  refine j_callVi (pc := 5) C (c_xvillageOn l D y ad d gt dy hlk (by omega)) kw_Days_109 kv_Lake_villageOn 0 2 rfl rfl ⟨by decide, by decide⟩ ⟨by decide, by decide⟩ (wr := [(ad 1, .inr (1, [.int (d.1 9), .ref (ad 4), .ref (ad 5), .ref (ad 6), .ref (ad 7), .ref (ad 8), .ref (ad 9), .ref (ad 10)])), (ad 10, .inl (y 0, 9, .inl (d.2 6))), (ad 12, .inl (y 0, 6, .inl (d.2 8))), (h, .inr (7, [.int (nI dy), .int (nI wa), .int (nI la), .ref (sa 0), .ref (sa 1), .ref (sa 2), .ref (sa 3), .ref (sa 4), .ref (sa 5), .ref (sa 6)])), (sa 0, .inl (y 0, 9, .inl f0))]) [0] [1, 2, 3, 4, 5] rfl rfl (by decide +kernel) (by decide +kernel) (by decide +kernel) (As := [.int (nI dy)]) (rest := []) rfl (nb rfl) rfl d_Days_moveBoards_5 (fun r1 _ hr1 => ?_)
  refine j_ws (ws' := [(ad 1, .inr (1, [.int (d.1 9), .ref (ad 4), .ref (ad 5), .ref (ad 6), .ref (ad 7), .ref (ad 8), .ref (ad 9), .ref (ad 10)])), (ad 10, .inl (y 0, 9, .inl (d.2 6))), (ad 12, .inl (y 0, 6, .inl (d.2 8))), (h, .inr (7, [.int (nI dy), .int (nI wa), .int (nI la), .ref (sa 0), .ref (sa 1), .ref (sa 2), .ref (sa 3), .ref (sa 4), .ref (sa 5), .ref (sa 6)])), (sa 0, .inl (y 0, 9, .inl f0)), (ad 0, .inr (2, [.int (d.1 0), .int (d.1 1), .int (d.1 2), .int (d.1 3), .ref (ad 1), .int (d.1 4), .ref (ad 11), .ref (ad 12), .ref (ad 2), .ref (ad 3), .int (d.1 5), .int (d.1 6), .int (d.1 7), .int (d.1 8)]))]) rfl ?_
  rcases hr1 with ⟨rfl, xh3⟩ | ⟨rfl, xh4⟩
  · exact absurd xh3 (by omega)
  · refine j_istore_n (pc := 8) C (lv' := [(3, .int (nI (dy % gt.s 4))), (0, .ref (ad 0)), (1, .ref h), (2, .int 1)]) d_Days_moveBoards_8 rfl (by decide) rfl ?_
    refine j_iload_n (pc := 9) C d_Days_moveBoards_9 rfl 0 rfl ?_
    refine j_iconst (pc := 10) C (v := (-1)) d_Days_moveBoards_10 (by decide) ?_
    refine j_icmp_neT (pc := 11) C (tgt := 15) d_Days_moveBoards_11 (by decide) (nI_nm1 (by omega)) ?_
    refine j_aload_n (pc := 15) C d_Days_moveBoards_15 rfl 1 rfl ?_
    refine j_get (pc := 16) C gf_Days_21 5 rfl rfl d_Days_moveBoards_16 ?_
    refine j_iload_n (pc := 19) C d_Days_moveBoards_19 rfl 0 rfl ?_
    have xh5 : gt.r 8 (dy % gt.s 4) < gt.s 9 := lk_vb hlk (dy % gt.s 4) (by omega)
    refine j_iald (pc := 20) C 2 rfl (v := nI ((gt.r 8) (dy % gt.s 4))) (vp_in_nI (by omega) (by decide)) (by rw [nI_clamp (by omega)]; exact (hk8 (dy % gt.s 4) (by omega))) d_Days_moveBoards_20 ?_
    refine j_istore (pc := 21) C (lv' := [(4, .int (nI ((gt.r 8) (dy % gt.s 4)))), (3, .int (nI (dy % gt.s 4))), (0, .ref (ad 0)), (1, .ref h), (2, .int 1)]) d_Days_moveBoards_21 (by decide) rfl ?_
    refine j_aload_n (pc := 23) C d_Days_moveBoards_23 rfl 2 rfl ?_
    refine j_get (pc := 24) C gf_Days_25 5 rfl rfl d_Days_moveBoards_24 ?_
    refine j_get (pc := 27) C gf_Days_29 0 rfl rfl d_Days_moveBoards_27 ?_
    refine j_iload (pc := 30) C d_Days_moveBoards_30 0 rfl ?_
    have xh6 := lk_j hlk ((gt.r 8) (dy % gt.s 4)) (by omega)
    obtain ⟨xh6a, xh6b, xh6c⟩ := xh6
    by_cases e7 : gt.r 6 ((gt.r 8) (dy % gt.s 4)) = 0
    · refine j_iald (pc := 32) C 1 rfl (v := (-1)) (vp_in_nI (by omega) (by decide)) (by rw [nI_clamp (by omega)]; exact (xh6a.trans (if_pos e7))) d_Days_moveBoards_32 ?_
      refine j_istore (pc := 33) C (lv' := [(5, .int (-1)), (4, .int (nI ((gt.r 8) (dy % gt.s 4)))), (3, .int (nI (dy % gt.s 4))), (0, .ref (ad 0)), (1, .ref h), (2, .int 1)]) d_Days_moveBoards_33 (by decide) rfl ?_
      refine j_aload_n (pc := 35) C d_Days_moveBoards_35 rfl 4 rfl ?_
      refine j_get (pc := 36) C gf_Days_34 3 rfl rfl d_Days_moveBoards_36 ?_
      refine j_iload (pc := 39) C d_Days_moveBoards_39 1 rfl ?_
      refine j_dup2 (pc := 41) C d_Days_moveBoards_41 rfl rfl ?_
      have xh8 : bd ((gt.r 8) (dy % gt.s 4)) ≤ 20 := hbd ((gt.r 8) (dy % gt.s 4)) (by omega)
      refine j_iald (pc := 42) C 4 rfl (v := nI (bd ((gt.r 8) (dy % gt.s 4)))) (vp_in_nI (by omega) (by decide)) (by rw [nI_clamp (by omega)]; exact (x0 ((gt.r 8) (dy % gt.s 4)) (by omega))) d_Days_moveBoards_42 ?_
      refine j_iload_n (pc := 43) C d_Days_moveBoards_43 rfl 5 rfl ?_
      refine j_iadd (pc := 44) C (v := nI ((bd ((gt.r 8) (dy % gt.s 4))) + 1)) d_Days_moveBoards_44 (nI_add _ _) ?_
      refine j_iast (pc := 45) C 4 rfl (ws' := [(ad 1, .inr (1, [.int (d.1 9), .ref (ad 4), .ref (ad 5), .ref (ad 6), .ref (ad 7), .ref (ad 8), .ref (ad 9), .ref (ad 10)])), (ad 10, .inl (y 0, 9, .inl (d.2 6))), (ad 12, .inl (y 0, 6, .inl (d.2 8))), (h, .inr (7, [.int (nI dy), .int (nI wa), .int (nI la), .ref (sa 0), .ref (sa 1), .ref (sa 2), .ref (sa 3), .ref (sa 4), .ref (sa 5), .ref (sa 6)])), (sa 0, .inl (y 0, 9, .inl (upd f0 ((gt.r 8) (dy % gt.s 4)) (nI ((bd ((gt.r 8) (dy % gt.s 4))) + 1))))), (ad 0, .inr (2, [.int (d.1 0), .int (d.1 1), .int (d.1 2), .int (d.1 3), .ref (ad 1), .int (d.1 4), .ref (ad 11), .ref (ad 12), .ref (ad 2), .ref (ad 3), .int (d.1 5), .int (d.1 6), .int (d.1 7), .int (d.1 8)]))]) (vp_in_nI (by omega) (by decide)) (by rw [nI_clamp (by omega)]; rfl) d_Days_moveBoards_45 ?_
      have xh9 : XW 9 (upd f0 ((gt.r 8) (dy % gt.s 4)) (nI ((bd ((gt.r 8) (dy % gt.s 4))) + 1))) (upN bd ((gt.r 8) (dy % gt.s 4)) ((bd ((gt.r 8) (dy % gt.s 4))) + 1)) := xw_up x0
      refine j_iload (pc := 46) C d_Days_moveBoards_46 0 rfl ?_
      refine j_iconst (pc := 48) C (v := (-1)) d_Days_moveBoards_48 (by decide) ?_
      refine j_icmp_eqT (pc := 49) C (tgt := 63) d_Days_moveBoards_49 (by decide) (by decide) ?_
      exact j_vret (pc := 63) C hr (upd f0 ((gt.r 8) (dy % gt.s 4)) (nI ((bd ((gt.r 8) (dy % gt.s 4))) + 1))) (by rw [mv_0 e7]; exact xh9) [5, 0, 1, 2, 3, 4] rfl (by decide) (by decide) (by decide) d_Days_moveBoards_63
    · refine j_iald (pc := 32) C 1 rfl (v := nI (gt.r 6 ((gt.r 8) (dy % gt.s 4)) - 1)) (vp_in_nI (by omega) (by decide)) (by rw [nI_clamp (by omega)]; exact (xh6a.trans (if_neg e7))) d_Days_moveBoards_32 ?_
      refine j_istore (pc := 33) C (lv' := [(5, .int (nI (gt.r 6 ((gt.r 8) (dy % gt.s 4)) - 1))), (4, .int (nI ((gt.r 8) (dy % gt.s 4)))), (3, .int (nI (dy % gt.s 4))), (0, .ref (ad 0)), (1, .ref h), (2, .int 1)]) d_Days_moveBoards_33 (by decide) rfl ?_
      refine j_aload_n (pc := 35) C d_Days_moveBoards_35 rfl 4 rfl ?_
      refine j_get (pc := 36) C gf_Days_34 3 rfl rfl d_Days_moveBoards_36 ?_
      refine j_iload (pc := 39) C d_Days_moveBoards_39 1 rfl ?_
      refine j_dup2 (pc := 41) C d_Days_moveBoards_41 rfl rfl ?_
      have xh10 : bd ((gt.r 8) (dy % gt.s 4)) ≤ 20 := hbd ((gt.r 8) (dy % gt.s 4)) (by omega)
      refine j_iald (pc := 42) C 4 rfl (v := nI (bd ((gt.r 8) (dy % gt.s 4)))) (vp_in_nI (by omega) (by decide)) (by rw [nI_clamp (by omega)]; exact (x0 ((gt.r 8) (dy % gt.s 4)) (by omega))) d_Days_moveBoards_42 ?_
      refine j_iload_n (pc := 43) C d_Days_moveBoards_43 rfl 5 rfl ?_
      refine j_iadd (pc := 44) C (v := nI ((bd ((gt.r 8) (dy % gt.s 4))) + 1)) d_Days_moveBoards_44 (nI_add _ _) ?_
      refine j_iast (pc := 45) C 4 rfl (ws' := [(ad 1, .inr (1, [.int (d.1 9), .ref (ad 4), .ref (ad 5), .ref (ad 6), .ref (ad 7), .ref (ad 8), .ref (ad 9), .ref (ad 10)])), (ad 10, .inl (y 0, 9, .inl (d.2 6))), (ad 12, .inl (y 0, 6, .inl (d.2 8))), (h, .inr (7, [.int (nI dy), .int (nI wa), .int (nI la), .ref (sa 0), .ref (sa 1), .ref (sa 2), .ref (sa 3), .ref (sa 4), .ref (sa 5), .ref (sa 6)])), (sa 0, .inl (y 0, 9, .inl (upd f0 ((gt.r 8) (dy % gt.s 4)) (nI ((bd ((gt.r 8) (dy % gt.s 4))) + 1))))), (ad 0, .inr (2, [.int (d.1 0), .int (d.1 1), .int (d.1 2), .int (d.1 3), .ref (ad 1), .int (d.1 4), .ref (ad 11), .ref (ad 12), .ref (ad 2), .ref (ad 3), .int (d.1 5), .int (d.1 6), .int (d.1 7), .int (d.1 8)]))]) (vp_in_nI (by omega) (by decide)) (by rw [nI_clamp (by omega)]; rfl) d_Days_moveBoards_45 ?_
      have xh11 : XW 9 (upd f0 ((gt.r 8) (dy % gt.s 4)) (nI ((bd ((gt.r 8) (dy % gt.s 4))) + 1))) (upN bd ((gt.r 8) (dy % gt.s 4)) ((bd ((gt.r 8) (dy % gt.s 4))) + 1)) := xw_up x0
      refine j_iload (pc := 46) C d_Days_moveBoards_46 0 rfl ?_
      refine j_iconst (pc := 48) C (v := (-1)) d_Days_moveBoards_48 (by decide) ?_
      refine j_icmp_eqF (pc := 49) C (tgt := 63) d_Days_moveBoards_49 (by decide) (nI_nm1 (by omega)) ?_
      have hjq : upN bd (gt.r 8 (dy % gt.s 4)) (bd (gt.r 8 (dy % gt.s 4)) + 1) (gt.r 6 (gt.r 8 (dy % gt.s 4)) - 1) = bd (gt.r 6 (gt.r 8 (dy % gt.s 4)) - 1) := upN_n (by omega)
      have hjb := hbd (gt.r 6 (gt.r 8 (dy % gt.s 4)) - 1) (by omega)
      refine j_aload_n (pc := 52) C d_Days_moveBoards_52 rfl 4 rfl ?_
      refine j_get (pc := 53) C gf_Days_34 3 rfl rfl d_Days_moveBoards_53 ?_
      refine j_iload (pc := 56) C d_Days_moveBoards_56 0 rfl ?_
      refine j_dup2 (pc := 58) C d_Days_moveBoards_58 rfl rfl ?_
      refine j_iald (pc := 59) C 4 rfl (v := nI ((upN bd ((gt.r 8) (dy % gt.s 4)) ((bd ((gt.r 8) (dy % gt.s 4))) + 1)) (gt.r 6 ((gt.r 8) (dy % gt.s 4)) - 1))) (vp_in_nI (by omega) (by decide)) (by rw [nI_clamp (by omega)]; exact (xh11 (gt.r 6 ((gt.r 8) (dy % gt.s 4)) - 1) (by omega))) d_Days_moveBoards_59 ?_
      refine j_iload_n (pc := 60) C d_Days_moveBoards_60 rfl 5 rfl ?_
      refine j_iadd (pc := 61) C (v := nI (((upN bd ((gt.r 8) (dy % gt.s 4)) ((bd ((gt.r 8) (dy % gt.s 4))) + 1)) (gt.r 6 ((gt.r 8) (dy % gt.s 4)) - 1)) + 1)) d_Days_moveBoards_61 (nI_add _ _) ?_
      refine j_iast (pc := 62) C 4 rfl (ws' := [(ad 1, .inr (1, [.int (d.1 9), .ref (ad 4), .ref (ad 5), .ref (ad 6), .ref (ad 7), .ref (ad 8), .ref (ad 9), .ref (ad 10)])), (ad 10, .inl (y 0, 9, .inl (d.2 6))), (ad 12, .inl (y 0, 6, .inl (d.2 8))), (h, .inr (7, [.int (nI dy), .int (nI wa), .int (nI la), .ref (sa 0), .ref (sa 1), .ref (sa 2), .ref (sa 3), .ref (sa 4), .ref (sa 5), .ref (sa 6)])), (sa 0, .inl (y 0, 9, .inl (upd (upd f0 ((gt.r 8) (dy % gt.s 4)) (nI ((bd ((gt.r 8) (dy % gt.s 4))) + 1))) (gt.r 6 ((gt.r 8) (dy % gt.s 4)) - 1) (nI (((upN bd ((gt.r 8) (dy % gt.s 4)) ((bd ((gt.r 8) (dy % gt.s 4))) + 1)) (gt.r 6 ((gt.r 8) (dy % gt.s 4)) - 1)) + 1))))), (ad 0, .inr (2, [.int (d.1 0), .int (d.1 1), .int (d.1 2), .int (d.1 3), .ref (ad 1), .int (d.1 4), .ref (ad 11), .ref (ad 12), .ref (ad 2), .ref (ad 3), .int (d.1 5), .int (d.1 6), .int (d.1 7), .int (d.1 8)]))]) (vp_in_nI (by omega) (by decide)) (by rw [nI_clamp (by omega)]; rfl) d_Days_moveBoards_62 ?_
      have xh12 : XW 9 (upd (upd f0 ((gt.r 8) (dy % gt.s 4)) (nI ((bd ((gt.r 8) (dy % gt.s 4))) + 1))) (gt.r 6 ((gt.r 8) (dy % gt.s 4)) - 1) (nI (((upN bd ((gt.r 8) (dy % gt.s 4)) ((bd ((gt.r 8) (dy % gt.s 4))) + 1)) (gt.r 6 ((gt.r 8) (dy % gt.s 4)) - 1)) + 1))) (upN (upN bd ((gt.r 8) (dy % gt.s 4)) ((bd ((gt.r 8) (dy % gt.s 4))) + 1)) (gt.r 6 ((gt.r 8) (dy % gt.s 4)) - 1) (((upN bd ((gt.r 8) (dy % gt.s 4)) ((bd ((gt.r 8) (dy % gt.s 4))) + 1)) (gt.r 6 ((gt.r 8) (dy % gt.s 4)) - 1)) + 1)) := xw_up xh11
      exact j_vret (pc := 63) C hr (upd (upd f0 ((gt.r 8) (dy % gt.s 4)) (nI ((bd ((gt.r 8) (dy % gt.s 4))) + 1))) (gt.r 6 ((gt.r 8) (dy % gt.s 4)) - 1) (nI (((upN bd ((gt.r 8) (dy % gt.s 4)) ((bd ((gt.r 8) (dy % gt.s 4))) + 1)) (gt.r 6 ((gt.r 8) (dy % gt.s 4)) - 1)) + 1))) (by rw [mv_1 e7]; exact xh12) [5, 0, 1, 2, 3, 4] rfl (by decide) (by decide) (by decide) d_Days_moveBoards_63
set_option maxHeartbeats 4000000 in
set_option maxRecDepth 100000 in
theorem c_xdoAct (l : Launch) (D : va_G) (y : Nat → ClassId) (ad : Nat → Nat) (d : LD) (gt : LA_) (h : Nat) (sa : Nat → Nat) (dy : Nat) (wa : Nat) (la : Nat) (f0 : Nat → Int32) (bd : Nat → Nat) (aq : Nat) (hlk : LKR gt d) (x0 : XW 9 f0 bd) (hbd : BN (gt.s 9) bd 20) (hdy : dy ≤ 2000) (ha : aq ≤ 2) (hm : aq = 0 ∨ (0 < gt.s 4 ∧ fitT 0 aq (bd (gt.r 8 (dy % gt.s 4))) ∧ (gt.r 6 (gt.r 8 (dy % gt.s 4)) = 0 ∨ fitT 0 aq (bd (gt.r 6 (gt.r 8 (dy % gt.s 4)) - 1))))) : CT l D y ⟨"NineBoards$Days", "doAct", "(LNineBoards$Lake;LNineBoards$State;I)V"⟩ prog_3_method_6_code 3 none ({ frames := 3, cells := 0, slots := 0, locals := 68 } : Room) [.ref (ad 0), .ref h, .int (nI aq)] [(ad 0, .inr (2, [.int (d.1 0), .int (d.1 1), .int (d.1 2), .int (d.1 3), .ref (ad 1), .int (d.1 4), .ref (ad 11), .ref (ad 12), .ref (ad 2), .ref (ad 3), .int (d.1 5), .int (d.1 6), .int (d.1 7), .int (d.1 8)])), (ad 1, .inr (1, [.int (d.1 9), .ref (ad 4), .ref (ad 5), .ref (ad 6), .ref (ad 7), .ref (ad 8), .ref (ad 9), .ref (ad 10)])), (ad 10, .inl (y 0, 9, .inl (d.2 6))), (ad 12, .inl (y 0, 6, .inl (d.2 8))), (h, .inr (7, [.int (nI dy), .int (nI wa), .int (nI la), .ref (sa 0), .ref (sa 1), .ref (sa 2), .ref (sa 3), .ref (sa 4), .ref (sa 5), .ref (sa 6)])), (sa 0, .inl (y 0, 9, .inl f0))] (QV D [(ad 0, .inr (2, [.int (d.1 0), .int (d.1 1), .int (d.1 2), .int (d.1 3), .ref (ad 1), .int (d.1 4), .ref (ad 11), .ref (ad 12), .ref (ad 2), .ref (ad 3), .int (d.1 5), .int (d.1 6), .int (d.1 7), .int (d.1 8)])), (ad 1, .inr (1, [.int (d.1 9), .ref (ad 4), .ref (ad 5), .ref (ad 6), .ref (ad 7), .ref (ad 8), .ref (ad 9), .ref (ad 10)])), (ad 10, .inl (y 0, 9, .inl (d.2 6))), (ad 12, .inl (y 0, 6, .inl (d.2 8))), (h, .inr (7, [.int (nI dy), .int (nI wa), .int (nI la), .ref (sa 0), .ref (sa 1), .ref (sa 2), .ref (sa 3), .ref (sa 4), .ref (sa 5), .ref (sa 6)])), (sa 0, .inl (y 0, 9, .inl f0))] (fun (u : Nat → Int32) => XW 9 u (actB gt bd dy aq) ∧ BN (gt.s 9) (actB gt bd dy aq) 20) (fun u => [(ad 0, .inr (2, [.int (d.1 0), .int (d.1 1), .int (d.1 2), .int (d.1 3), .ref (ad 1), .int (d.1 4), .ref (ad 11), .ref (ad 12), .ref (ad 2), .ref (ad 3), .int (d.1 5), .int (d.1 6), .int (d.1 7), .int (d.1 8)])), (ad 1, .inr (1, [.int (d.1 9), .ref (ad 4), .ref (ad 5), .ref (ad 6), .ref (ad 7), .ref (ad 8), .ref (ad 9), .ref (ad 10)])), (ad 10, .inl (y 0, 9, .inl (d.2 6))), (ad 12, .inl (y 0, 6, .inl (d.2 8))), (h, .inr (7, [.int (nI dy), .int (nI wa), .int (nI (actL la aq)), .ref (sa 0), .ref (sa 1), .ref (sa 2), .ref (sa 3), .ref (sa 4), .ref (sa 5), .ref (sa 6)])), (sa 0, .inl (y 0, 9, .inl u))])) := by
  refine CT.of (by decide) (nb rfl) ?_
  intro p e s m args below meth c C hr
  refine j_lv (lv' := [(0, .ref (ad 0)), (1, .ref h), (2, .int (nI aq))]) rfl ?_
  obtain ⟨b9, b4, b10, b11⟩ := lk_b hlk
  obtain ⟨b1, b1x, b2, b2x, b3, b5, b6, b7, b8⟩ := lk_n hlk
  have hk8 : XW (gt.s 4) (d.2 8) (gt.r 8) := lk_v hlk
  by_cases e1 : aq = 0
  · refine j_iload_n (pc := 0) C d_Days_doAct_0 rfl 2 rfl ?_
    refine j_if_eqT (pc := 1) C (tgt := 24) d_Days_doAct_1 (by decide) (show nI aq = nI 0 from (nI_eq (by omega) (by omega)).mpr (by omega)) ?_
    refine j_ws (ws' := [(ad 0, .inr (2, [.int (d.1 0), .int (d.1 1), .int (d.1 2), .int (d.1 3), .ref (ad 1), .int (d.1 4), .ref (ad 11), .ref (ad 12), .ref (ad 2), .ref (ad 3), .int (d.1 5), .int (d.1 6), .int (d.1 7), .int (d.1 8)])), (ad 1, .inr (1, [.int (d.1 9), .ref (ad 4), .ref (ad 5), .ref (ad 6), .ref (ad 7), .ref (ad 8), .ref (ad 9), .ref (ad 10)])), (ad 10, .inl (y 0, 9, .inl (d.2 6))), (ad 12, .inl (y 0, 6, .inl (d.2 8))), (h, .inr (7, [.int (nI dy), .int (nI wa), .int (nI (actL la aq)), .ref (sa 0), .ref (sa 1), .ref (sa 2), .ref (sa 3), .ref (sa 4), .ref (sa 5), .ref (sa 6)])), (sa 0, .inl (y 0, 9, .inl f0))]) (by rw [show nI la = nI (actL la aq) from (congrArg nI (by unfold actL; rw [if_pos e1]))]) ?_
    exact j_vret (pc := 24) C hr f0 ⟨(by unfold actB; rw [if_pos e1]; exact x0), act_bn hbd ha hm (lk_ja hlk)⟩ [0, 1, 2, 3, 4, 5] rfl (by decide) (by decide) (by decide) d_Days_doAct_24
  · refine j_iload_n (pc := 0) C d_Days_doAct_0 rfl 2 rfl ?_
    refine j_if_eqF (pc := 1) C (tgt := 24) d_Days_doAct_1 (by decide) (show ¬ nI aq = nI 0 from fun e => absurd ((nI_eq (by omega) (by omega)).mp e) (by omega)) ?_
    by_cases e2 : aq = 1
    · have hqv : aq = 1 := by omega
      refine j_aload_n (pc := 4) C d_Days_doAct_4 rfl 0 rfl ?_
      refine j_aload_n (pc := 5) C d_Days_doAct_5 rfl 1 rfl ?_
      refine j_iload_n (pc := 6) C d_Days_doAct_6 rfl 2 rfl ?_
      refine j_iconst (pc := 7) C (v := 1) d_Days_doAct_7 (by decide) ?_
      refine j_icmp_neF (pc := 8) C (tgt := 15) d_Days_doAct_8 (by decide) (show nI aq = nI 1 from (nI_eq (by omega) (by omega)).mpr (by omega)) ?_
      refine j_iconst (pc := 11) C (v := (-1)) d_Days_doAct_11 (by decide) ?_
      refine j_goto (pc := 12) C (tgt := 16) d_Days_doAct_12 (by decide) ?_
      refine j_callSv (pc := 16) C (c_xmoveBoards_1 l D y ad d gt h sa dy wa la f0 bd hlk x0 hbd hdy (by omega) (by omega) (by omega)) kw_Days_106 ks_Days_moveBoards ⟨by decide, by decide⟩ ⟨by decide, by decide⟩ (wr := []) [0, 1, 2, 3, 4, 5] [] rfl rfl (by decide +kernel) (by decide +kernel) (by decide +kernel) (As := [.ref (ad 0), .ref h, .int (-1)]) (rest := []) rfl (nb rfl) rfl d_Days_doAct_16 (fun u3 hu4 => ?_)
      have xh5 := hu4
      refine j_ws (ws' := [(ad 0, .inr (2, [.int (d.1 0), .int (d.1 1), .int (d.1 2), .int (d.1 3), .ref (ad 1), .int (d.1 4), .ref (ad 11), .ref (ad 12), .ref (ad 2), .ref (ad 3), .int (d.1 5), .int (d.1 6), .int (d.1 7), .int (d.1 8)])), (ad 1, .inr (1, [.int (d.1 9), .ref (ad 4), .ref (ad 5), .ref (ad 6), .ref (ad 7), .ref (ad 8), .ref (ad 9), .ref (ad 10)])), (ad 10, .inl (y 0, 9, .inl (d.2 6))), (ad 12, .inl (y 0, 6, .inl (d.2 8))), (h, .inr (7, [.int (nI dy), .int (nI wa), .int (nI la), .ref (sa 0), .ref (sa 1), .ref (sa 2), .ref (sa 3), .ref (sa 4), .ref (sa 5), .ref (sa 6)])), (sa 0, .inl (y 0, 9, .inl u3))]) rfl ?_
      refine j_aload_n (pc := 19) C d_Days_doAct_19 rfl 1 rfl ?_
      refine j_iload_n (pc := 20) C d_Days_doAct_20 rfl 2 rfl ?_
      refine j_put (pc := 21) C pf_Days_15 4 (ws' := [(ad 0, .inr (2, [.int (d.1 0), .int (d.1 1), .int (d.1 2), .int (d.1 3), .ref (ad 1), .int (d.1 4), .ref (ad 11), .ref (ad 12), .ref (ad 2), .ref (ad 3), .int (d.1 5), .int (d.1 6), .int (d.1 7), .int (d.1 8)])), (ad 1, .inr (1, [.int (d.1 9), .ref (ad 4), .ref (ad 5), .ref (ad 6), .ref (ad 7), .ref (ad 8), .ref (ad 9), .ref (ad 10)])), (ad 10, .inl (y 0, 9, .inl (d.2 6))), (ad 12, .inl (y 0, 6, .inl (d.2 8))), (h, .inr (7, [.int (nI dy), .int (nI wa), .int (nI aq), .ref (sa 0), .ref (sa 1), .ref (sa 2), .ref (sa 3), .ref (sa 4), .ref (sa 5), .ref (sa 6)])), (sa 0, .inl (y 0, 9, .inl u3))]) rfl rfl rfl (nl rfl) rfl d_Days_doAct_21 ?_
      refine j_ws (ws' := [(ad 0, .inr (2, [.int (d.1 0), .int (d.1 1), .int (d.1 2), .int (d.1 3), .ref (ad 1), .int (d.1 4), .ref (ad 11), .ref (ad 12), .ref (ad 2), .ref (ad 3), .int (d.1 5), .int (d.1 6), .int (d.1 7), .int (d.1 8)])), (ad 1, .inr (1, [.int (d.1 9), .ref (ad 4), .ref (ad 5), .ref (ad 6), .ref (ad 7), .ref (ad 8), .ref (ad 9), .ref (ad 10)])), (ad 10, .inl (y 0, 9, .inl (d.2 6))), (ad 12, .inl (y 0, 6, .inl (d.2 8))), (h, .inr (7, [.int (nI dy), .int (nI wa), .int (nI (actL la aq)), .ref (sa 0), .ref (sa 1), .ref (sa 2), .ref (sa 3), .ref (sa 4), .ref (sa 5), .ref (sa 6)])), (sa 0, .inl (y 0, 9, .inl u3))]) (by rw [show nI aq = nI (actL la aq) from (congrArg nI (by unfold actL; rw [if_neg e1]))]) ?_
      exact j_vret (pc := 24) C hr u3 ⟨(by unfold actB; rw [if_neg e1, show aq = 1 by omega]; exact xh5), act_bn hbd ha hm (lk_ja hlk)⟩ [0, 1, 2, 3, 4, 5] rfl (by decide) (by decide) (by decide) d_Days_doAct_24
    · have hqv : aq = 2 := by omega
      refine j_aload_n (pc := 4) C d_Days_doAct_4 rfl 0 rfl ?_
      refine j_aload_n (pc := 5) C d_Days_doAct_5 rfl 1 rfl ?_
      refine j_iload_n (pc := 6) C d_Days_doAct_6 rfl 2 rfl ?_
      refine j_iconst (pc := 7) C (v := 1) d_Days_doAct_7 (by decide) ?_
      refine j_icmp_neT (pc := 8) C (tgt := 15) d_Days_doAct_8 (by decide) (show ¬ nI aq = nI 1 from fun e => absurd ((nI_eq (by omega) (by omega)).mp e) (by omega)) ?_
      refine j_iconst (pc := 15) C (v := 1) d_Days_doAct_15 (by decide) ?_
      refine j_callSv (pc := 16) C (c_xmoveBoards_2 l D y ad d gt h sa dy wa la f0 bd hlk x0 hbd hdy (by omega)) kw_Days_106 ks_Days_moveBoards ⟨by decide, by decide⟩ ⟨by decide, by decide⟩ (wr := []) [0, 1, 2, 3, 4, 5] [] rfl rfl (by decide +kernel) (by decide +kernel) (by decide +kernel) (As := [.ref (ad 0), .ref h, .int 1]) (rest := []) rfl (nb rfl) rfl d_Days_doAct_16 (fun u6 hu7 => ?_)
      have xh8 := hu7
      refine j_ws (ws' := [(ad 0, .inr (2, [.int (d.1 0), .int (d.1 1), .int (d.1 2), .int (d.1 3), .ref (ad 1), .int (d.1 4), .ref (ad 11), .ref (ad 12), .ref (ad 2), .ref (ad 3), .int (d.1 5), .int (d.1 6), .int (d.1 7), .int (d.1 8)])), (ad 1, .inr (1, [.int (d.1 9), .ref (ad 4), .ref (ad 5), .ref (ad 6), .ref (ad 7), .ref (ad 8), .ref (ad 9), .ref (ad 10)])), (ad 10, .inl (y 0, 9, .inl (d.2 6))), (ad 12, .inl (y 0, 6, .inl (d.2 8))), (h, .inr (7, [.int (nI dy), .int (nI wa), .int (nI la), .ref (sa 0), .ref (sa 1), .ref (sa 2), .ref (sa 3), .ref (sa 4), .ref (sa 5), .ref (sa 6)])), (sa 0, .inl (y 0, 9, .inl u6))]) rfl ?_
      refine j_aload_n (pc := 19) C d_Days_doAct_19 rfl 1 rfl ?_
      refine j_iload_n (pc := 20) C d_Days_doAct_20 rfl 2 rfl ?_
      refine j_put (pc := 21) C pf_Days_15 4 (ws' := [(ad 0, .inr (2, [.int (d.1 0), .int (d.1 1), .int (d.1 2), .int (d.1 3), .ref (ad 1), .int (d.1 4), .ref (ad 11), .ref (ad 12), .ref (ad 2), .ref (ad 3), .int (d.1 5), .int (d.1 6), .int (d.1 7), .int (d.1 8)])), (ad 1, .inr (1, [.int (d.1 9), .ref (ad 4), .ref (ad 5), .ref (ad 6), .ref (ad 7), .ref (ad 8), .ref (ad 9), .ref (ad 10)])), (ad 10, .inl (y 0, 9, .inl (d.2 6))), (ad 12, .inl (y 0, 6, .inl (d.2 8))), (h, .inr (7, [.int (nI dy), .int (nI wa), .int (nI aq), .ref (sa 0), .ref (sa 1), .ref (sa 2), .ref (sa 3), .ref (sa 4), .ref (sa 5), .ref (sa 6)])), (sa 0, .inl (y 0, 9, .inl u6))]) rfl rfl rfl (nl rfl) rfl d_Days_doAct_21 ?_
      refine j_ws (ws' := [(ad 0, .inr (2, [.int (d.1 0), .int (d.1 1), .int (d.1 2), .int (d.1 3), .ref (ad 1), .int (d.1 4), .ref (ad 11), .ref (ad 12), .ref (ad 2), .ref (ad 3), .int (d.1 5), .int (d.1 6), .int (d.1 7), .int (d.1 8)])), (ad 1, .inr (1, [.int (d.1 9), .ref (ad 4), .ref (ad 5), .ref (ad 6), .ref (ad 7), .ref (ad 8), .ref (ad 9), .ref (ad 10)])), (ad 10, .inl (y 0, 9, .inl (d.2 6))), (ad 12, .inl (y 0, 6, .inl (d.2 8))), (h, .inr (7, [.int (nI dy), .int (nI wa), .int (nI (actL la aq)), .ref (sa 0), .ref (sa 1), .ref (sa 2), .ref (sa 3), .ref (sa 4), .ref (sa 5), .ref (sa 6)])), (sa 0, .inl (y 0, 9, .inl u6))]) (by rw [show nI aq = nI (actL la aq) from (congrArg nI (by unfold actL; rw [if_neg e1]))]) ?_
      exact j_vret (pc := 24) C hr u6 ⟨(by unfold actB; rw [if_neg e1, show aq = 2 by omega]; exact xh8), act_bn hbd ha hm (lk_ja hlk)⟩ [0, 1, 2, 3, 4, 5] rfl (by decide) (by decide) (by decide) d_Days_doAct_24
set_option maxHeartbeats 4000000 in
set_option maxRecDepth 100000 in
theorem c_xsetFlows (l : Launch) (D : va_G) (y : Nat → ClassId) (ad : Nat → Nat) (d : LD) (gt : LA_) (h : Nat) (sa : Nat → Nat) (dy : Nat) (wa : Nat) (la : Nat) (f0 : Nat → Int32) (f1 : Nat → Int32) (bd : Nat → Nat) (fl : Nat → Nat) (hlk : LKR gt d) (x0 : XW 9 f0 bd) (x1 : XW 9 f1 fl) (hbd : BN (gt.s 9) bd 20) (hdy : dy ≤ 2000) (hwa : wa ≤ 9999) : CT l D y ⟨"NineBoards$Days", "setFlows", "(LNineBoards$Lake;LNineBoards$State;)I"⟩ prog_3_method_8_code 5 (some .int) ({ frames := 2, cells := 0, slots := 0, locals := 43 } : Room) [.ref (ad 0), .ref h] [(ad 0, .inr (2, [.int (d.1 0), .int (d.1 1), .int (d.1 2), .int (d.1 3), .ref (ad 1), .int (d.1 4), .ref (ad 11), .ref (ad 12), .ref (ad 2), .ref (ad 3), .int (d.1 5), .int (d.1 6), .int (d.1 7), .int (d.1 8)])), (ad 1, .inr (1, [.int (d.1 9), .ref (ad 4), .ref (ad 5), .ref (ad 6), .ref (ad 7), .ref (ad 8), .ref (ad 9), .ref (ad 10)])), (ad 5, .inl (y 0, 9, .inl (d.2 1))), (ad 6, .inl (y 0, 9, .inl (d.2 2))), (ad 7, .inl (y 0, 9, .inl (d.2 3))), (ad 9, .inl (y 0, 9, .inl (d.2 5))), (h, .inr (7, [.int (nI dy), .int (nI wa), .int (nI la), .ref (sa 0), .ref (sa 1), .ref (sa 2), .ref (sa 3), .ref (sa 4), .ref (sa 5), .ref (sa 6)])), (sa 0, .inl (y 0, 9, .inl f0)), (sa 1, .inl (y 0, 9, .inl f1))] (QI D [(ad 0, .inr (2, [.int (d.1 0), .int (d.1 1), .int (d.1 2), .int (d.1 3), .ref (ad 1), .int (d.1 4), .ref (ad 11), .ref (ad 12), .ref (ad 2), .ref (ad 3), .int (d.1 5), .int (d.1 6), .int (d.1 7), .int (d.1 8)])), (ad 1, .inr (1, [.int (d.1 9), .ref (ad 4), .ref (ad 5), .ref (ad 6), .ref (ad 7), .ref (ad 8), .ref (ad 9), .ref (ad 10)])), (ad 5, .inl (y 0, 9, .inl (d.2 1))), (ad 6, .inl (y 0, 9, .inl (d.2 2))), (ad 7, .inl (y 0, 9, .inl (d.2 3))), (ad 9, .inl (y 0, 9, .inl (d.2 5))), (h, .inr (7, [.int (nI dy), .int (nI wa), .int (nI la), .ref (sa 0), .ref (sa 1), .ref (sa 2), .ref (sa 3), .ref (sa 4), .ref (sa 5), .ref (sa 6)])), (sa 0, .inl (y 0, 9, .inl f0)), (sa 1, .inl (y 0, 9, .inl f1))] (fun (r : Int32) (u : Nat → Int32) => r = nI (wa - leftT gt bd (wa / gt.s 1) dy wa (gt.s 9)) ∧ XW 9 u (fuT (gt.s 9) (flowT gt bd (wa / gt.s 1) dy wa) fl) ∧ XW (gt.s 9) u (flowT gt bd (wa / gt.s 1) dy wa)) (fun u => [(ad 0, .inr (2, [.int (d.1 0), .int (d.1 1), .int (d.1 2), .int (d.1 3), .ref (ad 1), .int (d.1 4), .ref (ad 11), .ref (ad 12), .ref (ad 2), .ref (ad 3), .int (d.1 5), .int (d.1 6), .int (d.1 7), .int (d.1 8)])), (ad 1, .inr (1, [.int (d.1 9), .ref (ad 4), .ref (ad 5), .ref (ad 6), .ref (ad 7), .ref (ad 8), .ref (ad 9), .ref (ad 10)])), (ad 5, .inl (y 0, 9, .inl (d.2 1))), (ad 6, .inl (y 0, 9, .inl (d.2 2))), (ad 7, .inl (y 0, 9, .inl (d.2 3))), (ad 9, .inl (y 0, 9, .inl (d.2 5))), (h, .inr (7, [.int (nI dy), .int (nI wa), .int (nI la), .ref (sa 0), .ref (sa 1), .ref (sa 2), .ref (sa 3), .ref (sa 4), .ref (sa 5), .ref (sa 6)])), (sa 0, .inl (y 0, 9, .inl f0)), (sa 1, .inl (y 0, 9, .inl u))])) := by
  refine CT.of (by decide) (nb rfl) ?_
  intro p e s m args below meth c C hr
  refine j_lv (lv' := [(0, .ref (ad 0)), (1, .ref h)]) rfl ?_
  obtain ⟨b9, b4, b10, b11⟩ := lk_b hlk
  obtain ⟨b1, b1x, b2, b2x, b3, b5, b6, b7, b8⟩ := lk_n hlk
  have hk1 : XW (gt.s 9) (d.2 1) (gt.r 1) := lk_g1 hlk
  have hk5 : XW (gt.s 9) (d.2 5) (gt.r 5) := lk_g5 hlk
  have hlv : wa / gt.s 1 ≤ 9999 := Nat.le_trans (Nat.div_le_self _ _) hwa
  refine j_aload_n (pc := 0) C d_Days_setFlows_0 rfl 0 rfl ?_
  refine j_aload_n (pc := 1) C d_Days_setFlows_1 rfl 1 rfl ?_
  refine j_get (pc := 2) C gf_Days_62 6 rfl rfl d_Days_setFlows_2 ?_
  refine j_callVi (pc := 5) C (c_xlevelAt l D y ad d gt wa hlk (by omega)) kw_Days_65 kv_Lake_levelAt 0 2 rfl rfl ⟨by decide, by decide⟩ ⟨by decide, by decide⟩ (wr := [(ad 1, .inr (1, [.int (d.1 9), .ref (ad 4), .ref (ad 5), .ref (ad 6), .ref (ad 7), .ref (ad 8), .ref (ad 9), .ref (ad 10)])), (ad 5, .inl (y 0, 9, .inl (d.2 1))), (ad 6, .inl (y 0, 9, .inl (d.2 2))), (ad 7, .inl (y 0, 9, .inl (d.2 3))), (ad 9, .inl (y 0, 9, .inl (d.2 5))), (h, .inr (7, [.int (nI dy), .int (nI wa), .int (nI la), .ref (sa 0), .ref (sa 1), .ref (sa 2), .ref (sa 3), .ref (sa 4), .ref (sa 5), .ref (sa 6)])), (sa 0, .inl (y 0, 9, .inl f0)), (sa 1, .inl (y 0, 9, .inl f1))]) [0] [1, 2, 3, 4, 5, 6, 7, 8] rfl rfl (by decide +kernel) (by decide +kernel) (by decide +kernel) (As := [.int (nI wa)]) (rest := []) rfl (nb rfl) rfl d_Days_setFlows_5 (fun r1 _ hr1 => ?_)
  obtain rfl := hr1
  refine j_ws (ws' := [(ad 1, .inr (1, [.int (d.1 9), .ref (ad 4), .ref (ad 5), .ref (ad 6), .ref (ad 7), .ref (ad 8), .ref (ad 9), .ref (ad 10)])), (ad 5, .inl (y 0, 9, .inl (d.2 1))), (ad 6, .inl (y 0, 9, .inl (d.2 2))), (ad 7, .inl (y 0, 9, .inl (d.2 3))), (ad 9, .inl (y 0, 9, .inl (d.2 5))), (h, .inr (7, [.int (nI dy), .int (nI wa), .int (nI la), .ref (sa 0), .ref (sa 1), .ref (sa 2), .ref (sa 3), .ref (sa 4), .ref (sa 5), .ref (sa 6)])), (sa 0, .inl (y 0, 9, .inl f0)), (sa 1, .inl (y 0, 9, .inl f1)), (ad 0, .inr (2, [.int (d.1 0), .int (d.1 1), .int (d.1 2), .int (d.1 3), .ref (ad 1), .int (d.1 4), .ref (ad 11), .ref (ad 12), .ref (ad 2), .ref (ad 3), .int (d.1 5), .int (d.1 6), .int (d.1 7), .int (d.1 8)]))]) rfl ?_
  refine j_istore_n (pc := 8) C (lv' := [(2, .int (nI (wa / gt.s 1))), (0, .ref (ad 0)), (1, .ref h)]) d_Days_setFlows_8 rfl (by decide) rfl ?_
  refine j_aload_n (pc := 9) C d_Days_setFlows_9 rfl 2 rfl ?_
  refine j_get (pc := 10) C gf_Days_62 5 rfl rfl d_Days_setFlows_10 ?_
  refine j_istore_n (pc := 13) C (lv' := [(3, .int (nI wa)), (2, .int (nI (wa / gt.s 1))), (0, .ref (ad 0)), (1, .ref h)]) d_Days_setFlows_13 rfl (by decide) rfl ?_
  refine j_iconst (pc := 14) C (v := 0) d_Days_setFlows_14 (by decide) ?_
  refine j_istore (pc := 15) C (lv' := [(4, .int 0), (3, .int (nI wa)), (2, .int (nI (wa / gt.s 1))), (0, .ref (ad 0)), (1, .ref h)]) d_Days_setFlows_15 (by decide) rfl ?_
  refine j_loop (α := Nat × Nat × (Nat → Int32)) (fun a => gt.s 9 - a.1) (fun a => (a.1 ≤ gt.s 9) ∧ (a.2.1 = leftT gt bd (wa / gt.s 1) dy wa a.1) ∧ (XW 9 a.2.2 (fuT a.1 (flowT gt bd (wa / gt.s 1) dy wa) fl))) (fun a => [(ad 1, .inr (1, [.int (d.1 9), .ref (ad 4), .ref (ad 5), .ref (ad 6), .ref (ad 7), .ref (ad 8), .ref (ad 9), .ref (ad 10)])), (ad 5, .inl (y 0, 9, .inl (d.2 1))), (ad 6, .inl (y 0, 9, .inl (d.2 2))), (ad 7, .inl (y 0, 9, .inl (d.2 3))), (ad 9, .inl (y 0, 9, .inl (d.2 5))), (h, .inr (7, [.int (nI dy), .int (nI wa), .int (nI la), .ref (sa 0), .ref (sa 1), .ref (sa 2), .ref (sa 3), .ref (sa 4), .ref (sa 5), .ref (sa 6)])), (sa 0, .inl (y 0, 9, .inl f0)), (sa 1, .inl (y 0, 9, .inl a.2.2)), (ad 0, .inr (2, [.int (d.1 0), .int (d.1 1), .int (d.1 2), .int (d.1 3), .ref (ad 1), .int (d.1 4), .ref (ad 11), .ref (ad 12), .ref (ad 2), .ref (ad 3), .int (d.1 5), .int (d.1 6), .int (d.1 7), .int (d.1 8)]))]) (fun a => [(4, .int (nI a.1)), (3, .int (nI a.2.1)), (2, .int (nI (wa / gt.s 1))), (0, .ref (ad 0)), (1, .ref h)]) (0, wa, f1) rfl rfl ⟨(show 0 ≤ gt.s 9 by omega), rfl, (xw_e x1 (fun j _ => fu_0.symm))⟩ ?_
  rintro ⟨iz, lz, fz⟩ hP7 ih8
  obtain ⟨hi__, hl__, hf__⟩ := hP7
  have hi_ : iz ≤ gt.s 9 := hi__
  have hl_ : lz = leftT gt bd (wa / gt.s 1) dy wa iz := hl__
  have hf_ : XW 9 fz (fuT iz (flowT gt bd (wa / gt.s 1) dy wa) fl) := hf__
  refine j_ws (ws' := [(ad 1, .inr (1, [.int (d.1 9), .ref (ad 4), .ref (ad 5), .ref (ad 6), .ref (ad 7), .ref (ad 8), .ref (ad 9), .ref (ad 10)])), (ad 5, .inl (y 0, 9, .inl (d.2 1))), (ad 6, .inl (y 0, 9, .inl (d.2 2))), (ad 7, .inl (y 0, 9, .inl (d.2 3))), (ad 9, .inl (y 0, 9, .inl (d.2 5))), (h, .inr (7, [.int (nI dy), .int (nI wa), .int (nI la), .ref (sa 0), .ref (sa 1), .ref (sa 2), .ref (sa 3), .ref (sa 4), .ref (sa 5), .ref (sa 6)])), (sa 0, .inl (y 0, 9, .inl f0)), (sa 1, .inl (y 0, 9, .inl fz)), (ad 0, .inr (2, [.int (d.1 0), .int (d.1 1), .int (d.1 2), .int (d.1 3), .ref (ad 1), .int (d.1 4), .ref (ad 11), .ref (ad 12), .ref (ad 2), .ref (ad 3), .int (d.1 5), .int (d.1 6), .int (d.1 7), .int (d.1 8)]))]) rfl ?_
  refine j_lv (lv' := [(4, .int (nI iz)), (3, .int (nI lz)), (2, .int (nI (wa / gt.s 1))), (0, .ref (ad 0)), (1, .ref h)]) rfl ?_
  have hlz : lz ≤ wa := by rw [hl_]; exact left_le
  refine j_iload (pc := 17) C d_Days_setFlows_17 0 rfl ?_
  refine j_aload_n (pc := 19) C d_Days_setFlows_19 rfl 3 rfl ?_
  refine j_get (pc := 20) C gf_Days_25 8 rfl rfl d_Days_setFlows_20 ?_
  refine j_get (pc := 23) C gf_Days_112 0 rfl rfl d_Days_setFlows_23 ?_
  refine j_st (st' := [.int (nI (gt.s 9)), .int (nI iz)]) (by rw [lk_s hlk 9 (by decide)]) ?_
  by_cases c9 : (gt.s 9) ≤ iz
  · refine j_icmp_geT (pc := 26) C (tgt := 77) d_Days_setFlows_26 (by decide) (show nI (gt.s 9) ≤ nI iz from nI_le (by omega) (by omega)) ?_
    refine j_aload_n (pc := 77) C d_Days_setFlows_77 rfl 4 rfl ?_
    refine j_get (pc := 78) C gf_Days_62 5 rfl rfl d_Days_setFlows_78 ?_
    refine j_iload_n (pc := 81) C d_Days_setFlows_81 rfl 1 rfl ?_
    refine j_isub (pc := 82) C (v := nI (wa - lz)) d_Days_setFlows_82 (pk_sub (by omega)) ?_
    have hq9 : XW 9 fz (fuT (gt.s 9) (flowT gt bd (wa / gt.s 1) dy wa) fl) := by rw [show gt.s 9 = iz by omega]; exact hf_
    exact j_iret (pc := 83) C hr rfl fz ⟨(show nI (wa - lz) = nI (wa - leftT gt bd (wa / gt.s 1) dy wa (gt.s 9)) from congrArg nI (by rw [hl_, show iz = gt.s 9 by omega])), hq9, fun j hj => (hq9 j (by omega)).trans (congrArg nI (fu_lt hj))⟩ [8, 0, 1, 2, 3, 4, 5, 6, 7] rfl (by decide) (by decide) (by decide) d_Days_setFlows_83
  · refine j_icmp_geF (pc := 26) C (tgt := 77) d_Days_setFlows_26 (by decide) (show ¬ nI (gt.s 9) ≤ nI iz from nI_ge (by omega) (by omega)) ?_
    refine j_aload_n (pc := 29) C d_Days_setFlows_29 rfl 4 rfl ?_
    refine j_get (pc := 30) C gf_Days_115 5 rfl rfl d_Days_setFlows_30 ?_
    refine j_iload (pc := 33) C d_Days_setFlows_33 0 rfl ?_
    refine j_iload_n (pc := 35) C d_Days_setFlows_35 rfl 1 rfl ?_
    refine j_aload_n (pc := 36) C d_Days_setFlows_36 rfl 3 rfl ?_
    refine j_get (pc := 37) C gf_Days_25 8 rfl rfl d_Days_setFlows_37 ?_
    refine j_iload (pc := 40) C d_Days_setFlows_40 0 rfl ?_
    refine j_aload_n (pc := 42) C d_Days_setFlows_42 rfl 4 rfl ?_
    refine j_get (pc := 43) C gf_Days_34 5 rfl rfl d_Days_setFlows_43 ?_
    refine j_iload (pc := 46) C d_Days_setFlows_46 0 rfl ?_
    have xh10 : bd iz ≤ 20 := hbd iz (by omega)
    refine j_iald (pc := 48) C 6 rfl (v := nI (bd iz)) (vp_in_nI (by omega) (by decide)) (by rw [nI_clamp (by omega)]; exact (x0 iz (by omega))) d_Days_setFlows_48 ?_
    refine j_iload_n (pc := 49) C d_Days_setFlows_49 rfl 2 rfl ?_
    refine j_aload_n (pc := 50) C d_Days_setFlows_50 rfl 4 rfl ?_
    refine j_get (pc := 51) C gf_Days_59 5 rfl rfl d_Days_setFlows_51 ?_
    refine j_callVi (pc := 54) C (c_xfullFlow l D y ad d gt iz (bd iz) (wa / gt.s 1) dy hlk (by omega) (by omega) (by omega) (by omega)) kw_Days_118 kv_Gates_fullFlow 0 1 rfl rfl ⟨by decide, by decide⟩ ⟨by decide, by decide⟩ (wr := [(h, .inr (7, [.int (nI dy), .int (nI wa), .int (nI la), .ref (sa 0), .ref (sa 1), .ref (sa 2), .ref (sa 3), .ref (sa 4), .ref (sa 5), .ref (sa 6)])), (sa 0, .inl (y 0, 9, .inl f0)), (sa 1, .inl (y 0, 9, .inl fz)), (ad 0, .inr (2, [.int (d.1 0), .int (d.1 1), .int (d.1 2), .int (d.1 3), .ref (ad 1), .int (d.1 4), .ref (ad 11), .ref (ad 12), .ref (ad 2), .ref (ad 3), .int (d.1 5), .int (d.1 6), .int (d.1 7), .int (d.1 8)]))]) [0, 1, 2, 3, 4] [5, 6, 7, 8] rfl rfl (by decide +kernel) (by decide +kernel) (by decide +kernel) (As := [.int (nI iz), .int (nI (bd iz)), .int (nI (wa / gt.s 1)), .int (nI dy)]) (rest := [.int (nI lz), .int (nI iz), .ref (sa 1)]) rfl (nb rfl) rfl d_Days_setFlows_54 (fun r11 _ hr11 => ?_)
    obtain ⟨rfl, xh12⟩ := hr11
    refine j_ws (ws' := [(h, .inr (7, [.int (nI dy), .int (nI wa), .int (nI la), .ref (sa 0), .ref (sa 1), .ref (sa 2), .ref (sa 3), .ref (sa 4), .ref (sa 5), .ref (sa 6)])), (sa 0, .inl (y 0, 9, .inl f0)), (sa 1, .inl (y 0, 9, .inl fz)), (ad 0, .inr (2, [.int (d.1 0), .int (d.1 1), .int (d.1 2), .int (d.1 3), .ref (ad 1), .int (d.1 4), .ref (ad 11), .ref (ad 12), .ref (ad 2), .ref (ad 3), .int (d.1 5), .int (d.1 6), .int (d.1 7), .int (d.1 8)])), (ad 1, .inr (1, [.int (d.1 9), .ref (ad 4), .ref (ad 5), .ref (ad 6), .ref (ad 7), .ref (ad 8), .ref (ad 9), .ref (ad 10)])), (ad 5, .inl (y 0, 9, .inl (d.2 1))), (ad 6, .inl (y 0, 9, .inl (d.2 2))), (ad 7, .inl (y 0, 9, .inl (d.2 3))), (ad 9, .inl (y 0, 9, .inl (d.2 5)))]) rfl ?_
    refine j_mmin (pc := 57) C (mt_4 (List.mem_of_getElem? (i := 12) rfl) rfl) (mt_3 (List.mem_of_getElem? (i := 56) rfl) rfl) (mt_1 (List.mem_of_getElem? (i := 3) rfl) rfl) (mt_3 (List.mem_of_getElem? (i := 57) rfl) rfl) (v := nI (min lz (fullT gt iz (bd iz) (wa / gt.s 1) dy))) (nI_min (a := lz) (b := (fullT gt iz (bd iz) (wa / gt.s 1) dy)) (by omega) (by omega)) (by decide) (nb rfl) (by decide) (by decide) d_Days_setFlows_57 ?_
    refine j_iast (pc := 60) C 2 rfl (ws' := [(h, .inr (7, [.int (nI dy), .int (nI wa), .int (nI la), .ref (sa 0), .ref (sa 1), .ref (sa 2), .ref (sa 3), .ref (sa 4), .ref (sa 5), .ref (sa 6)])), (sa 0, .inl (y 0, 9, .inl f0)), (sa 1, .inl (y 0, 9, .inl (upd fz iz (nI (min lz (fullT gt iz (bd iz) (wa / gt.s 1) dy)))))), (ad 0, .inr (2, [.int (d.1 0), .int (d.1 1), .int (d.1 2), .int (d.1 3), .ref (ad 1), .int (d.1 4), .ref (ad 11), .ref (ad 12), .ref (ad 2), .ref (ad 3), .int (d.1 5), .int (d.1 6), .int (d.1 7), .int (d.1 8)])), (ad 1, .inr (1, [.int (d.1 9), .ref (ad 4), .ref (ad 5), .ref (ad 6), .ref (ad 7), .ref (ad 8), .ref (ad 9), .ref (ad 10)])), (ad 5, .inl (y 0, 9, .inl (d.2 1))), (ad 6, .inl (y 0, 9, .inl (d.2 2))), (ad 7, .inl (y 0, 9, .inl (d.2 3))), (ad 9, .inl (y 0, 9, .inl (d.2 5)))]) (vp_in_nI (by omega) (by decide)) (by rw [nI_clamp (by omega)]; rfl) d_Days_setFlows_60 ?_
    have xh13 : XW 9 (upd fz iz (nI (min lz (fullT gt iz (bd iz) (wa / gt.s 1) dy)))) (upN (fuT iz (flowT gt bd (wa / gt.s 1) dy wa) fl) iz (min lz (fullT gt iz (bd iz) (wa / gt.s 1) dy))) := xw_up hf_
    refine j_iload_n (pc := 61) C d_Days_setFlows_61 rfl 1 rfl ?_
    refine j_aload_n (pc := 62) C d_Days_setFlows_62 rfl 4 rfl ?_
    refine j_get (pc := 63) C gf_Days_115 0 rfl rfl d_Days_setFlows_63 ?_
    refine j_iload (pc := 66) C d_Days_setFlows_66 0 rfl ?_
    refine j_iald (pc := 68) C 2 rfl (v := nI (min lz (fullT gt iz (bd iz) (wa / gt.s 1) dy))) (vp_in_nI (by omega) (by decide)) (by rw [nI_clamp (by omega)]; exact pk_us) d_Days_setFlows_68 ?_
    refine j_isub (pc := 69) C (v := nI (lz - (min lz (fullT gt iz (bd iz) (wa / gt.s 1) dy)))) d_Days_setFlows_69 (pk_sub (by omega)) ?_
    refine j_istore_n (pc := 70) C (lv' := [(3, .int (nI (lz - (min lz (fullT gt iz (bd iz) (wa / gt.s 1) dy))))), (4, .int (nI iz)), (2, .int (nI (wa / gt.s 1))), (0, .ref (ad 0)), (1, .ref h)]) d_Days_setFlows_70 rfl (by decide) rfl ?_
    refine j_iinc (pc := 71) C (v := nI (iz + 1)) (lv' := [(4, .int (nI (iz + 1))), (3, .int (nI (lz - (min lz (fullT gt iz (bd iz) (wa / gt.s 1) dy))))), (2, .int (nI (wa / gt.s 1))), (0, .ref (ad 0)), (1, .ref h)]) d_Days_setFlows_71 1 rfl (nI_add _ _) (by decide) rfl ?_
    refine j_goto (pc := 74) C (tgt := 17) d_Days_setFlows_74 (by decide) ?_
    refine j_sub (ws' := [(ad 1, .inr (1, [.int (d.1 9), .ref (ad 4), .ref (ad 5), .ref (ad 6), .ref (ad 7), .ref (ad 8), .ref (ad 9), .ref (ad 10)])), (ad 5, .inl (y 0, 9, .inl (d.2 1))), (ad 6, .inl (y 0, 9, .inl (d.2 2))), (ad 7, .inl (y 0, 9, .inl (d.2 3))), (ad 9, .inl (y 0, 9, .inl (d.2 5))), (h, .inr (7, [.int (nI dy), .int (nI wa), .int (nI la), .ref (sa 0), .ref (sa 1), .ref (sa 2), .ref (sa 3), .ref (sa 4), .ref (sa 5), .ref (sa 6)])), (sa 0, .inl (y 0, 9, .inl f0)), (sa 1, .inl (y 0, 9, .inl (upd fz iz (nI (min lz (fullT gt iz (bd iz) (wa / gt.s 1) dy)))))), (ad 0, .inr (2, [.int (d.1 0), .int (d.1 1), .int (d.1 2), .int (d.1 3), .ref (ad 1), .int (d.1 4), .ref (ad 11), .ref (ad 12), .ref (ad 2), .ref (ad 3), .int (d.1 5), .int (d.1 6), .int (d.1 7), .int (d.1 8)]))]) [4, 5, 6, 7, 8, 0, 1, 2, 3] rfl (by decide +kernel) ?_
    exact ih8 ((iz + 1), (lz - (min lz (fullT gt iz (bd iz) (wa / gt.s 1) dy))), (upd fz iz (nI (min lz (fullT gt iz (bd iz) (wa / gt.s 1) dy))))) ⟨(show (iz + 1) ≤ gt.s 9 by omega), (show (lz - (min lz (fullT gt iz (bd iz) (wa / gt.s 1) dy))) = leftT gt bd (wa / gt.s 1) dy wa (iz + 1) by rw [hl_]; rfl), (xw_e xh13 (fun j _ => fu_up hl_ j))⟩ (show gt.s 9 - (iz + 1) < gt.s 9 - iz by omega)
set_option maxHeartbeats 4000000 in
set_option maxRecDepth 100000 in
theorem c_xletFlow (l : Launch) (D : va_G) (y : Nat → ClassId) (ad : Nat → Nat) (d : LD) (gt : LA_) (h : Nat) (sa : Nat → Nat) (dy : Nat) (wa : Nat) (la : Nat) (f0 : Nat → Int32) (f1 : Nat → Int32) (f2 : Nat → Int64) (f6 : Nat → Int64) (bd : Nat → Nat) (fl : Nat → Nat) (st : Nat → Nat) (su : Nat → Nat) (hlk : LKR gt d) (x0 : XW 9 f0 bd) (x1 : XW 9 f1 fl) (x2 : XL 9 f2 st) (x6 : XL 5 f6 su) (hbd : BN (gt.s 9) bd 20) (hdy : dy ≤ 2000) (hwa : wa ≤ 9999) : CT l D y ⟨"NineBoards$Days", "letFlow", "(LNineBoards$Lake;LNineBoards$State;)V"⟩ prog_3_method_9_code 4 none ({ frames := 3, cells := 0, slots := 0, locals := 67 } : Room) [.ref (ad 0), .ref h] [(ad 0, .inr (2, [.int (d.1 0), .int (d.1 1), .int (d.1 2), .int (d.1 3), .ref (ad 1), .int (d.1 4), .ref (ad 11), .ref (ad 12), .ref (ad 2), .ref (ad 3), .int (d.1 5), .int (d.1 6), .int (d.1 7), .int (d.1 8)])), (ad 1, .inr (1, [.int (d.1 9), .ref (ad 4), .ref (ad 5), .ref (ad 6), .ref (ad 7), .ref (ad 8), .ref (ad 9), .ref (ad 10)])), (ad 5, .inl (y 0, 9, .inl (d.2 1))), (ad 6, .inl (y 0, 9, .inl (d.2 2))), (ad 7, .inl (y 0, 9, .inl (d.2 3))), (ad 9, .inl (y 0, 9, .inl (d.2 5))), (h, .inr (7, [.int (nI dy), .int (nI wa), .int (nI la), .ref (sa 0), .ref (sa 1), .ref (sa 2), .ref (sa 3), .ref (sa 4), .ref (sa 5), .ref (sa 6)])), (sa 0, .inl (y 0, 9, .inl f0)), (sa 1, .inl (y 0, 9, .inl f1)), (sa 2, .inl (y 1, 9, .inr (.inl f2))), (sa 6, .inl (y 1, 5, .inr (.inl f6)))] (QV D [(ad 0, .inr (2, [.int (d.1 0), .int (d.1 1), .int (d.1 2), .int (d.1 3), .ref (ad 1), .int (d.1 4), .ref (ad 11), .ref (ad 12), .ref (ad 2), .ref (ad 3), .int (d.1 5), .int (d.1 6), .int (d.1 7), .int (d.1 8)])), (ad 1, .inr (1, [.int (d.1 9), .ref (ad 4), .ref (ad 5), .ref (ad 6), .ref (ad 7), .ref (ad 8), .ref (ad 9), .ref (ad 10)])), (ad 5, .inl (y 0, 9, .inl (d.2 1))), (ad 6, .inl (y 0, 9, .inl (d.2 2))), (ad 7, .inl (y 0, 9, .inl (d.2 3))), (ad 9, .inl (y 0, 9, .inl (d.2 5))), (h, .inr (7, [.int (nI dy), .int (nI wa), .int (nI la), .ref (sa 0), .ref (sa 1), .ref (sa 2), .ref (sa 3), .ref (sa 4), .ref (sa 5), .ref (sa 6)])), (sa 0, .inl (y 0, 9, .inl f0)), (sa 1, .inl (y 0, 9, .inl f1)), (sa 2, .inl (y 1, 9, .inr (.inl f2))), (sa 6, .inl (y 1, 5, .inr (.inl f6)))] (fun (u : (Nat → Int32) × (Nat → Int64) × (Nat → Int64)) => XW 9 u.1 (fuT (gt.s 9) (flowT gt bd (wa / gt.s 1) dy wa) fl) ∧ XW (gt.s 9) u.1 (flowT gt bd (wa / gt.s 1) dy wa) ∧ XL 9 u.2.1 (smT (gt.s 9) (flowT gt bd (wa / gt.s 1) dy wa) st) ∧ XL 5 u.2.2 (upN su 3 (su 3 + (wa - leftT gt bd (wa / gt.s 1) dy wa (gt.s 9))))) (fun u => [(ad 0, .inr (2, [.int (d.1 0), .int (d.1 1), .int (d.1 2), .int (d.1 3), .ref (ad 1), .int (d.1 4), .ref (ad 11), .ref (ad 12), .ref (ad 2), .ref (ad 3), .int (d.1 5), .int (d.1 6), .int (d.1 7), .int (d.1 8)])), (ad 1, .inr (1, [.int (d.1 9), .ref (ad 4), .ref (ad 5), .ref (ad 6), .ref (ad 7), .ref (ad 8), .ref (ad 9), .ref (ad 10)])), (ad 5, .inl (y 0, 9, .inl (d.2 1))), (ad 6, .inl (y 0, 9, .inl (d.2 2))), (ad 7, .inl (y 0, 9, .inl (d.2 3))), (ad 9, .inl (y 0, 9, .inl (d.2 5))), (h, .inr (7, [.int (nI dy), .int (nI (leftT gt bd (wa / gt.s 1) dy wa (gt.s 9))), .int (nI la), .ref (sa 0), .ref (sa 1), .ref (sa 2), .ref (sa 3), .ref (sa 4), .ref (sa 5), .ref (sa 6)])), (sa 0, .inl (y 0, 9, .inl f0)), (sa 1, .inl (y 0, 9, .inl u.1)), (sa 2, .inl (y 1, 9, .inr (.inl u.2.1))), (sa 6, .inl (y 1, 5, .inr (.inl u.2.2)))])) := by
  refine CT.of (by decide) (nb rfl) ?_
  intro p e s m args below meth c C hr
  refine j_lv (lv' := [(0, .ref (ad 0)), (1, .ref h)]) rfl ?_
  obtain ⟨b9, b4, b10, b11⟩ := lk_b hlk
  obtain ⟨b1, b1x, b2, b2x, b3, b5, b6, b7, b8⟩ := lk_n hlk
  have hk1 : XW (gt.s 9) (d.2 1) (gt.r 1) := lk_g1 hlk
  have hk5 : XW (gt.s 9) (d.2 5) (gt.r 5) := lk_g5 hlk
  refine j_aload_n (pc := 0) C d_Days_letFlow_0 rfl 0 rfl ?_
  refine j_aload_n (pc := 1) C d_Days_letFlow_1 rfl 1 rfl ?_
  refine j_callSi (pc := 2) C (c_xsetFlows l D y ad d gt h sa dy wa la f0 f1 bd fl hlk x0 x1 hbd hdy hwa) kw_Days_121 ks_Days_setFlows ⟨by decide, by decide⟩ ⟨by decide, by decide⟩ (wr := [(sa 2, .inl (y 1, 9, .inr (.inl f2))), (sa 6, .inl (y 1, 5, .inr (.inl f6)))]) [0, 1, 2, 3, 4, 5, 6, 7, 8] [9, 10] rfl rfl (by decide +kernel) (by decide +kernel) (by decide +kernel) (As := [.ref (ad 0), .ref h]) (rest := []) rfl (nb rfl) rfl d_Days_letFlow_2 (fun r1 u2 hr1 => ?_)
  obtain ⟨rfl, xh3, xh4⟩ := hr1
  refine j_ws (ws' := [(sa 2, .inl (y 1, 9, .inr (.inl f2))), (sa 6, .inl (y 1, 5, .inr (.inl f6))), (ad 0, .inr (2, [.int (d.1 0), .int (d.1 1), .int (d.1 2), .int (d.1 3), .ref (ad 1), .int (d.1 4), .ref (ad 11), .ref (ad 12), .ref (ad 2), .ref (ad 3), .int (d.1 5), .int (d.1 6), .int (d.1 7), .int (d.1 8)])), (ad 1, .inr (1, [.int (d.1 9), .ref (ad 4), .ref (ad 5), .ref (ad 6), .ref (ad 7), .ref (ad 8), .ref (ad 9), .ref (ad 10)])), (ad 5, .inl (y 0, 9, .inl (d.2 1))), (ad 6, .inl (y 0, 9, .inl (d.2 2))), (ad 7, .inl (y 0, 9, .inl (d.2 3))), (ad 9, .inl (y 0, 9, .inl (d.2 5))), (h, .inr (7, [.int (nI dy), .int (nI wa), .int (nI la), .ref (sa 0), .ref (sa 1), .ref (sa 2), .ref (sa 3), .ref (sa 4), .ref (sa 5), .ref (sa 6)])), (sa 0, .inl (y 0, 9, .inl f0)), (sa 1, .inl (y 0, 9, .inl u2))]) rfl ?_
  have xh5 : BN (gt.s 9) (flowT gt bd (wa / gt.s 1) dy wa) 9999 := fun j hj => Nat.le_trans flow_w hwa
  refine j_istore_n (pc := 5) C (lv' := [(2, .int (nI (wa - leftT gt bd (wa / gt.s 1) dy wa (gt.s 9)))), (0, .ref (ad 0)), (1, .ref h)]) d_Days_letFlow_5 rfl (by decide) rfl ?_
  refine j_aload_n (pc := 6) C d_Days_letFlow_6 rfl 2 rfl ?_
  refine j_dup (pc := 7) C d_Days_letFlow_7 rfl ?_
  refine j_get (pc := 8) C gf_Days_62 8 rfl rfl d_Days_letFlow_8 ?_
  refine j_iload_n (pc := 11) C d_Days_letFlow_11 rfl 0 rfl ?_
  refine j_isub (pc := 12) C (v := nI (wa - (wa - leftT gt bd (wa / gt.s 1) dy wa (gt.s 9)))) d_Days_letFlow_12 (pk_sub (by omega)) ?_
  refine j_put (pc := 13) C pf_Days_62 8 (ws' := [(sa 2, .inl (y 1, 9, .inr (.inl f2))), (sa 6, .inl (y 1, 5, .inr (.inl f6))), (ad 0, .inr (2, [.int (d.1 0), .int (d.1 1), .int (d.1 2), .int (d.1 3), .ref (ad 1), .int (d.1 4), .ref (ad 11), .ref (ad 12), .ref (ad 2), .ref (ad 3), .int (d.1 5), .int (d.1 6), .int (d.1 7), .int (d.1 8)])), (ad 1, .inr (1, [.int (d.1 9), .ref (ad 4), .ref (ad 5), .ref (ad 6), .ref (ad 7), .ref (ad 8), .ref (ad 9), .ref (ad 10)])), (ad 5, .inl (y 0, 9, .inl (d.2 1))), (ad 6, .inl (y 0, 9, .inl (d.2 2))), (ad 7, .inl (y 0, 9, .inl (d.2 3))), (ad 9, .inl (y 0, 9, .inl (d.2 5))), (h, .inr (7, [.int (nI dy), .int (nI (wa - (wa - leftT gt bd (wa / gt.s 1) dy wa (gt.s 9)))), .int (nI la), .ref (sa 0), .ref (sa 1), .ref (sa 2), .ref (sa 3), .ref (sa 4), .ref (sa 5), .ref (sa 6)])), (sa 0, .inl (y 0, 9, .inl f0)), (sa 1, .inl (y 0, 9, .inl u2))]) rfl rfl rfl (nl rfl) rfl d_Days_letFlow_13 ?_
  have hll : leftT gt bd (wa / gt.s 1) dy wa (gt.s 9) ≤ wa := left_le
  refine j_ws (ws' := [(sa 2, .inl (y 1, 9, .inr (.inl f2))), (sa 6, .inl (y 1, 5, .inr (.inl f6))), (ad 0, .inr (2, [.int (d.1 0), .int (d.1 1), .int (d.1 2), .int (d.1 3), .ref (ad 1), .int (d.1 4), .ref (ad 11), .ref (ad 12), .ref (ad 2), .ref (ad 3), .int (d.1 5), .int (d.1 6), .int (d.1 7), .int (d.1 8)])), (ad 1, .inr (1, [.int (d.1 9), .ref (ad 4), .ref (ad 5), .ref (ad 6), .ref (ad 7), .ref (ad 8), .ref (ad 9), .ref (ad 10)])), (ad 5, .inl (y 0, 9, .inl (d.2 1))), (ad 6, .inl (y 0, 9, .inl (d.2 2))), (ad 7, .inl (y 0, 9, .inl (d.2 3))), (ad 9, .inl (y 0, 9, .inl (d.2 5))), (h, .inr (7, [.int (nI dy), .int (nI (leftT gt bd (wa / gt.s 1) dy wa (gt.s 9))), .int (nI la), .ref (sa 0), .ref (sa 1), .ref (sa 2), .ref (sa 3), .ref (sa 4), .ref (sa 5), .ref (sa 6)])), (sa 0, .inl (y 0, 9, .inl f0)), (sa 1, .inl (y 0, 9, .inl u2))]) (by rw [show nI (wa - (wa - leftT gt bd (wa / gt.s 1) dy wa (gt.s 9))) = nI (leftT gt bd (wa / gt.s 1) dy wa (gt.s 9)) from (congrArg nI (by omega))]) ?_
  refine j_aload_n (pc := 16) C d_Days_letFlow_16 rfl 2 rfl ?_
  refine j_get (pc := 17) C gf_Days_87 8 rfl rfl d_Days_letFlow_17 ?_
  refine j_iconst (pc := 20) C (v := 3) d_Days_letFlow_20 (by decide) ?_
  refine j_dup2 (pc := 21) C d_Days_letFlow_21 rfl rfl ?_
  refine j_lald (pc := 22) C 1 rfl (v := nL (su 3)) (vin (by decide)) (x6 3 (by omega)) d_Days_letFlow_22 ?_
  refine j_iload_n (pc := 23) C d_Days_letFlow_23 rfl 0 rfl ?_
  refine j_i2l (pc := 24) C (v := nL (wa - leftT gt bd (wa / gt.s 1) dy wa (gt.s 9))) d_Days_letFlow_24 (nId_L (by omega)) ?_
  refine j_ladd (pc := 25) C (v := nL ((su 3) + (wa - leftT gt bd (wa / gt.s 1) dy wa (gt.s 9)))) d_Days_letFlow_25 (nLd_add _ _) ?_
  refine j_last (pc := 26) C 1 rfl (ws' := [(sa 2, .inl (y 1, 9, .inr (.inl f2))), (sa 6, .inl (y 1, 5, .inr (.inl (vp_updL f6 3 (nL ((su 3) + (wa - leftT gt bd (wa / gt.s 1) dy wa (gt.s 9)))))))), (ad 0, .inr (2, [.int (d.1 0), .int (d.1 1), .int (d.1 2), .int (d.1 3), .ref (ad 1), .int (d.1 4), .ref (ad 11), .ref (ad 12), .ref (ad 2), .ref (ad 3), .int (d.1 5), .int (d.1 6), .int (d.1 7), .int (d.1 8)])), (ad 1, .inr (1, [.int (d.1 9), .ref (ad 4), .ref (ad 5), .ref (ad 6), .ref (ad 7), .ref (ad 8), .ref (ad 9), .ref (ad 10)])), (ad 5, .inl (y 0, 9, .inl (d.2 1))), (ad 6, .inl (y 0, 9, .inl (d.2 2))), (ad 7, .inl (y 0, 9, .inl (d.2 3))), (ad 9, .inl (y 0, 9, .inl (d.2 5))), (h, .inr (7, [.int (nI dy), .int (nI (leftT gt bd (wa / gt.s 1) dy wa (gt.s 9))), .int (nI la), .ref (sa 0), .ref (sa 1), .ref (sa 2), .ref (sa 3), .ref (sa 4), .ref (sa 5), .ref (sa 6)])), (sa 0, .inl (y 0, 9, .inl f0)), (sa 1, .inl (y 0, 9, .inl u2))]) (vin (by decide)) rfl d_Days_letFlow_26 ?_
  have xh6 : XL 5 (vp_updL f6 3 (nL ((su 3) + (wa - leftT gt bd (wa / gt.s 1) dy wa (gt.s 9))))) (upN su 3 ((su 3) + (wa - leftT gt bd (wa / gt.s 1) dy wa (gt.s 9)))) := xl_up x6
  refine j_iconst (pc := 27) C (v := 0) d_Days_letFlow_27 (by decide) ?_
  refine j_istore_n (pc := 28) C (lv' := [(3, .int 0), (2, .int (nI (wa - leftT gt bd (wa / gt.s 1) dy wa (gt.s 9)))), (0, .ref (ad 0)), (1, .ref h)]) d_Days_letFlow_28 rfl (by decide) rfl ?_
  refine j_loop (α := Nat × (Nat → Int64)) (fun a => gt.s 9 - a.1) (fun a => (a.1 ≤ gt.s 9) ∧ (XL 9 a.2 (smT a.1 (flowT gt bd (wa / gt.s 1) dy wa) st))) (fun a => [(sa 2, .inl (y 1, 9, .inr (.inl a.2))), (sa 6, .inl (y 1, 5, .inr (.inl (vp_updL f6 3 (nL ((su 3) + (wa - leftT gt bd (wa / gt.s 1) dy wa (gt.s 9)))))))), (ad 0, .inr (2, [.int (d.1 0), .int (d.1 1), .int (d.1 2), .int (d.1 3), .ref (ad 1), .int (d.1 4), .ref (ad 11), .ref (ad 12), .ref (ad 2), .ref (ad 3), .int (d.1 5), .int (d.1 6), .int (d.1 7), .int (d.1 8)])), (ad 1, .inr (1, [.int (d.1 9), .ref (ad 4), .ref (ad 5), .ref (ad 6), .ref (ad 7), .ref (ad 8), .ref (ad 9), .ref (ad 10)])), (ad 5, .inl (y 0, 9, .inl (d.2 1))), (ad 6, .inl (y 0, 9, .inl (d.2 2))), (ad 7, .inl (y 0, 9, .inl (d.2 3))), (ad 9, .inl (y 0, 9, .inl (d.2 5))), (h, .inr (7, [.int (nI dy), .int (nI (leftT gt bd (wa / gt.s 1) dy wa (gt.s 9))), .int (nI la), .ref (sa 0), .ref (sa 1), .ref (sa 2), .ref (sa 3), .ref (sa 4), .ref (sa 5), .ref (sa 6)])), (sa 0, .inl (y 0, 9, .inl f0)), (sa 1, .inl (y 0, 9, .inl u2))]) (fun a => [(3, .int (nI a.1)), (2, .int (nI (wa - leftT gt bd (wa / gt.s 1) dy wa (gt.s 9)))), (0, .ref (ad 0)), (1, .ref h)]) (0, f2) rfl rfl ⟨(show 0 ≤ gt.s 9 by omega), (xl_e x2 (fun j _ => sm_0.symm))⟩ ?_
  rintro ⟨iz, tz⟩ hP10 ih11
  obtain ⟨hi__, ht__⟩ := hP10
  have hi_ : iz ≤ gt.s 9 := hi__
  have ht_ : XL 9 tz (smT iz (flowT gt bd (wa / gt.s 1) dy wa) st) := ht__
  refine j_ws (ws' := [(sa 2, .inl (y 1, 9, .inr (.inl tz))), (sa 6, .inl (y 1, 5, .inr (.inl (vp_updL f6 3 (nL ((su 3) + (wa - leftT gt bd (wa / gt.s 1) dy wa (gt.s 9)))))))), (ad 0, .inr (2, [.int (d.1 0), .int (d.1 1), .int (d.1 2), .int (d.1 3), .ref (ad 1), .int (d.1 4), .ref (ad 11), .ref (ad 12), .ref (ad 2), .ref (ad 3), .int (d.1 5), .int (d.1 6), .int (d.1 7), .int (d.1 8)])), (ad 1, .inr (1, [.int (d.1 9), .ref (ad 4), .ref (ad 5), .ref (ad 6), .ref (ad 7), .ref (ad 8), .ref (ad 9), .ref (ad 10)])), (ad 5, .inl (y 0, 9, .inl (d.2 1))), (ad 6, .inl (y 0, 9, .inl (d.2 2))), (ad 7, .inl (y 0, 9, .inl (d.2 3))), (ad 9, .inl (y 0, 9, .inl (d.2 5))), (h, .inr (7, [.int (nI dy), .int (nI (leftT gt bd (wa / gt.s 1) dy wa (gt.s 9))), .int (nI la), .ref (sa 0), .ref (sa 1), .ref (sa 2), .ref (sa 3), .ref (sa 4), .ref (sa 5), .ref (sa 6)])), (sa 0, .inl (y 0, 9, .inl f0)), (sa 1, .inl (y 0, 9, .inl u2))]) rfl ?_
  refine j_lv (lv' := [(3, .int (nI iz)), (2, .int (nI (wa - leftT gt bd (wa / gt.s 1) dy wa (gt.s 9)))), (0, .ref (ad 0)), (1, .ref h)]) rfl ?_
  refine j_iload_n (pc := 29) C d_Days_letFlow_29 rfl 0 rfl ?_
  refine j_aload_n (pc := 30) C d_Days_letFlow_30 rfl 2 rfl ?_
  refine j_get (pc := 31) C gf_Days_25 2 rfl rfl d_Days_letFlow_31 ?_
  refine j_get (pc := 34) C gf_Days_112 3 rfl rfl d_Days_letFlow_34 ?_
  refine j_st (st' := [.int (nI (gt.s 9)), .int (nI iz)]) (by rw [lk_s hlk 9 (by decide)]) ?_
  by_cases c12 : (gt.s 9) ≤ iz
  · refine j_icmp_geT (pc := 37) C (tgt := 62) d_Days_letFlow_37 (by decide) (show nI (gt.s 9) ≤ nI iz from nI_le (by omega) (by omega)) ?_
    exact j_vret (pc := 62) C hr (u2, tz, (vp_updL f6 3 (nL ((su 3) + (wa - leftT gt bd (wa / gt.s 1) dy wa (gt.s 9)))))) ⟨xh3, xh4, (by rw [show gt.s 9 = iz by omega]; exact ht_), xh6⟩ [2, 3, 4, 5, 6, 7, 8, 9, 10, 0, 1] rfl (by decide) (by decide) (by decide) d_Days_letFlow_62
  · refine j_icmp_geF (pc := 37) C (tgt := 62) d_Days_letFlow_37 (by decide) (show ¬ nI (gt.s 9) ≤ nI iz from nI_ge (by omega) (by omega)) ?_
    refine j_aload_n (pc := 40) C d_Days_letFlow_40 rfl 3 rfl ?_
    refine j_get (pc := 41) C gf_Days_125 8 rfl rfl d_Days_letFlow_41 ?_
    refine j_iload_n (pc := 44) C d_Days_letFlow_44 rfl 0 rfl ?_
    refine j_dup2 (pc := 45) C d_Days_letFlow_45 rfl rfl ?_
    refine j_lald (pc := 46) C 0 rfl (v := nL ((smT iz (flowT gt bd (wa / gt.s 1) dy wa) st) iz)) (vp_in_nI (by omega) (by decide)) (by rw [nI_clamp (by omega)]; exact (ht_ iz (by omega))) d_Days_letFlow_46 ?_
    refine j_aload_n (pc := 47) C d_Days_letFlow_47 rfl 3 rfl ?_
    refine j_get (pc := 48) C gf_Days_115 8 rfl rfl d_Days_letFlow_48 ?_
    refine j_iload_n (pc := 51) C d_Days_letFlow_51 rfl 0 rfl ?_
    have xh13 : (flowT gt bd (wa / gt.s 1) dy wa) iz ≤ 9999 := xh5 iz (by omega)
    refine j_iald (pc := 52) C 10 rfl (v := nI ((flowT gt bd (wa / gt.s 1) dy wa) iz)) (vp_in_nI (by omega) (by decide)) (by rw [nI_clamp (by omega)]; exact (xh4 iz (by omega))) d_Days_letFlow_52 ?_
    refine j_i2l (pc := 53) C (v := nL ((flowT gt bd (wa / gt.s 1) dy wa) iz)) d_Days_letFlow_53 (nId_L (by omega)) ?_
    refine j_ladd (pc := 54) C (v := nL (((smT iz (flowT gt bd (wa / gt.s 1) dy wa) st) iz) + ((flowT gt bd (wa / gt.s 1) dy wa) iz))) d_Days_letFlow_54 (nLd_add _ _) ?_
    refine j_last (pc := 55) C 0 rfl (ws' := [(sa 2, .inl (y 1, 9, .inr (.inl (vp_updL tz iz (nL (((smT iz (flowT gt bd (wa / gt.s 1) dy wa) st) iz) + ((flowT gt bd (wa / gt.s 1) dy wa) iz))))))), (sa 6, .inl (y 1, 5, .inr (.inl (vp_updL f6 3 (nL ((su 3) + (wa - leftT gt bd (wa / gt.s 1) dy wa (gt.s 9)))))))), (ad 0, .inr (2, [.int (d.1 0), .int (d.1 1), .int (d.1 2), .int (d.1 3), .ref (ad 1), .int (d.1 4), .ref (ad 11), .ref (ad 12), .ref (ad 2), .ref (ad 3), .int (d.1 5), .int (d.1 6), .int (d.1 7), .int (d.1 8)])), (ad 1, .inr (1, [.int (d.1 9), .ref (ad 4), .ref (ad 5), .ref (ad 6), .ref (ad 7), .ref (ad 8), .ref (ad 9), .ref (ad 10)])), (ad 5, .inl (y 0, 9, .inl (d.2 1))), (ad 6, .inl (y 0, 9, .inl (d.2 2))), (ad 7, .inl (y 0, 9, .inl (d.2 3))), (ad 9, .inl (y 0, 9, .inl (d.2 5))), (h, .inr (7, [.int (nI dy), .int (nI (leftT gt bd (wa / gt.s 1) dy wa (gt.s 9))), .int (nI la), .ref (sa 0), .ref (sa 1), .ref (sa 2), .ref (sa 3), .ref (sa 4), .ref (sa 5), .ref (sa 6)])), (sa 0, .inl (y 0, 9, .inl f0)), (sa 1, .inl (y 0, 9, .inl u2))]) (vp_in_nI (by omega) (by decide)) (by rw [nI_clamp (by omega)]; rfl) d_Days_letFlow_55 ?_
    have xh14 : XL 9 (vp_updL tz iz (nL (((smT iz (flowT gt bd (wa / gt.s 1) dy wa) st) iz) + ((flowT gt bd (wa / gt.s 1) dy wa) iz)))) (upN (smT iz (flowT gt bd (wa / gt.s 1) dy wa) st) iz (((smT iz (flowT gt bd (wa / gt.s 1) dy wa) st) iz) + ((flowT gt bd (wa / gt.s 1) dy wa) iz))) := xl_up ht_
    refine j_iinc (pc := 56) C (v := nI (iz + 1)) (lv' := [(3, .int (nI (iz + 1))), (2, .int (nI (wa - leftT gt bd (wa / gt.s 1) dy wa (gt.s 9)))), (0, .ref (ad 0)), (1, .ref h)]) d_Days_letFlow_56 0 rfl (nI_add _ _) (by decide) rfl ?_
    refine j_goto (pc := 59) C (tgt := 29) d_Days_letFlow_59 (by decide) ?_
    exact ih11 ((iz + 1), (vp_updL tz iz (nL (((smT iz (flowT gt bd (wa / gt.s 1) dy wa) st) iz) + ((flowT gt bd (wa / gt.s 1) dy wa) iz))))) ⟨(show (iz + 1) ≤ gt.s 9 by omega), (xl_e xh14 (fun j _ => sm_up j))⟩ (show gt.s 9 - (iz + 1) < gt.s 9 - iz by omega)
set_option maxHeartbeats 4000000 in
set_option maxRecDepth 100000 in
theorem c_xgiveWorth (l : Launch) (D : va_G) (y : Nat → ClassId) (ad : Nat → Nat) (d : LD) (gt : LA_) (h : Nat) (sa : Nat → Nat) (dy : Nat) (wa : Nat) (la : Nat) (f1 : Nat → Int32) (f3 : Nat → Int32) (f4 : Nat → Int32) (f5 : Nat → Int32) (fl : Nat → Nat) (wo : Nat → Int) (ly : Nat → Int) (se : Nat → Nat) (lo : Nat) (hlk : LKR gt d) (x1 : XW (gt.s 9) f1 fl) (b1f : BN (gt.s 9) fl 9999) (x3 : XZ 6 f3 wo) (x4 : XZ 6 f4 ly) (x5 : XW 16 f5 se) (hdy : dy ≤ 2000) : CT l D y ⟨"NineBoards$Days", "giveWorth", "(LNineBoards$Lake;LNineBoards$State;I)V"⟩ prog_3_method_10_code 5 none ({ frames := 1, cells := 0, slots := 0, locals := 24 } : Room) [.ref (ad 0), .ref h, .int (nI lo)] [(ad 0, .inr (2, [.int (d.1 0), .int (d.1 1), .int (d.1 2), .int (d.1 3), .ref (ad 1), .int (d.1 4), .ref (ad 11), .ref (ad 12), .ref (ad 2), .ref (ad 3), .int (d.1 5), .int (d.1 6), .int (d.1 7), .int (d.1 8)])), (ad 2, .inr (8, [.int (d.1 10), .ref (ad 13), .ref (ad 14), .ref (ad 15), .ref (ad 16), .ref (ad 17), .ref (ad 18), .ref (ad 19)])), (ad 13, .inl (y 0, 16, .inl (d.2 9))), (ad 14, .inl (y 0, 16, .inl (d.2 10))), (ad 15, .inl (y 0, 16, .inl (d.2 11))), (ad 16, .inl (y 0, 16, .inl (d.2 12))), (ad 17, .inl (y 0, 16, .inl (d.2 13))), (ad 18, .inl (y 0, 16, .inl (d.2 14))), (ad 19, .inl (y 0, 16, .inl (d.2 15))), (h, .inr (7, [.int (nI dy), .int (nI wa), .int (nI la), .ref (sa 0), .ref (sa 1), .ref (sa 2), .ref (sa 3), .ref (sa 4), .ref (sa 5), .ref (sa 6)])), (sa 1, .inl (y 0, 9, .inl f1)), (sa 3, .inl (y 0, 6, .inl f3)), (sa 4, .inl (y 0, 6, .inl f4)), (sa 5, .inl (y 0, 16, .inl f5))] (QV D [(ad 0, .inr (2, [.int (d.1 0), .int (d.1 1), .int (d.1 2), .int (d.1 3), .ref (ad 1), .int (d.1 4), .ref (ad 11), .ref (ad 12), .ref (ad 2), .ref (ad 3), .int (d.1 5), .int (d.1 6), .int (d.1 7), .int (d.1 8)])), (ad 2, .inr (8, [.int (d.1 10), .ref (ad 13), .ref (ad 14), .ref (ad 15), .ref (ad 16), .ref (ad 17), .ref (ad 18), .ref (ad 19)])), (ad 13, .inl (y 0, 16, .inl (d.2 9))), (ad 14, .inl (y 0, 16, .inl (d.2 10))), (ad 15, .inl (y 0, 16, .inl (d.2 11))), (ad 16, .inl (y 0, 16, .inl (d.2 12))), (ad 17, .inl (y 0, 16, .inl (d.2 13))), (ad 18, .inl (y 0, 16, .inl (d.2 14))), (ad 19, .inl (y 0, 16, .inl (d.2 15))), (h, .inr (7, [.int (nI dy), .int (nI wa), .int (nI la), .ref (sa 0), .ref (sa 1), .ref (sa 2), .ref (sa 3), .ref (sa 4), .ref (sa 5), .ref (sa 6)])), (sa 1, .inl (y 0, 9, .inl f1)), (sa 3, .inl (y 0, 6, .inl f3)), (sa 4, .inl (y 0, 6, .inl f4)), (sa 5, .inl (y 0, 16, .inl f5))] (fun (u : (Nat → Int32) × (Nat → Int32) × (Nat → Int32)) => XZ 6 u.1 (woT (gt.s 4) wo (lyT gt dy fl lo ly (gt.s 10))) ∧ XZ 6 u.2.1 (lyT gt dy fl lo ly (gt.s 10)) ∧ XW 16 u.2.2 (seT gt dy fl se (gt.s 10))) (fun u => [(ad 0, .inr (2, [.int (d.1 0), .int (d.1 1), .int (d.1 2), .int (d.1 3), .ref (ad 1), .int (d.1 4), .ref (ad 11), .ref (ad 12), .ref (ad 2), .ref (ad 3), .int (d.1 5), .int (d.1 6), .int (d.1 7), .int (d.1 8)])), (ad 2, .inr (8, [.int (d.1 10), .ref (ad 13), .ref (ad 14), .ref (ad 15), .ref (ad 16), .ref (ad 17), .ref (ad 18), .ref (ad 19)])), (ad 13, .inl (y 0, 16, .inl (d.2 9))), (ad 14, .inl (y 0, 16, .inl (d.2 10))), (ad 15, .inl (y 0, 16, .inl (d.2 11))), (ad 16, .inl (y 0, 16, .inl (d.2 12))), (ad 17, .inl (y 0, 16, .inl (d.2 13))), (ad 18, .inl (y 0, 16, .inl (d.2 14))), (ad 19, .inl (y 0, 16, .inl (d.2 15))), (h, .inr (7, [.int (nI dy), .int (nI wa), .int (nI la), .ref (sa 0), .ref (sa 1), .ref (sa 2), .ref (sa 3), .ref (sa 4), .ref (sa 5), .ref (sa 6)])), (sa 1, .inl (y 0, 9, .inl f1)), (sa 3, .inl (y 0, 6, .inl u.1)), (sa 4, .inl (y 0, 6, .inl u.2.1)), (sa 5, .inl (y 0, 16, .inl u.2.2))])) := by
  refine CT.of (by decide) (nb rfl) ?_
  intro p e s m args below meth c C hr
  refine j_lv (lv' := [(0, .ref (ad 0)), (1, .ref h), (2, .int (nI lo))]) rfl ?_
  obtain ⟨b9, b4, b10, b11⟩ := lk_b hlk
  obtain ⟨b1, b1x, b2, b2x, b3, b5, b6, b7, b8⟩ := lk_n hlk
  have hk9 : XW (gt.s 10) (d.2 9) (gt.r 9) := lk_t hlk 9 (by decide) (by decide)
  have hk10 : XW (gt.s 10) (d.2 10) (gt.r 10) := lk_t hlk 10 (by decide) (by decide)
  have hk11 : XW (gt.s 10) (d.2 11) (gt.r 11) := lk_t hlk 11 (by decide) (by decide)
  have hk12 : XW (gt.s 10) (d.2 12) (gt.r 12) := lk_t hlk 12 (by decide) (by decide)
  have hk13 : XW (gt.s 10) (d.2 13) (gt.r 13) := lk_t hlk 13 (by decide) (by decide)
  have hk14 : XW (gt.s 10) (d.2 14) (gt.r 14) := lk_t hlk 14 (by decide) (by decide)
  have hk15 : XW (gt.s 10) (d.2 15) (gt.r 15) := lk_t hlk 15 (by decide) (by decide)
  refine j_iconst (pc := 0) C (v := 0) d_Days_giveWorth_0 (by decide) ?_
  refine j_istore_n (pc := 1) C (lv' := [(3, .int 0), (0, .ref (ad 0)), (1, .ref h), (2, .int (nI lo))]) d_Days_giveWorth_1 rfl (by decide) rfl ?_
  refine j_loop (α := Nat × (Nat → Int32)) (fun a => gt.s 4 - a.1) (fun a => (a.1 ≤ gt.s 4) ∧ (XZ 6 a.2 (laT a.1 (-((lo : Nat) : Int)) ly))) (fun a => [(ad 0, .inr (2, [.int (d.1 0), .int (d.1 1), .int (d.1 2), .int (d.1 3), .ref (ad 1), .int (d.1 4), .ref (ad 11), .ref (ad 12), .ref (ad 2), .ref (ad 3), .int (d.1 5), .int (d.1 6), .int (d.1 7), .int (d.1 8)])), (ad 2, .inr (8, [.int (d.1 10), .ref (ad 13), .ref (ad 14), .ref (ad 15), .ref (ad 16), .ref (ad 17), .ref (ad 18), .ref (ad 19)])), (ad 13, .inl (y 0, 16, .inl (d.2 9))), (ad 14, .inl (y 0, 16, .inl (d.2 10))), (ad 15, .inl (y 0, 16, .inl (d.2 11))), (ad 16, .inl (y 0, 16, .inl (d.2 12))), (ad 17, .inl (y 0, 16, .inl (d.2 13))), (ad 18, .inl (y 0, 16, .inl (d.2 14))), (ad 19, .inl (y 0, 16, .inl (d.2 15))), (h, .inr (7, [.int (nI dy), .int (nI wa), .int (nI la), .ref (sa 0), .ref (sa 1), .ref (sa 2), .ref (sa 3), .ref (sa 4), .ref (sa 5), .ref (sa 6)])), (sa 1, .inl (y 0, 9, .inl f1)), (sa 3, .inl (y 0, 6, .inl f3)), (sa 4, .inl (y 0, 6, .inl a.2)), (sa 5, .inl (y 0, 16, .inl f5))]) (fun a => [(3, .int (nI a.1)), (0, .ref (ad 0)), (1, .ref h), (2, .int (nI lo))]) (0, f4) rfl rfl ⟨(show 0 ≤ gt.s 4 by omega), (xz_e x4 (fun j _ => la_0.symm))⟩ ?_
  rintro ⟨iz, yz⟩ hP37 ih38
  obtain ⟨hi__, h1__⟩ := hP37
  have hi_ : iz ≤ gt.s 4 := hi__
  have h1_ : XZ 6 yz (laT iz (-((lo : Nat) : Int)) ly) := h1__
  refine j_ws (ws' := [(ad 0, .inr (2, [.int (d.1 0), .int (d.1 1), .int (d.1 2), .int (d.1 3), .ref (ad 1), .int (d.1 4), .ref (ad 11), .ref (ad 12), .ref (ad 2), .ref (ad 3), .int (d.1 5), .int (d.1 6), .int (d.1 7), .int (d.1 8)])), (ad 2, .inr (8, [.int (d.1 10), .ref (ad 13), .ref (ad 14), .ref (ad 15), .ref (ad 16), .ref (ad 17), .ref (ad 18), .ref (ad 19)])), (ad 13, .inl (y 0, 16, .inl (d.2 9))), (ad 14, .inl (y 0, 16, .inl (d.2 10))), (ad 15, .inl (y 0, 16, .inl (d.2 11))), (ad 16, .inl (y 0, 16, .inl (d.2 12))), (ad 17, .inl (y 0, 16, .inl (d.2 13))), (ad 18, .inl (y 0, 16, .inl (d.2 14))), (ad 19, .inl (y 0, 16, .inl (d.2 15))), (h, .inr (7, [.int (nI dy), .int (nI wa), .int (nI la), .ref (sa 0), .ref (sa 1), .ref (sa 2), .ref (sa 3), .ref (sa 4), .ref (sa 5), .ref (sa 6)])), (sa 1, .inl (y 0, 9, .inl f1)), (sa 3, .inl (y 0, 6, .inl f3)), (sa 4, .inl (y 0, 6, .inl yz)), (sa 5, .inl (y 0, 16, .inl f5))]) rfl ?_
  refine j_lv (lv' := [(3, .int (nI iz)), (0, .ref (ad 0)), (1, .ref h), (2, .int (nI lo))]) rfl ?_
  refine j_iload_n (pc := 2) C d_Days_giveWorth_2 rfl 0 rfl ?_
  refine j_aload_n (pc := 3) C d_Days_giveWorth_3 rfl 1 rfl ?_
  refine j_get (pc := 4) C gf_Days_128 0 rfl rfl d_Days_giveWorth_4 ?_
  refine j_st (st' := [.int (nI (gt.s 4)), .int (nI iz)]) (by rw [lk_s hlk 4 (by decide)]) ?_
  by_cases c39 : (gt.s 4) ≤ iz
  · refine j_icmp_geT (pc := 7) C (tgt := 24) d_Days_giveWorth_7 (by decide) (show nI (gt.s 4) ≤ nI iz from nI_le (by omega) (by omega)) ?_
    refine j_aload_n (pc := 24) C d_Days_giveWorth_24 rfl 1 rfl ?_
    refine j_get (pc := 25) C gf_Days_134 0 rfl rfl d_Days_giveWorth_25 ?_
    refine j_astore_n (pc := 28) C (lv' := [(3, .ref (ad 2)), (0, .ref (ad 0)), (1, .ref h), (2, .int (nI lo))]) d_Days_giveWorth_28 rfl (by decide) rfl ?_
    refine j_iconst (pc := 29) C (v := 0) d_Days_giveWorth_29 (by decide) ?_
    refine j_istore (pc := 30) C (lv' := [(4, .int 0), (3, .ref (ad 2)), (0, .ref (ad 0)), (1, .ref h), (2, .int (nI lo))]) d_Days_giveWorth_30 (by decide) rfl ?_
    refine j_loop (α := Nat × (Nat → Int32) × (Nat → Int32)) (fun a => gt.s 10 - a.1) (fun a => (a.1 ≤ gt.s 10) ∧ (XZ 6 a.2.1 (lyT gt dy fl lo ly a.1)) ∧ (XW 16 a.2.2 (seT gt dy fl se a.1))) (fun a => [(ad 0, .inr (2, [.int (d.1 0), .int (d.1 1), .int (d.1 2), .int (d.1 3), .ref (ad 1), .int (d.1 4), .ref (ad 11), .ref (ad 12), .ref (ad 2), .ref (ad 3), .int (d.1 5), .int (d.1 6), .int (d.1 7), .int (d.1 8)])), (ad 2, .inr (8, [.int (d.1 10), .ref (ad 13), .ref (ad 14), .ref (ad 15), .ref (ad 16), .ref (ad 17), .ref (ad 18), .ref (ad 19)])), (ad 13, .inl (y 0, 16, .inl (d.2 9))), (ad 14, .inl (y 0, 16, .inl (d.2 10))), (ad 15, .inl (y 0, 16, .inl (d.2 11))), (ad 16, .inl (y 0, 16, .inl (d.2 12))), (ad 17, .inl (y 0, 16, .inl (d.2 13))), (ad 18, .inl (y 0, 16, .inl (d.2 14))), (ad 19, .inl (y 0, 16, .inl (d.2 15))), (h, .inr (7, [.int (nI dy), .int (nI wa), .int (nI la), .ref (sa 0), .ref (sa 1), .ref (sa 2), .ref (sa 3), .ref (sa 4), .ref (sa 5), .ref (sa 6)])), (sa 1, .inl (y 0, 9, .inl f1)), (sa 3, .inl (y 0, 6, .inl f3)), (sa 4, .inl (y 0, 6, .inl a.2.1)), (sa 5, .inl (y 0, 16, .inl a.2.2))]) (fun a => [(4, .int (nI a.1)), (3, .ref (ad 2)), (0, .ref (ad 0)), (1, .ref h), (2, .int (nI lo))]) (0, yz, f5) rfl rfl ⟨(show 0 ≤ gt.s 10 by omega), (xz_e h1_ (fun j _ => by rw [show iz = gt.s 4 by omega]; exact ly_0 j)), (xw_e x5 (fun j _ => se_0.symm))⟩ ?_
    rintro ⟨kz, vz, ez⟩ hP56 ih57
    obtain ⟨hk__, h2__, h3__⟩ := hP56
    have hk_ : kz ≤ gt.s 10 := hk__
    have h2_ : XZ 6 vz (lyT gt dy fl lo ly kz) := h2__
    have h3_ : XW 16 ez (seT gt dy fl se kz) := h3__
    refine j_ws (ws' := [(ad 0, .inr (2, [.int (d.1 0), .int (d.1 1), .int (d.1 2), .int (d.1 3), .ref (ad 1), .int (d.1 4), .ref (ad 11), .ref (ad 12), .ref (ad 2), .ref (ad 3), .int (d.1 5), .int (d.1 6), .int (d.1 7), .int (d.1 8)])), (ad 2, .inr (8, [.int (d.1 10), .ref (ad 13), .ref (ad 14), .ref (ad 15), .ref (ad 16), .ref (ad 17), .ref (ad 18), .ref (ad 19)])), (ad 13, .inl (y 0, 16, .inl (d.2 9))), (ad 14, .inl (y 0, 16, .inl (d.2 10))), (ad 15, .inl (y 0, 16, .inl (d.2 11))), (ad 16, .inl (y 0, 16, .inl (d.2 12))), (ad 17, .inl (y 0, 16, .inl (d.2 13))), (ad 18, .inl (y 0, 16, .inl (d.2 14))), (ad 19, .inl (y 0, 16, .inl (d.2 15))), (h, .inr (7, [.int (nI dy), .int (nI wa), .int (nI la), .ref (sa 0), .ref (sa 1), .ref (sa 2), .ref (sa 3), .ref (sa 4), .ref (sa 5), .ref (sa 6)])), (sa 1, .inl (y 0, 9, .inl f1)), (sa 3, .inl (y 0, 6, .inl f3)), (sa 4, .inl (y 0, 6, .inl vz)), (sa 5, .inl (y 0, 16, .inl ez))]) rfl ?_
    refine j_lv (lv' := [(4, .int (nI kz)), (3, .ref (ad 2)), (0, .ref (ad 0)), (1, .ref h), (2, .int (nI lo))]) rfl ?_
    refine j_iload (pc := 32) C d_Days_giveWorth_32 0 rfl ?_
    refine j_aload_n (pc := 34) C d_Days_giveWorth_34 rfl 1 rfl ?_
    refine j_get (pc := 35) C gf_Days_138 1 rfl rfl d_Days_giveWorth_35 ?_
    refine j_st (st' := [.int (nI (gt.s 10)), .int (nI kz)]) (by rw [lk_s hlk 10 (by decide)]) ?_
    by_cases c58 : (gt.s 10) ≤ kz
    · refine j_icmp_geT (pc := 38) C (tgt := 105) d_Days_giveWorth_38 (by decide) (show nI (gt.s 10) ≤ nI kz from nI_le (by omega) (by omega)) ?_
      refine j_iconst (pc := 105) C (v := 0) d_Days_giveWorth_105 (by decide) ?_
      refine j_istore (pc := 106) C (lv' := [(4, .int 0), (3, .ref (ad 2)), (0, .ref (ad 0)), (1, .ref h), (2, .int (nI lo))]) d_Days_giveWorth_106 (by decide) rfl ?_
      refine j_loop (α := Nat × (Nat → Int32)) (fun a => gt.s 4 - a.1) (fun a => (a.1 ≤ gt.s 4) ∧ (XZ 6 a.2 (woT a.1 wo (lyT gt dy fl lo ly kz)))) (fun a => [(ad 0, .inr (2, [.int (d.1 0), .int (d.1 1), .int (d.1 2), .int (d.1 3), .ref (ad 1), .int (d.1 4), .ref (ad 11), .ref (ad 12), .ref (ad 2), .ref (ad 3), .int (d.1 5), .int (d.1 6), .int (d.1 7), .int (d.1 8)])), (ad 2, .inr (8, [.int (d.1 10), .ref (ad 13), .ref (ad 14), .ref (ad 15), .ref (ad 16), .ref (ad 17), .ref (ad 18), .ref (ad 19)])), (ad 13, .inl (y 0, 16, .inl (d.2 9))), (ad 14, .inl (y 0, 16, .inl (d.2 10))), (ad 15, .inl (y 0, 16, .inl (d.2 11))), (ad 16, .inl (y 0, 16, .inl (d.2 12))), (ad 17, .inl (y 0, 16, .inl (d.2 13))), (ad 18, .inl (y 0, 16, .inl (d.2 14))), (ad 19, .inl (y 0, 16, .inl (d.2 15))), (h, .inr (7, [.int (nI dy), .int (nI wa), .int (nI la), .ref (sa 0), .ref (sa 1), .ref (sa 2), .ref (sa 3), .ref (sa 4), .ref (sa 5), .ref (sa 6)])), (sa 1, .inl (y 0, 9, .inl f1)), (sa 3, .inl (y 0, 6, .inl a.2)), (sa 4, .inl (y 0, 6, .inl vz)), (sa 5, .inl (y 0, 16, .inl ez))]) (fun a => [(4, .int (nI a.1)), (3, .ref (ad 2)), (0, .ref (ad 0)), (1, .ref h), (2, .int (nI lo))]) (0, f3) rfl rfl ⟨(show 0 ≤ gt.s 4 by omega), (xz_e x3 (fun j _ => wo_0.symm))⟩ ?_
      rintro ⟨jz, oz⟩ hP61 ih62
      obtain ⟨hj__, h4__⟩ := hP61
      have hj_ : jz ≤ gt.s 4 := hj__
      have h4_ : XZ 6 oz (woT jz wo (lyT gt dy fl lo ly kz)) := h4__
      refine j_ws (ws' := [(ad 0, .inr (2, [.int (d.1 0), .int (d.1 1), .int (d.1 2), .int (d.1 3), .ref (ad 1), .int (d.1 4), .ref (ad 11), .ref (ad 12), .ref (ad 2), .ref (ad 3), .int (d.1 5), .int (d.1 6), .int (d.1 7), .int (d.1 8)])), (ad 2, .inr (8, [.int (d.1 10), .ref (ad 13), .ref (ad 14), .ref (ad 15), .ref (ad 16), .ref (ad 17), .ref (ad 18), .ref (ad 19)])), (ad 13, .inl (y 0, 16, .inl (d.2 9))), (ad 14, .inl (y 0, 16, .inl (d.2 10))), (ad 15, .inl (y 0, 16, .inl (d.2 11))), (ad 16, .inl (y 0, 16, .inl (d.2 12))), (ad 17, .inl (y 0, 16, .inl (d.2 13))), (ad 18, .inl (y 0, 16, .inl (d.2 14))), (ad 19, .inl (y 0, 16, .inl (d.2 15))), (h, .inr (7, [.int (nI dy), .int (nI wa), .int (nI la), .ref (sa 0), .ref (sa 1), .ref (sa 2), .ref (sa 3), .ref (sa 4), .ref (sa 5), .ref (sa 6)])), (sa 1, .inl (y 0, 9, .inl f1)), (sa 3, .inl (y 0, 6, .inl oz)), (sa 4, .inl (y 0, 6, .inl vz)), (sa 5, .inl (y 0, 16, .inl ez))]) rfl ?_
      refine j_lv (lv' := [(4, .int (nI jz)), (3, .ref (ad 2)), (0, .ref (ad 0)), (1, .ref h), (2, .int (nI lo))]) rfl ?_
      refine j_iload (pc := 108) C d_Days_giveWorth_108 0 rfl ?_
      refine j_aload_n (pc := 110) C d_Days_giveWorth_110 rfl 2 rfl ?_
      refine j_get (pc := 111) C gf_Days_128 0 rfl rfl d_Days_giveWorth_111 ?_
      refine j_st (st' := [.int (nI (gt.s 4)), .int (nI jz)]) (by rw [lk_s hlk 4 (by decide)]) ?_
      by_cases c63 : (gt.s 4) ≤ jz
      · refine j_icmp_geT (pc := 114) C (tgt := 140) d_Days_giveWorth_114 (by decide) (show nI (gt.s 4) ≤ nI jz from nI_le (by omega) (by omega)) ?_
        obtain rfl : kz = gt.s 10 := by omega
        obtain rfl : jz = gt.s 4 := by omega
        exact j_vret (pc := 140) C hr (oz, vz, ez) ⟨h4_, h2_, h3_⟩ [0, 1, 2, 3, 4, 5, 6, 7, 8, 9, 10, 11, 12, 13] rfl (by decide) (by decide) (by decide) d_Days_giveWorth_140
      · refine j_icmp_geF (pc := 114) C (tgt := 140) d_Days_giveWorth_114 (by decide) (show ¬ nI (gt.s 4) ≤ nI jz from nI_ge (by omega) (by omega)) ?_
        refine j_aload_n (pc := 117) C d_Days_giveWorth_117 rfl 3 rfl ?_
        refine j_get (pc := 118) C gf_Days_156 9 rfl rfl d_Days_giveWorth_118 ?_
        refine j_iload (pc := 121) C d_Days_giveWorth_121 0 rfl ?_
        refine j_dup2 (pc := 123) C d_Days_giveWorth_123 rfl rfl ?_
        refine j_iald (pc := 124) C 11 rfl (v := zI ((woT jz wo (lyT gt dy fl lo ly kz)) jz)) (vp_in_nI (by omega) (by decide)) (by rw [nI_clamp (by omega)]; exact (h4_ jz (by omega))) d_Days_giveWorth_124 ?_
        refine j_aload_n (pc := 125) C d_Days_giveWorth_125 rfl 3 rfl ?_
        refine j_get (pc := 126) C gf_Days_131 9 rfl rfl d_Days_giveWorth_126 ?_
        refine j_iload (pc := 129) C d_Days_giveWorth_129 0 rfl ?_
        refine j_iald (pc := 131) C 12 rfl (v := zI ((lyT gt dy fl lo ly kz) jz)) (vp_in_nI (by omega) (by decide)) (by rw [nI_clamp (by omega)]; exact (h2_ jz (by omega))) d_Days_giveWorth_131 ?_
        refine j_iadd (pc := 132) C (v := zI (((woT jz wo (lyT gt dy fl lo ly kz)) jz) + ((lyT gt dy fl lo ly kz) jz))) d_Days_giveWorth_132 (zI_add ((woT jz wo (lyT gt dy fl lo ly kz)) jz) ((lyT gt dy fl lo ly kz) jz)) ?_
        refine j_iast (pc := 133) C 11 rfl (ws' := [(ad 0, .inr (2, [.int (d.1 0), .int (d.1 1), .int (d.1 2), .int (d.1 3), .ref (ad 1), .int (d.1 4), .ref (ad 11), .ref (ad 12), .ref (ad 2), .ref (ad 3), .int (d.1 5), .int (d.1 6), .int (d.1 7), .int (d.1 8)])), (ad 2, .inr (8, [.int (d.1 10), .ref (ad 13), .ref (ad 14), .ref (ad 15), .ref (ad 16), .ref (ad 17), .ref (ad 18), .ref (ad 19)])), (ad 13, .inl (y 0, 16, .inl (d.2 9))), (ad 14, .inl (y 0, 16, .inl (d.2 10))), (ad 15, .inl (y 0, 16, .inl (d.2 11))), (ad 16, .inl (y 0, 16, .inl (d.2 12))), (ad 17, .inl (y 0, 16, .inl (d.2 13))), (ad 18, .inl (y 0, 16, .inl (d.2 14))), (ad 19, .inl (y 0, 16, .inl (d.2 15))), (h, .inr (7, [.int (nI dy), .int (nI wa), .int (nI la), .ref (sa 0), .ref (sa 1), .ref (sa 2), .ref (sa 3), .ref (sa 4), .ref (sa 5), .ref (sa 6)])), (sa 1, .inl (y 0, 9, .inl f1)), (sa 3, .inl (y 0, 6, .inl (upd oz jz (zI (((woT jz wo (lyT gt dy fl lo ly kz)) jz) + ((lyT gt dy fl lo ly kz) jz)))))), (sa 4, .inl (y 0, 6, .inl vz)), (sa 5, .inl (y 0, 16, .inl ez))]) (vp_in_nI (by omega) (by decide)) (by rw [nI_clamp (by omega)]; rfl) d_Days_giveWorth_133 ?_
        have xh64 : XZ 6 (upd oz jz (zI (((woT jz wo (lyT gt dy fl lo ly kz)) jz) + ((lyT gt dy fl lo ly kz) jz)))) (upZ (woT jz wo (lyT gt dy fl lo ly kz)) jz (((woT jz wo (lyT gt dy fl lo ly kz)) jz) + ((lyT gt dy fl lo ly kz) jz))) := xz_up h4_
        refine j_iinc (pc := 134) C (v := nI (jz + 1)) (lv' := [(4, .int (nI (jz + 1))), (3, .ref (ad 2)), (0, .ref (ad 0)), (1, .ref h), (2, .int (nI lo))]) d_Days_giveWorth_134 0 rfl (nI_add _ _) (by decide) rfl ?_
        refine j_goto (pc := 137) C (tgt := 108) d_Days_giveWorth_137 (by decide) ?_
        exact ih62 ((jz + 1), (upd oz jz (zI (((woT jz wo (lyT gt dy fl lo ly kz)) jz) + ((lyT gt dy fl lo ly kz) jz))))) ⟨(show (jz + 1) ≤ gt.s 4 by omega), (xz_e xh64 (fun j _ => wo_up j))⟩ (show gt.s 4 - (jz + 1) < gt.s 4 - jz by omega)
    · refine j_icmp_geF (pc := 38) C (tgt := 105) d_Days_giveWorth_38 (by decide) (show ¬ nI (gt.s 10) ≤ nI kz from nI_ge (by omega) (by omega)) ?_
      refine j_aload_n (pc := 41) C d_Days_giveWorth_41 rfl 1 rfl ?_
      refine j_iload (pc := 42) C d_Days_giveWorth_42 0 rfl ?_
      refine j_aload_n (pc := 44) C d_Days_giveWorth_44 rfl 3 rfl ?_
      refine j_get (pc := 45) C gf_Days_59 9 rfl rfl d_Days_giveWorth_45 ?_
      refine j_aload_n (pc := 48) C d_Days_giveWorth_48 rfl 3 rfl ?_
      refine j_get (pc := 49) C gf_Days_115 9 rfl rfl d_Days_giveWorth_49 ?_
      refine j_aload_n (pc := 52) C d_Days_giveWorth_52 rfl 1 rfl ?_
      refine j_get (pc := 53) C gf_Days_141 1 rfl rfl d_Days_giveWorth_53 ?_
      refine j_iload (pc := 56) C d_Days_giveWorth_56 0 rfl ?_
      have xh65 : gt.r 10 kz < gt.s 9 := lk_tg hlk kz (by omega)
      refine j_iald (pc := 58) C 3 rfl (v := nI ((gt.r 10) kz)) (vp_in_nI (by omega) (by decide)) (by rw [nI_clamp (by omega)]; exact (hk10 kz (by omega))) d_Days_giveWorth_58 ?_
      have xh66 : fl ((gt.r 10) kz) ≤ 9999 := b1f ((gt.r 10) kz) (by omega)
      refine j_iald (pc := 59) C 10 rfl (v := nI (fl ((gt.r 10) kz))) (vp_in_nI (by omega) (by decide)) (by rw [nI_clamp (by omega)]; exact (x1 ((gt.r 10) kz) (by omega))) d_Days_giveWorth_59 ?_
      refine j_callVi (pc := 60) C (c_xisServed l D y ad d gt kz dy (fl ((gt.r 10) kz)) hlk (by omega) (by omega) (by omega)) kw_Days_144 kv_Things_isServed 0 8 rfl rfl ⟨by decide, by decide⟩ ⟨by decide, by decide⟩ (wr := [(ad 0, .inr (2, [.int (d.1 0), .int (d.1 1), .int (d.1 2), .int (d.1 3), .ref (ad 1), .int (d.1 4), .ref (ad 11), .ref (ad 12), .ref (ad 2), .ref (ad 3), .int (d.1 5), .int (d.1 6), .int (d.1 7), .int (d.1 8)])), (ad 13, .inl (y 0, 16, .inl (d.2 9))), (ad 14, .inl (y 0, 16, .inl (d.2 10))), (ad 19, .inl (y 0, 16, .inl (d.2 15))), (h, .inr (7, [.int (nI dy), .int (nI wa), .int (nI la), .ref (sa 0), .ref (sa 1), .ref (sa 2), .ref (sa 3), .ref (sa 4), .ref (sa 5), .ref (sa 6)])), (sa 1, .inl (y 0, 9, .inl f1)), (sa 3, .inl (y 0, 6, .inl f3)), (sa 4, .inl (y 0, 6, .inl vz)), (sa 5, .inl (y 0, 16, .inl ez))]) [1, 4, 5, 6, 7] [0, 2, 3, 8, 9, 10, 11, 12, 13] rfl rfl (by decide +kernel) (by decide +kernel) (by decide +kernel) (As := [.int (nI kz), .int (nI dy), .int (nI (fl ((gt.r 10) kz)))]) (rest := []) rfl (nb rfl) rfl d_Days_giveWorth_60 (fun r67 _ hr67 => ?_)
      refine j_ws (ws' := [(ad 0, .inr (2, [.int (d.1 0), .int (d.1 1), .int (d.1 2), .int (d.1 3), .ref (ad 1), .int (d.1 4), .ref (ad 11), .ref (ad 12), .ref (ad 2), .ref (ad 3), .int (d.1 5), .int (d.1 6), .int (d.1 7), .int (d.1 8)])), (ad 13, .inl (y 0, 16, .inl (d.2 9))), (ad 14, .inl (y 0, 16, .inl (d.2 10))), (ad 19, .inl (y 0, 16, .inl (d.2 15))), (h, .inr (7, [.int (nI dy), .int (nI wa), .int (nI la), .ref (sa 0), .ref (sa 1), .ref (sa 2), .ref (sa 3), .ref (sa 4), .ref (sa 5), .ref (sa 6)])), (sa 1, .inl (y 0, 9, .inl f1)), (sa 3, .inl (y 0, 6, .inl f3)), (sa 4, .inl (y 0, 6, .inl vz)), (sa 5, .inl (y 0, 16, .inl ez)), (ad 2, .inr (8, [.int (d.1 10), .ref (ad 13), .ref (ad 14), .ref (ad 15), .ref (ad 16), .ref (ad 17), .ref (ad 18), .ref (ad 19)])), (ad 15, .inl (y 0, 16, .inl (d.2 11))), (ad 16, .inl (y 0, 16, .inl (d.2 12))), (ad 17, .inl (y 0, 16, .inl (d.2 13))), (ad 18, .inl (y 0, 16, .inl (d.2 14)))]) rfl ?_
      rcases hr67 with ⟨rfl, xh69⟩ | ⟨rfl, xh70⟩
      · refine j_if_eqF (pc := 63) C (tgt := 99) d_Days_giveWorth_63 (by decide) (by decide) ?_
        refine j_aload_n (pc := 66) C d_Days_giveWorth_66 rfl 3 rfl ?_
        refine j_get (pc := 67) C gf_Days_147 4 rfl rfl d_Days_giveWorth_67 ?_
        refine j_iload (pc := 70) C d_Days_giveWorth_70 0 rfl ?_
        refine j_dup2 (pc := 72) C d_Days_giveWorth_72 rfl rfl ?_
        refine j_iald (pc := 73) C 8 rfl (v := nI ((seT gt dy fl se kz) kz)) (vp_in_nI (by omega) (by decide)) (by rw [nI_clamp (by omega)]; exact (h3_ kz (by omega))) d_Days_giveWorth_73 ?_
        refine j_iconst (pc := 74) C (v := 1) d_Days_giveWorth_74 (by decide) ?_
        refine j_iadd (pc := 75) C (v := nI (((seT gt dy fl se kz) kz) + 1)) d_Days_giveWorth_75 (nI_add _ _) ?_
        refine j_iast (pc := 76) C 8 rfl (ws' := [(ad 0, .inr (2, [.int (d.1 0), .int (d.1 1), .int (d.1 2), .int (d.1 3), .ref (ad 1), .int (d.1 4), .ref (ad 11), .ref (ad 12), .ref (ad 2), .ref (ad 3), .int (d.1 5), .int (d.1 6), .int (d.1 7), .int (d.1 8)])), (ad 13, .inl (y 0, 16, .inl (d.2 9))), (ad 14, .inl (y 0, 16, .inl (d.2 10))), (ad 19, .inl (y 0, 16, .inl (d.2 15))), (h, .inr (7, [.int (nI dy), .int (nI wa), .int (nI la), .ref (sa 0), .ref (sa 1), .ref (sa 2), .ref (sa 3), .ref (sa 4), .ref (sa 5), .ref (sa 6)])), (sa 1, .inl (y 0, 9, .inl f1)), (sa 3, .inl (y 0, 6, .inl f3)), (sa 4, .inl (y 0, 6, .inl vz)), (sa 5, .inl (y 0, 16, .inl (upd ez kz (nI (((seT gt dy fl se kz) kz) + 1))))), (ad 2, .inr (8, [.int (d.1 10), .ref (ad 13), .ref (ad 14), .ref (ad 15), .ref (ad 16), .ref (ad 17), .ref (ad 18), .ref (ad 19)])), (ad 15, .inl (y 0, 16, .inl (d.2 11))), (ad 16, .inl (y 0, 16, .inl (d.2 12))), (ad 17, .inl (y 0, 16, .inl (d.2 13))), (ad 18, .inl (y 0, 16, .inl (d.2 14)))]) (vp_in_nI (by omega) (by decide)) (by rw [nI_clamp (by omega)]; rfl) d_Days_giveWorth_76 ?_
        have xh71 : XW 16 (upd ez kz (nI (((seT gt dy fl se kz) kz) + 1))) (upN (seT gt dy fl se kz) kz (((seT gt dy fl se kz) kz) + 1)) := xw_up h3_
        refine j_aload_n (pc := 77) C d_Days_giveWorth_77 rfl 3 rfl ?_
        refine j_get (pc := 78) C gf_Days_131 4 rfl rfl d_Days_giveWorth_78 ?_
        refine j_aload_n (pc := 81) C d_Days_giveWorth_81 rfl 1 rfl ?_
        refine j_get (pc := 82) C gf_Days_150 9 rfl rfl d_Days_giveWorth_82 ?_
        refine j_iload (pc := 85) C d_Days_giveWorth_85 0 rfl ?_
        have xh72 : gt.r 9 kz < gt.s 4 := lk_tv hlk kz (by omega)
        refine j_iald (pc := 87) C 1 rfl (v := nI ((gt.r 9) kz)) (vp_in_nI (by omega) (by decide)) (by rw [nI_clamp (by omega)]; exact (hk9 kz (by omega))) d_Days_giveWorth_87 ?_
        refine j_dup2 (pc := 88) C d_Days_giveWorth_88 rfl rfl ?_
        refine j_iald (pc := 89) C 7 rfl (v := zI ((lyT gt dy fl lo ly kz) ((gt.r 9) kz))) (vp_in_nI (by omega) (by decide)) (by rw [nI_clamp (by omega)]; exact (h2_ ((gt.r 9) kz) (by omega))) d_Days_giveWorth_89 ?_
        refine j_aload_n (pc := 90) C d_Days_giveWorth_90 rfl 1 rfl ?_
        refine j_get (pc := 91) C gf_Days_153 9 rfl rfl d_Days_giveWorth_91 ?_
        refine j_iload (pc := 94) C d_Days_giveWorth_94 0 rfl ?_
        refine j_iald (pc := 96) C 3 rfl (v := nI ((gt.r 15) kz)) (vp_in_nI (by omega) (by decide)) (by rw [nI_clamp (by omega)]; exact (hk15 kz (by omega))) d_Days_giveWorth_96 ?_
        refine j_iadd (pc := 97) C (v := zI (((lyT gt dy fl lo ly kz) ((gt.r 9) kz)) + ((((gt.r 15) kz) : Nat) : Int))) d_Days_giveWorth_97 (zI_add ((lyT gt dy fl lo ly kz) ((gt.r 9) kz)) ((((gt.r 15) kz) : Nat) : Int)) ?_
        refine j_iast (pc := 98) C 7 rfl (ws' := [(ad 0, .inr (2, [.int (d.1 0), .int (d.1 1), .int (d.1 2), .int (d.1 3), .ref (ad 1), .int (d.1 4), .ref (ad 11), .ref (ad 12), .ref (ad 2), .ref (ad 3), .int (d.1 5), .int (d.1 6), .int (d.1 7), .int (d.1 8)])), (ad 13, .inl (y 0, 16, .inl (d.2 9))), (ad 14, .inl (y 0, 16, .inl (d.2 10))), (ad 19, .inl (y 0, 16, .inl (d.2 15))), (h, .inr (7, [.int (nI dy), .int (nI wa), .int (nI la), .ref (sa 0), .ref (sa 1), .ref (sa 2), .ref (sa 3), .ref (sa 4), .ref (sa 5), .ref (sa 6)])), (sa 1, .inl (y 0, 9, .inl f1)), (sa 3, .inl (y 0, 6, .inl f3)), (sa 4, .inl (y 0, 6, .inl (upd vz ((gt.r 9) kz) (zI (((lyT gt dy fl lo ly kz) ((gt.r 9) kz)) + ((((gt.r 15) kz) : Nat) : Int)))))), (sa 5, .inl (y 0, 16, .inl (upd ez kz (nI (((seT gt dy fl se kz) kz) + 1))))), (ad 2, .inr (8, [.int (d.1 10), .ref (ad 13), .ref (ad 14), .ref (ad 15), .ref (ad 16), .ref (ad 17), .ref (ad 18), .ref (ad 19)])), (ad 15, .inl (y 0, 16, .inl (d.2 11))), (ad 16, .inl (y 0, 16, .inl (d.2 12))), (ad 17, .inl (y 0, 16, .inl (d.2 13))), (ad 18, .inl (y 0, 16, .inl (d.2 14)))]) (vp_in_nI (by omega) (by decide)) (by rw [nI_clamp (by omega)]; rfl) d_Days_giveWorth_98 ?_
        have xh73 : XZ 6 (upd vz ((gt.r 9) kz) (zI (((lyT gt dy fl lo ly kz) ((gt.r 9) kz)) + ((((gt.r 15) kz) : Nat) : Int)))) (upZ (lyT gt dy fl lo ly kz) ((gt.r 9) kz) (((lyT gt dy fl lo ly kz) ((gt.r 9) kz)) + ((((gt.r 15) kz) : Nat) : Int))) := xz_up h2_
        refine j_iinc (pc := 99) C (v := nI (kz + 1)) (lv' := [(4, .int (nI (kz + 1))), (3, .ref (ad 2)), (0, .ref (ad 0)), (1, .ref h), (2, .int (nI lo))]) d_Days_giveWorth_99 0 rfl (nI_add _ _) (by decide) rfl ?_
        refine j_goto (pc := 102) C (tgt := 32) d_Days_giveWorth_102 (by decide) ?_
        refine j_sub (ws' := [(ad 0, .inr (2, [.int (d.1 0), .int (d.1 1), .int (d.1 2), .int (d.1 3), .ref (ad 1), .int (d.1 4), .ref (ad 11), .ref (ad 12), .ref (ad 2), .ref (ad 3), .int (d.1 5), .int (d.1 6), .int (d.1 7), .int (d.1 8)])), (ad 2, .inr (8, [.int (d.1 10), .ref (ad 13), .ref (ad 14), .ref (ad 15), .ref (ad 16), .ref (ad 17), .ref (ad 18), .ref (ad 19)])), (ad 13, .inl (y 0, 16, .inl (d.2 9))), (ad 14, .inl (y 0, 16, .inl (d.2 10))), (ad 15, .inl (y 0, 16, .inl (d.2 11))), (ad 16, .inl (y 0, 16, .inl (d.2 12))), (ad 17, .inl (y 0, 16, .inl (d.2 13))), (ad 18, .inl (y 0, 16, .inl (d.2 14))), (ad 19, .inl (y 0, 16, .inl (d.2 15))), (h, .inr (7, [.int (nI dy), .int (nI wa), .int (nI la), .ref (sa 0), .ref (sa 1), .ref (sa 2), .ref (sa 3), .ref (sa 4), .ref (sa 5), .ref (sa 6)])), (sa 1, .inl (y 0, 9, .inl f1)), (sa 3, .inl (y 0, 6, .inl f3)), (sa 4, .inl (y 0, 6, .inl (upd vz ((gt.r 9) kz) (zI (((lyT gt dy fl lo ly kz) ((gt.r 9) kz)) + ((((gt.r 15) kz) : Nat) : Int)))))), (sa 5, .inl (y 0, 16, .inl (upd ez kz (nI (((seT gt dy fl se kz) kz) + 1)))))]) [0, 9, 1, 2, 10, 11, 12, 13, 3, 4, 5, 6, 7, 8] rfl (by decide +kernel) ?_
        exact ih57 ((kz + 1), (upd vz ((gt.r 9) kz) (zI (((lyT gt dy fl lo ly kz) ((gt.r 9) kz)) + ((((gt.r 15) kz) : Nat) : Int)))), (upd ez kz (nI (((seT gt dy fl se kz) kz) + 1)))) ⟨(show (kz + 1) ≤ gt.s 10 by omega), (xz_e xh73 (fun j _ => ly_y xh69 j)), (xw_e xh71 (fun j _ => se_y xh69 j))⟩ (show gt.s 10 - (kz + 1) < gt.s 10 - kz by omega)
      · refine j_if_eqT (pc := 63) C (tgt := 99) d_Days_giveWorth_63 (by decide) (by decide) ?_
        refine j_iinc (pc := 99) C (v := nI (kz + 1)) (lv' := [(4, .int (nI (kz + 1))), (3, .ref (ad 2)), (0, .ref (ad 0)), (1, .ref h), (2, .int (nI lo))]) d_Days_giveWorth_99 0 rfl (nI_add _ _) (by decide) rfl ?_
        refine j_goto (pc := 102) C (tgt := 32) d_Days_giveWorth_102 (by decide) ?_
        refine j_sub (ws' := [(ad 0, .inr (2, [.int (d.1 0), .int (d.1 1), .int (d.1 2), .int (d.1 3), .ref (ad 1), .int (d.1 4), .ref (ad 11), .ref (ad 12), .ref (ad 2), .ref (ad 3), .int (d.1 5), .int (d.1 6), .int (d.1 7), .int (d.1 8)])), (ad 2, .inr (8, [.int (d.1 10), .ref (ad 13), .ref (ad 14), .ref (ad 15), .ref (ad 16), .ref (ad 17), .ref (ad 18), .ref (ad 19)])), (ad 13, .inl (y 0, 16, .inl (d.2 9))), (ad 14, .inl (y 0, 16, .inl (d.2 10))), (ad 15, .inl (y 0, 16, .inl (d.2 11))), (ad 16, .inl (y 0, 16, .inl (d.2 12))), (ad 17, .inl (y 0, 16, .inl (d.2 13))), (ad 18, .inl (y 0, 16, .inl (d.2 14))), (ad 19, .inl (y 0, 16, .inl (d.2 15))), (h, .inr (7, [.int (nI dy), .int (nI wa), .int (nI la), .ref (sa 0), .ref (sa 1), .ref (sa 2), .ref (sa 3), .ref (sa 4), .ref (sa 5), .ref (sa 6)])), (sa 1, .inl (y 0, 9, .inl f1)), (sa 3, .inl (y 0, 6, .inl f3)), (sa 4, .inl (y 0, 6, .inl vz)), (sa 5, .inl (y 0, 16, .inl ez))]) [0, 9, 1, 2, 10, 11, 12, 13, 3, 4, 5, 6, 7, 8] rfl (by decide +kernel) ?_
        exact ih57 ((kz + 1), vz, ez) ⟨(show (kz + 1) ≤ gt.s 10 by omega), (xz_e h2_ (fun j _ => ly_n xh70 j)), (xw_e h3_ (fun j _ => se_n xh70 j))⟩ (show gt.s 10 - (kz + 1) < gt.s 10 - kz by omega)
  · refine j_icmp_geF (pc := 7) C (tgt := 24) d_Days_giveWorth_7 (by decide) (show ¬ nI (gt.s 4) ≤ nI iz from nI_ge (by omega) (by omega)) ?_
    refine j_aload_n (pc := 10) C d_Days_giveWorth_10 rfl 2 rfl ?_
    refine j_get (pc := 11) C gf_Days_131 9 rfl rfl d_Days_giveWorth_11 ?_
    refine j_iload_n (pc := 14) C d_Days_giveWorth_14 rfl 0 rfl ?_
    refine j_iload_n (pc := 15) C d_Days_giveWorth_15 rfl 3 rfl ?_
    refine j_ineg (pc := 16) C (v := zI (-((lo : Nat) : Int))) d_Days_giveWorth_16 (zI_neg ((lo : Nat) : Int)) ?_
    refine j_iast (pc := 17) C 12 rfl (ws' := [(ad 0, .inr (2, [.int (d.1 0), .int (d.1 1), .int (d.1 2), .int (d.1 3), .ref (ad 1), .int (d.1 4), .ref (ad 11), .ref (ad 12), .ref (ad 2), .ref (ad 3), .int (d.1 5), .int (d.1 6), .int (d.1 7), .int (d.1 8)])), (ad 2, .inr (8, [.int (d.1 10), .ref (ad 13), .ref (ad 14), .ref (ad 15), .ref (ad 16), .ref (ad 17), .ref (ad 18), .ref (ad 19)])), (ad 13, .inl (y 0, 16, .inl (d.2 9))), (ad 14, .inl (y 0, 16, .inl (d.2 10))), (ad 15, .inl (y 0, 16, .inl (d.2 11))), (ad 16, .inl (y 0, 16, .inl (d.2 12))), (ad 17, .inl (y 0, 16, .inl (d.2 13))), (ad 18, .inl (y 0, 16, .inl (d.2 14))), (ad 19, .inl (y 0, 16, .inl (d.2 15))), (h, .inr (7, [.int (nI dy), .int (nI wa), .int (nI la), .ref (sa 0), .ref (sa 1), .ref (sa 2), .ref (sa 3), .ref (sa 4), .ref (sa 5), .ref (sa 6)])), (sa 1, .inl (y 0, 9, .inl f1)), (sa 3, .inl (y 0, 6, .inl f3)), (sa 4, .inl (y 0, 6, .inl (upd yz iz (zI (-((lo : Nat) : Int)))))), (sa 5, .inl (y 0, 16, .inl f5))]) (vp_in_nI (by omega) (by decide)) (by rw [nI_clamp (by omega)]; rfl) d_Days_giveWorth_17 ?_
    have xh74 : XZ 6 (upd yz iz (zI (-((lo : Nat) : Int)))) (upZ (laT iz (-((lo : Nat) : Int)) ly) iz (-((lo : Nat) : Int))) := xz_up h1_
    refine j_iinc (pc := 18) C (v := nI (iz + 1)) (lv' := [(3, .int (nI (iz + 1))), (0, .ref (ad 0)), (1, .ref h), (2, .int (nI lo))]) d_Days_giveWorth_18 0 rfl (nI_add _ _) (by decide) rfl ?_
    refine j_goto (pc := 21) C (tgt := 2) d_Days_giveWorth_21 (by decide) ?_
    exact ih38 ((iz + 1), (upd yz iz (zI (-((lo : Nat) : Int))))) ⟨(show (iz + 1) ≤ gt.s 4 by omega), (xz_e xh74 (fun j _ => la_up j))⟩ (show gt.s 4 - (iz + 1) < gt.s 4 - iz by omega)
