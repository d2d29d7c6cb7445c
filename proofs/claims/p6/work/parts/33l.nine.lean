set_option maxHeartbeats 4000000 in
set_option maxRecDepth 100000 in
theorem c_H_has (l : Launch) (D : va_G) (y : Nat → ClassId) (x : Nat) (tp : Nat) (pi : Nat) (nh : Nat) (th : Nat) (ps : Nat) (ad : Nat → Nat) (ae : Nat → Nat) (rd : Nat) (pl : Nat) (dr : Int32) (d : LD) (dy : Nat) (wa : Nat) (la : Nat) (na : Nat → Nat) (cn : Nat) (ix : Nat) (kp : Nat) (v : Int32) (gt : LA_) (hlk : LKR gt d) (hwa : wa ≤ 9999) : CT l D y ⟨"NineBoards", "has", "(I)I"⟩ prog_1_method_6_code 2 (some .int) ({ frames := 2, cells := 0, slots := 0, locals := 43 } : Room) [.ref x, .int v] [(x, .inr (9, [.ref tp, .ref pi, .ref nh, .ref th, .ref ps, .ref (ad 0), .ref (ae 0), .ref rd, .ref pl, .int dr])), (ad 0, .inr (2, [.int (d.1 0), .int (d.1 1), .int (d.1 2), .int (d.1 3), .ref (ad 1), .int (d.1 4), .ref (ad 11), .ref (ad 12), .ref (ad 2), .ref (ad 3), .int (d.1 5), .int (d.1 6), .int (d.1 7), .int (d.1 8)])), (ad 1, .inr (1, [.int (d.1 9), .ref (ad 4), .ref (ad 5), .ref (ad 6), .ref (ad 7), .ref (ad 8), .ref (ad 9), .ref (ad 10)])), (ad 2, .inr (8, [.int (d.1 10), .ref (ad 13), .ref (ad 14), .ref (ad 15), .ref (ad 16), .ref (ad 17), .ref (ad 18), .ref (ad 19)])), (ad 3, .inr (6, [.int (d.1 11), .int (d.1 12), .ref (ad 20), .ref (ad 21), .ref (ad 22), .ref (ad 23), .ref (ad 24), .ref (ad 25)])), (nh, .inr (7, [.int (nI dy), .int (nI wa), .int (nI la), .ref (na 0), .ref (na 1), .ref (na 2), .ref (na 3), .ref (na 4), .ref (na 5), .ref (na 6)])), (ps, .inr (3, [.int (nI cn), .int (nI ix), .ref kp]))] (QI D [(x, .inr (9, [.ref tp, .ref pi, .ref nh, .ref th, .ref ps, .ref (ad 0), .ref (ae 0), .ref rd, .ref pl, .int dr])), (ad 0, .inr (2, [.int (d.1 0), .int (d.1 1), .int (d.1 2), .int (d.1 3), .ref (ad 1), .int (d.1 4), .ref (ad 11), .ref (ad 12), .ref (ad 2), .ref (ad 3), .int (d.1 5), .int (d.1 6), .int (d.1 7), .int (d.1 8)])), (ad 1, .inr (1, [.int (d.1 9), .ref (ad 4), .ref (ad 5), .ref (ad 6), .ref (ad 7), .ref (ad 8), .ref (ad 9), .ref (ad 10)])), (ad 2, .inr (8, [.int (d.1 10), .ref (ad 13), .ref (ad 14), .ref (ad 15), .ref (ad 16), .ref (ad 17), .ref (ad 18), .ref (ad 19)])), (ad 3, .inr (6, [.int (d.1 11), .int (d.1 12), .ref (ad 20), .ref (ad 21), .ref (ad 22), .ref (ad 23), .ref (ad 24), .ref (ad 25)])), (nh, .inr (7, [.int (nI dy), .int (nI wa), .int (nI la), .ref (na 0), .ref (na 1), .ref (na 2), .ref (na 3), .ref (na 4), .ref (na 5), .ref (na 6)])), (ps, .inr (3, [.int (nI cn), .int (nI ix), .ref kp]))] (fun (r : Int32) (u : Unit) => r = hasV gt dy wa la cn v) (fun _ => [(x, .inr (9, [.ref tp, .ref pi, .ref nh, .ref th, .ref ps, .ref (ad 0), .ref (ae 0), .ref rd, .ref pl, .int dr])), (ad 0, .inr (2, [.int (d.1 0), .int (d.1 1), .int (d.1 2), .int (d.1 3), .ref (ad 1), .int (d.1 4), .ref (ad 11), .ref (ad 12), .ref (ad 2), .ref (ad 3), .int (d.1 5), .int (d.1 6), .int (d.1 7), .int (d.1 8)])), (ad 1, .inr (1, [.int (d.1 9), .ref (ad 4), .ref (ad 5), .ref (ad 6), .ref (ad 7), .ref (ad 8), .ref (ad 9), .ref (ad 10)])), (ad 2, .inr (8, [.int (d.1 10), .ref (ad 13), .ref (ad 14), .ref (ad 15), .ref (ad 16), .ref (ad 17), .ref (ad 18), .ref (ad 19)])), (ad 3, .inr (6, [.int (d.1 11), .int (d.1 12), .ref (ad 20), .ref (ad 21), .ref (ad 22), .ref (ad 23), .ref (ad 24), .ref (ad 25)])), (nh, .inr (7, [.int (nI dy), .int (nI wa), .int (nI la), .ref (na 0), .ref (na 1), .ref (na 2), .ref (na 3), .ref (na 4), .ref (na 5), .ref (na 6)])), (ps, .inr (3, [.int (nI cn), .int (nI ix), .ref kp]))])) := by
  refine CT.of (by decide) (nb rfl) ?_
  intro p e s m args below meth c C hr
  refine j_lv (lv' := [(0, .ref x), (1, .int v)]) rfl ?_
  obtain ⟨b9, b4, b10, b11⟩ := lk_b hlk
  obtain ⟨b1, b1x, b2, b2x, b3, b5, b6, b7, b8⟩ := lk_n hlk
  refine j_iload_n (pc := 0) C d_Nine_has_0 rfl 1 rfl ?_
  by_cases c1_0 : v = 0
  · refine j_tabIn (pc := 1) C (off := 51) (tgt := 52) d_Nine_has_1 (by rw [c1_0]; decide) (by rw [c1_0]; decide) (by rw [c1_0]; decide) (by decide) ?_
    refine j_aload_n (pc := 52) C d_Nine_has_52 rfl 0 rfl ?_
    refine j_get (pc := 53) C gf_Nine_41 0 rfl rfl d_Nine_has_53 ?_
    refine j_get (pc := 56) C gf_Nine_89 1 rfl rfl d_Nine_has_56 ?_
    refine j_get (pc := 59) C gf_Nine_93 2 rfl rfl d_Nine_has_59 ?_
    refine j_st (st' := [.int (nI (gt.s 9))]) (by rw [lk_s hlk 9 (by decide)]) ?_
    exact j_iret (pc := 62) C hr rfl () (by rw [c1_0]; rfl) [0, 1, 2, 3, 4, 5, 6] rfl (by decide) (by decide) (by decide) d_Nine_has_62
  · by_cases c1_1 : v = 1
    · refine j_tabIn (pc := 1) C (off := 62) (tgt := 63) d_Nine_has_1 (by rw [c1_1]; decide) (by rw [c1_1]; decide) (by rw [c1_1]; decide) (by decide) ?_
      refine j_aload_n (pc := 63) C d_Nine_has_63 rfl 0 rfl ?_
      refine j_get (pc := 64) C gf_Nine_41 0 rfl rfl d_Nine_has_64 ?_
      refine j_get (pc := 67) C gf_Nine_107 1 rfl rfl d_Nine_has_67 ?_
      refine j_st (st' := [.int (nI (gt.s 4))]) (by rw [lk_s hlk 4 (by decide)]) ?_
      exact j_iret (pc := 70) C hr rfl () (by rw [c1_1]; rfl) [0, 1, 2, 3, 4, 5, 6] rfl (by decide) (by decide) (by decide) d_Nine_has_70
    · by_cases c1_2 : v = 2
      · refine j_tabIn (pc := 1) C (off := 70) (tgt := 71) d_Nine_has_1 (by rw [c1_2]; decide) (by rw [c1_2]; decide) (by rw [c1_2]; decide) (by decide) ?_
        refine j_aload_n (pc := 71) C d_Nine_has_71 rfl 0 rfl ?_
        refine j_get (pc := 72) C gf_Nine_41 0 rfl rfl d_Nine_has_72 ?_
        refine j_get (pc := 75) C gf_Nine_110 1 rfl rfl d_Nine_has_75 ?_
        refine j_get (pc := 78) C gf_Nine_114 3 rfl rfl d_Nine_has_78 ?_
        refine j_st (st' := [.int (nI (gt.s 10))]) (by rw [lk_s hlk 10 (by decide)]) ?_
        exact j_iret (pc := 81) C hr rfl () (by rw [c1_2]; rfl) [0, 1, 2, 3, 4, 5, 6] rfl (by decide) (by decide) (by decide) d_Nine_has_81
      · by_cases c1_3 : v = 3
        · refine j_tabIn (pc := 1) C (off := 81) (tgt := 82) d_Nine_has_1 (by rw [c1_3]; decide) (by rw [c1_3]; decide) (by rw [c1_3]; decide) (by decide) ?_
          refine j_aload_n (pc := 82) C d_Nine_has_82 rfl 0 rfl ?_
          refine j_get (pc := 83) C gf_Nine_41 0 rfl rfl d_Nine_has_83 ?_
          refine j_get (pc := 86) C gf_Nine_117 1 rfl rfl d_Nine_has_86 ?_
          refine j_get (pc := 89) C gf_Nine_121 4 rfl rfl d_Nine_has_89 ?_
          refine j_st (st' := [.int (nI (gt.s 11))]) (by rw [lk_s hlk 11 (by decide)]) ?_
          exact j_iret (pc := 92) C hr rfl () (by rw [c1_3]; rfl) [0, 1, 2, 3, 4, 5, 6] rfl (by decide) (by decide) (by decide) d_Nine_has_92
        · by_cases c1_4 : v = 4
          · refine j_tabIn (pc := 1) C (off := 92) (tgt := 93) d_Nine_has_1 (by rw [c1_4]; decide) (by rw [c1_4]; decide) (by rw [c1_4]; decide) (by decide) ?_
            refine j_aload_n (pc := 93) C d_Nine_has_93 rfl 0 rfl ?_
            refine j_get (pc := 94) C gf_Nine_24 0 rfl rfl d_Nine_has_94 ?_
            refine j_get (pc := 97) C gf_Nine_124 5 rfl rfl d_Nine_has_97 ?_
            exact j_iret (pc := 100) C hr rfl () (by rw [c1_4]; rfl) [0, 1, 2, 3, 4, 5, 6] rfl (by decide) (by decide) (by decide) d_Nine_has_100
          · by_cases c1_5 : v = 5
            · refine j_tabIn (pc := 1) C (off := 100) (tgt := 101) d_Nine_has_1 (by rw [c1_5]; decide) (by rw [c1_5]; decide) (by rw [c1_5]; decide) (by decide) ?_
              refine j_aload_n (pc := 101) C d_Nine_has_101 rfl 0 rfl ?_
              refine j_get (pc := 102) C gf_Nine_24 0 rfl rfl d_Nine_has_102 ?_
              refine j_get (pc := 105) C gf_Nine_127 5 rfl rfl d_Nine_has_105 ?_
              exact j_iret (pc := 108) C hr rfl () (by rw [c1_5]; rfl) [0, 1, 2, 3, 4, 5, 6] rfl (by decide) (by decide) (by decide) d_Nine_has_108
            · by_cases c1_6 : v = 6
              · refine j_tabIn (pc := 1) C (off := 108) (tgt := 109) d_Nine_has_1 (by rw [c1_6]; decide) (by rw [c1_6]; decide) (by rw [c1_6]; decide) (by decide) ?_
                refine j_aload_n (pc := 109) C d_Nine_has_109 rfl 0 rfl ?_
                refine j_get (pc := 110) C gf_Nine_41 0 rfl rfl d_Nine_has_110 ?_
                refine j_aload_n (pc := 113) C d_Nine_has_113 rfl 0 rfl ?_
                refine j_get (pc := 114) C gf_Nine_24 0 rfl rfl d_Nine_has_114 ?_
                refine j_get (pc := 117) C gf_Nine_127 5 rfl rfl d_Nine_has_117 ?_
                refine j_callVi (pc := 120) C (c_xlevelAt l D y ad d gt wa hlk (by omega)) kw_Nine_130 kv_Lake_levelAt 0 2 rfl rfl ⟨by decide, by decide⟩ ⟨by decide, by decide⟩ (wr := [(x, .inr (9, [.ref tp, .ref pi, .ref nh, .ref th, .ref ps, .ref (ad 0), .ref (ae 0), .ref rd, .ref pl, .int dr])), (ad 1, .inr (1, [.int (d.1 9), .ref (ad 4), .ref (ad 5), .ref (ad 6), .ref (ad 7), .ref (ad 8), .ref (ad 9), .ref (ad 10)])), (ad 2, .inr (8, [.int (d.1 10), .ref (ad 13), .ref (ad 14), .ref (ad 15), .ref (ad 16), .ref (ad 17), .ref (ad 18), .ref (ad 19)])), (ad 3, .inr (6, [.int (d.1 11), .int (d.1 12), .ref (ad 20), .ref (ad 21), .ref (ad 22), .ref (ad 23), .ref (ad 24), .ref (ad 25)])), (nh, .inr (7, [.int (nI dy), .int (nI wa), .int (nI la), .ref (na 0), .ref (na 1), .ref (na 2), .ref (na 3), .ref (na 4), .ref (na 5), .ref (na 6)])), (ps, .inr (3, [.int (nI cn), .int (nI ix), .ref kp]))]) [1] [0, 2, 3, 4, 5, 6] rfl rfl (by decide) (by decide) (by decide) (As := [.int (nI wa)]) (rest := []) rfl (nb rfl) rfl d_Nine_has_120 (fun r2 _ hr2 => ?_)
                obtain rfl := hr2
                refine j_ws (ws' := [(x, .inr (9, [.ref tp, .ref pi, .ref nh, .ref th, .ref ps, .ref (ad 0), .ref (ae 0), .ref rd, .ref pl, .int dr])), (ad 1, .inr (1, [.int (d.1 9), .ref (ad 4), .ref (ad 5), .ref (ad 6), .ref (ad 7), .ref (ad 8), .ref (ad 9), .ref (ad 10)])), (ad 2, .inr (8, [.int (d.1 10), .ref (ad 13), .ref (ad 14), .ref (ad 15), .ref (ad 16), .ref (ad 17), .ref (ad 18), .ref (ad 19)])), (ad 3, .inr (6, [.int (d.1 11), .int (d.1 12), .ref (ad 20), .ref (ad 21), .ref (ad 22), .ref (ad 23), .ref (ad 24), .ref (ad 25)])), (nh, .inr (7, [.int (nI dy), .int (nI wa), .int (nI la), .ref (na 0), .ref (na 1), .ref (na 2), .ref (na 3), .ref (na 4), .ref (na 5), .ref (na 6)])), (ps, .inr (3, [.int (nI cn), .int (nI ix), .ref kp])), (ad 0, .inr (2, [.int (d.1 0), .int (d.1 1), .int (d.1 2), .int (d.1 3), .ref (ad 1), .int (d.1 4), .ref (ad 11), .ref (ad 12), .ref (ad 2), .ref (ad 3), .int (d.1 5), .int (d.1 6), .int (d.1 7), .int (d.1 8)]))]) rfl ?_
                exact j_iret (pc := 123) C hr rfl () (by rw [c1_6]; rfl) [0, 6, 1, 2, 3, 4, 5] rfl (by decide) (by decide) (by decide) d_Nine_has_123
              · by_cases c1_7 : v = 7
                · refine j_tabIn (pc := 1) C (off := 123) (tgt := 124) d_Nine_has_1 (by rw [c1_7]; decide) (by rw [c1_7]; decide) (by rw [c1_7]; decide) (by decide) ?_
                  refine j_aload_n (pc := 124) C d_Nine_has_124 rfl 0 rfl ?_
                  refine j_get (pc := 125) C gf_Nine_24 0 rfl rfl d_Nine_has_125 ?_
                  refine j_get (pc := 128) C gf_Nine_134 5 rfl rfl d_Nine_has_128 ?_
                  exact j_iret (pc := 131) C hr rfl () (by rw [c1_7]; rfl) [0, 1, 2, 3, 4, 5, 6] rfl (by decide) (by decide) (by decide) d_Nine_has_131
                · by_cases c1_8 : v = 8
                  · refine j_tabIn (pc := 1) C (off := 131) (tgt := 132) d_Nine_has_1 (by rw [c1_8]; decide) (by rw [c1_8]; decide) (by rw [c1_8]; decide) (by decide) ?_
                    refine j_aload_n (pc := 132) C d_Nine_has_132 rfl 0 rfl ?_
                    refine j_get (pc := 133) C gf_Nine_34 0 rfl rfl d_Nine_has_133 ?_
                    refine j_get (pc := 136) C gf_Nine_137 6 rfl rfl d_Nine_has_136 ?_
                    exact j_iret (pc := 139) C hr rfl () (by rw [c1_8]; rfl) [0, 1, 2, 3, 4, 5, 6] rfl (by decide) (by decide) (by decide) d_Nine_has_139
                  · refine j_tabOut (pc := 1) C (tgt := 140) d_Nine_has_1 (by exact to_0_8 c1_0 c1_1 c1_2 c1_3 c1_4 c1_5 c1_6 c1_7 c1_8) (by decide) ?_
                    refine j_iconst (pc := 140) C (v := (-1)) d_Nine_has_140 (by decide) ?_
                    exact j_iret (pc := 141) C hr rfl () (by unfold hasV; rw [if_neg c1_0, if_neg c1_1, if_neg c1_2, if_neg c1_3, if_neg c1_4, if_neg c1_5, if_neg c1_6, if_neg c1_7, if_neg c1_8]) [0, 1, 2, 3, 4, 5, 6] rfl (by decide) (by decide) (by decide) d_Nine_has_141
