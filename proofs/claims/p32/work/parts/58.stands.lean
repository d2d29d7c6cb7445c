/-- a lake that stands: what its rows must be -/
def LSl (M L G O T F SF SE TE : Nat → Int32) (c0 c1 c2 c3 : Nat) : Prop := (M 4 = nI c0 ∧ M 5 = nI c1 ∧ M 6 = nI c2 ∧ M 7 = nI c3) ∧ (c0 ≤ 9 ∧ c1 ≤ 6 ∧ c2 ≤ 16 ∧ c3 ≤ 8) ∧ ¬ L 7 = 0 ∧ GAl G ∧ OAl O ∧ TAl T ∧ (∀ k, 8 ≤ k → k < 8 + c3 → ∃ a b c, SF k = nI a ∧ SE k = nI b ∧ TE k = nI c ∧ a ≤ b ∧ b ≤ c ∧ c ≤ 1600 ∧ (∃ q, dp F (1600 + a) (b - a) = some q) ∧ (∃ q, dp F (1600 + b) (c - b) = some q))
theorem dp_sh {f g : Nat → Int32} {s : Nat} : ∀ {n}, (∀ i, s ≤ i → i < s + n → f (1600 + i) = g i) → dp f (1600 + s) n = dp g s n := by
  intro n
  induction n with
  | zero => intro _; rfl
  | succ n ih =>
    intro h
    unfold dp
    rw [ih (fun i h1 h2 => h i h1 (by omega)), show 1600 + s + n = 1600 + (s + n) by omega, h (s + n) (by omega) (by omega)]
theorem ga_cp {f g : Nat → Int32} (h : GAl g) (hc : CPy f g 54 54) : GAl f := by
  intro j hj
  rcases Nat.lt_or_ge j 9 with q | q
  · rw [hc.1 (6 * j + 5) (by omega), hc.1 (6 * j) (by omega), hc.1 (6 * j + 1) (by omega)]
    exact h j hj
  · rw [show 6 * j + 5 = 54 + (6 * (j - 9) + 5) by omega, show 6 * j = 54 + 6 * (j - 9) by omega, show 54 + 6 * (j - 9) + 1 = 54 + (6 * (j - 9) + 1) by omega, hc.2 (6 * (j - 9) + 5) (by omega), hc.2 (6 * (j - 9)) (by omega), hc.2 (6 * (j - 9) + 1) (by omega)]
    exact h (j - 9) (by omega)
theorem oa_cp {f g : Nat → Int32} (h : OAl g) (hc : CPy f g 6 6) : OAl f := by
  intro j hj
  rcases Nat.lt_or_ge j 6 with q | q
  · rw [hc.1 j q]
    exact h j hj
  · rw [show j = 6 + (j - 6) by omega, hc.2 (j - 6) (by omega)]
    exact h (j - 6) (by omega)
theorem ta_cp {f g : Nat → Int32} (h : TAl g) (hc : CPy f g 112 112) : TAl f := by
  intro j hj
  rcases Nat.lt_or_ge j 16 with q | q
  · rw [hc.1 (7 * j) (by omega), hc.1 (7 * j + 1) (by omega)]
    exact h j hj
  · rw [show 7 * j = 112 + 7 * (j - 16) by omega, show 112 + 7 * (j - 16) + 1 = 112 + (7 * (j - 16) + 1) by omega, hc.2 (7 * (j - 16)) (by omega), hc.2 (7 * (j - 16) + 1) (by omega)]
    exact h (j - 16) (by omega)
theorem ls_cp {M L G O T F SF SE TE M' L' G' O' T' F' SF' SE' TE' : Nat → Int32} {c0 c1 c2 c3 d0 d1 d2 d3 cd : Nat} (hM : MQl M c0 c1 c2 c3 d0 d1 d2 d3) (hl : ¬ L 0 = 0) (hG : GAl G) (hO : OAl O) (hT : TAl T) (hR : RWl d3 cd F SF SE TE) (hcd : cd ≤ 1600) (k1 : CPy M' M 4 4) (k2 : CPy L' L 7 7) (k3 : CPy G' G 54 54) (k4 : CPy O' O 6 6) (k5 : CPy T' T 112 112) (k6 : CPy SF' SF 8 8) (k7 : CPy SE' SE 8 8) (k8 : CPy TE' TE 8 8) (k9 : CPy F' F 1600 cd) : LSl M' L' G' O' T' F' SF' SE' TE' d0 d1 d2 d3 := by
  obtain ⟨⟨h0, h1, h2, h3⟩, _, b0, b1, b2, b3⟩ := hM
  refine ⟨⟨(k1.2 0 (by omega)).trans h0, (k1.2 1 (by omega)).trans h1, (k1.2 2 (by omega)).trans h2, (k1.2 3 (by omega)).trans h3⟩, ⟨b0, b1, b2, b3⟩, fun e => hl ((k2.2 0 (by omega)).symm.trans e), ga_cp hG k3, oa_cp hO k4, ta_cp hT k5, fun k hk1 hk2 => ?_⟩
  obtain ⟨a, b, c, r1, r2, r3, r4, r5, r6, ⟨q1, r7⟩, ⟨q2, r8⟩⟩ := hR (k - 8) (by omega)
  have e : k = 8 + (k - 8) := by omega
  refine ⟨a, b, c, ?_, ?_, ?_, r4, r5, by omega, ⟨q1, ?_⟩, ⟨q2, ?_⟩⟩
  · rw [e, k6.2 (k - 8) (by omega)]
    exact r1
  · rw [e, k7.2 (k - 8) (by omega)]
    exact r2
  · rw [e, k8.2 (k - 8) (by omega)]
    exact r3
  · rw [dp_sh (g := F) (fun i _ hi => k9.2 i (by omega))]
    exact r7
  · rw [dp_sh (g := F) (fun i _ hi => k9.2 i (by omega))]
    exact r8
theorem ls_keep {M L G O T F SF SE TE M' L' G' O' T' F' SF' SE' TE' : Nat → Int32} {c0 c1 c2 c3 d0 d1 d2 d3 : Nat} (h : LSl M L G O T F SF SE TE c0 c1 c2 c3) (hM : MQl M' c0 c1 c2 c3 d0 d1 d2 d3) (hl : L' 7 = L 7) (hG : GAl G') (hO : OAl O') (hT : TAl T') (hF : ∀ i, 1600 ≤ i → F' i = F i) (h8 : ∀ k, 8 ≤ k → SF' k = SF k ∧ SE' k = SE k ∧ TE' k = TE k) : LSl M' L' G' O' T' F' SF' SE' TE' c0 c1 c2 c3 := by
  obtain ⟨_, hb, h7, _, _, _, hC⟩ := h
  refine ⟨hM.2.1, hb, fun e => h7 (hl.symm.trans e), hG, hO, hT, fun k hk1 hk2 => ?_⟩
  obtain ⟨a, b, c, r1, r2, r3, r4, r5, r6, ⟨q1, r7⟩, ⟨q2, r8⟩⟩ := hC k hk1 hk2
  obtain ⟨s1, s2, s3⟩ := h8 k hk1
  refine ⟨a, b, c, s1.trans r1, s2.trans r2, s3.trans r3, r4, r5, r6, ⟨q1, ?_⟩, ⟨q2, ?_⟩⟩
  · rw [dp_eq (g := F) (fun i h1 _ => hF i (by omega))]
    exact r7
  · rw [dp_eq (g := F) (fun i h1 _ => hF i (by omega))]
    exact r8
/-- names, and what is a word of air, copied likewise -/
def CPL (f g : Nat → Int64) (n i : Nat) : Prop := (∀ j, j < n → f j = g j) ∧ (∀ j, j < i → f (n + j) = g j)
theorem cpl_0 {g : Nat → Int64} {n : Nat} : CPL g g n 0 := ⟨fun _ _ => rfl, fun j hj => absurd hj (by omega)⟩
theorem cpl_up {f g : Nat → Int64} {n i : Nat} (h : CPL f g n i) (hi : i < n) : CPL (vp_updL f (n + i) (f i)) g n (i + 1) := by
  refine ⟨fun j hj => ?_, fun j hj => ?_⟩
  · exact (if_neg (show ¬ j = n + i by omega)).trans (h.1 j hj)
  · by_cases e : j = i
    · subst e
      exact (if_pos rfl).trans (h.1 j hi)
    · exact (if_neg (show ¬ n + j = n + i by omega)).trans (h.2 j (by omega))
def CPB (f g : Nat → Int32) (n i : Nat) : Prop := (∀ j, j < n → f j = g j) ∧ (∀ j, j < i → f (n + j) = vp_nar .boolean (g j))
theorem cpb_0 {g : Nat → Int32} {n : Nat} : CPB g g n 0 := ⟨fun _ _ => rfl, fun j hj => absurd hj (by omega)⟩
theorem cpb_up {f g : Nat → Int32} {n i : Nat} (h : CPB f g n i) (hi : i < n) : CPB (upd f (n + i) (vp_nar .boolean (f i))) g n (i + 1) := by
  refine ⟨fun j hj => ?_, fun j hj => ?_⟩
  · rw [pk_un (by omega)]
    exact h.1 j hj
  · by_cases e : j = i
    · subst e
      rw [pk_us, h.1 j hi]
    · rw [pk_un (by omega)]
      exact h.2 j (by omega)
theorem d_Model_stands_0 : decode prog_13_method_30_code 0 = .ok (.iconst 0, 1) := by decide +kernel
theorem d_Model_stands_1 : decode prog_13_method_30_code 1 = .ok (.istore_n 1, 1) := by decide +kernel
theorem d_Model_stands_2 : decode prog_13_method_30_code 2 = .ok (.iload_n 1, 1) := by decide +kernel
theorem d_Model_stands_3 : decode prog_13_method_30_code 3 = .ok (.iconst 4, 1) := by decide +kernel
theorem d_Model_stands_4 : decode prog_13_method_30_code 4 = .ok (.if_icmp .ge 23, 3) := by decide +kernel
theorem d_Model_stands_27 : decode prog_13_method_30_code 27 = .ok (.iconst 0, 1) := by decide +kernel
theorem d_Model_stands_28 : decode prog_13_method_30_code 28 = .ok (.istore_n 1, 1) := by decide +kernel
theorem d_Model_stands_29 : decode prog_13_method_30_code 29 = .ok (.iload_n 1, 1) := by decide +kernel
theorem d_Model_stands_30 : decode prog_13_method_30_code 30 = .ok (.bipush 18, 2) := by decide +kernel
theorem d_Model_stands_32 : decode prog_13_method_30_code 32 = .ok (.if_icmp .ge 24, 3) := by decide +kernel
theorem d_Model_stands_56 : decode prog_13_method_30_code 56 = .ok (.iconst 0, 1) := by decide +kernel
theorem d_Model_stands_57 : decode prog_13_method_30_code 57 = .ok (.istore_n 1, 1) := by decide +kernel
theorem d_Model_stands_58 : decode prog_13_method_30_code 58 = .ok (.iload_n 1, 1) := by decide +kernel
theorem d_Model_stands_59 : decode prog_13_method_30_code 59 = .ok (.bipush 7, 2) := by decide +kernel
theorem d_Model_stands_61 : decode prog_13_method_30_code 61 = .ok (.if_icmp .ge 24, 3) := by decide +kernel
theorem d_Model_stands_85 : decode prog_13_method_30_code 85 = .ok (.iconst 0, 1) := by decide +kernel
theorem d_Model_stands_86 : decode prog_13_method_30_code 86 = .ok (.istore_n 1, 1) := by decide +kernel
theorem d_Model_stands_87 : decode prog_13_method_30_code 87 = .ok (.iload_n 1, 1) := by decide +kernel
theorem d_Model_stands_88 : decode prog_13_method_30_code 88 = .ok (.bipush 54, 2) := by decide +kernel
theorem d_Model_stands_90 : decode prog_13_method_30_code 90 = .ok (.if_icmp .ge 24, 3) := by decide +kernel
theorem d_Model_stands_114 : decode prog_13_method_30_code 114 = .ok (.iconst 0, 1) := by decide +kernel
theorem d_Model_stands_115 : decode prog_13_method_30_code 115 = .ok (.istore_n 1, 1) := by decide +kernel
theorem d_Model_stands_116 : decode prog_13_method_30_code 116 = .ok (.iload_n 1, 1) := by decide +kernel
theorem d_Model_stands_117 : decode prog_13_method_30_code 117 = .ok (.bipush 6, 2) := by decide +kernel
theorem d_Model_stands_119 : decode prog_13_method_30_code 119 = .ok (.if_icmp .ge 24, 3) := by decide +kernel
theorem d_Model_stands_143 : decode prog_13_method_30_code 143 = .ok (.iconst 0, 1) := by decide +kernel
theorem d_Model_stands_144 : decode prog_13_method_30_code 144 = .ok (.istore_n 1, 1) := by decide +kernel
theorem d_Model_stands_145 : decode prog_13_method_30_code 145 = .ok (.iload_n 1, 1) := by decide +kernel
theorem d_Model_stands_146 : decode prog_13_method_30_code 146 = .ok (.bipush 112, 2) := by decide +kernel
theorem d_Model_stands_148 : decode prog_13_method_30_code 148 = .ok (.if_icmp .ge 24, 3) := by decide +kernel
theorem d_Model_stands_172 : decode prog_13_method_30_code 172 = .ok (.iconst 0, 1) := by decide +kernel
theorem d_Model_stands_173 : decode prog_13_method_30_code 173 = .ok (.istore_n 1, 1) := by decide +kernel
theorem d_Model_stands_174 : decode prog_13_method_30_code 174 = .ok (.iload_n 1, 1) := by decide +kernel
theorem d_Model_stands_175 : decode prog_13_method_30_code 175 = .ok (.bipush 8, 2) := by decide +kernel
theorem d_Model_stands_177 : decode prog_13_method_30_code 177 = .ok (.if_icmp .ge 69, 3) := by decide +kernel
theorem d_Model_stands_246 : decode prog_13_method_30_code 246 = .ok (.iconst 0, 1) := by decide +kernel
theorem d_Model_stands_247 : decode prog_13_method_30_code 247 = .ok (.istore_n 1, 1) := by decide +kernel
theorem d_Model_stands_248 : decode prog_13_method_30_code 248 = .ok (.iload_n 1, 1) := by decide +kernel
theorem d_Model_stands_249 : decode prog_13_method_30_code 249 = .ok (.aload_n 0, 1) := by decide +kernel
theorem d_Model_stands_250 : decode prog_13_method_30_code 250 = .ok (.getfield 289, 3) := by decide +kernel
theorem d_Model_stands_253 : decode prog_13_method_30_code 253 = .ok (.if_icmp .ge 25, 3) := by decide +kernel
theorem d_Model_stands_278 : decode prog_13_method_30_code 278 = .ok (.aload_n 0, 1) := by decide +kernel
theorem d_Model_stands_279 : decode prog_13_method_30_code 279 = .ok (.invokevirtual 338, 3) := by decide +kernel
theorem d_Model_stands_282 : decode prog_13_method_30_code 282 = .ok (.aload_n 0, 1) := by decide +kernel
theorem d_Model_stands_283 : decode prog_13_method_30_code 283 = .ok (.getfield 158, 3) := by decide +kernel
theorem d_Model_stands_286 : decode prog_13_method_30_code 286 = .ok (.iconst 1, 1) := by decide +kernel
theorem d_Model_stands_287 : decode prog_13_method_30_code 287 = .ok (.aload_n 0, 1) := by decide +kernel
theorem d_Model_stands_288 : decode prog_13_method_30_code 288 = .ok (.getfield 124, 3) := by decide +kernel
theorem d_Model_stands_291 : decode prog_13_method_30_code 291 = .ok (.bipush 9, 2) := by decide +kernel
theorem d_Model_stands_293 : decode prog_13_method_30_code 293 = .ok (.iaload, 1) := by decide +kernel
theorem d_Model_stands_294 : decode prog_13_method_30_code 294 = .ok (.iastore, 1) := by decide +kernel
theorem d_Model_stands_295 : decode prog_13_method_30_code 295 = .ok (.aload_n 0, 1) := by decide +kernel
theorem d_Model_stands_296 : decode prog_13_method_30_code 296 = .ok (.getfield 158, 3) := by decide +kernel
theorem d_Model_stands_299 : decode prog_13_method_30_code 299 = .ok (.bipush 30, 2) := by decide +kernel
theorem d_Model_stands_301 : decode prog_13_method_30_code 301 = .ok (.aload_n 0, 1) := by decide +kernel
theorem d_Model_stands_302 : decode prog_13_method_30_code 302 = .ok (.getfield 124, 3) := by decide +kernel
theorem d_Model_stands_305 : decode prog_13_method_30_code 305 = .ok (.bipush 9, 2) := by decide +kernel
theorem d_Model_stands_307 : decode prog_13_method_30_code 307 = .ok (.iaload, 1) := by decide +kernel
theorem d_Model_stands_308 : decode prog_13_method_30_code 308 = .ok (.iastore, 1) := by decide +kernel
theorem d_Model_stands_309 : decode prog_13_method_30_code 309 = .ok (.iconst 0, 1) := by decide +kernel
theorem d_Model_stands_310 : decode prog_13_method_30_code 310 = .ok (.istore_n 1, 1) := by decide +kernel
theorem d_Model_stands_311 : decode prog_13_method_30_code 311 = .ok (.iload_n 1, 1) := by decide +kernel
theorem d_Model_stands_312 : decode prog_13_method_30_code 312 = .ok (.aload_n 0, 1) := by decide +kernel
theorem d_Model_stands_313 : decode prog_13_method_30_code 313 = .ok (.invokevirtual 341, 3) := by decide +kernel
theorem d_Model_stands_316 : decode prog_13_method_30_code 316 = .ok (.if_icmp .ge 31, 3) := by decide +kernel
theorem d_Model_stands_347 : decode prog_13_method_30_code 347 = .ok (.return_, 1) := by decide +kernel
theorem d_Model_stands_319 : decode prog_13_method_30_code 319 = .ok (.aload_n 0, 1) := by decide +kernel
theorem d_Model_stands_320 : decode prog_13_method_30_code 320 = .ok (.getfield 158, 3) := by decide +kernel
theorem d_Model_stands_323 : decode prog_13_method_30_code 323 = .ok (.iconst 3, 1) := by decide +kernel
theorem d_Model_stands_324 : decode prog_13_method_30_code 324 = .ok (.iload_n 1, 1) := by decide +kernel
theorem d_Model_stands_325 : decode prog_13_method_30_code 325 = .ok (.iadd, 1) := by decide +kernel
theorem d_Model_stands_326 : decode prog_13_method_30_code 326 = .ok (.aload_n 0, 1) := by decide +kernel
theorem d_Model_stands_327 : decode prog_13_method_30_code 327 = .ok (.getfield 127, 3) := by decide +kernel
theorem d_Model_stands_330 : decode prog_13_method_30_code 330 = .ok (.bipush 54, 2) := by decide +kernel
theorem d_Model_stands_332 : decode prog_13_method_30_code 332 = .ok (.bipush 6, 2) := by decide +kernel
theorem d_Model_stands_334 : decode prog_13_method_30_code 334 = .ok (.iload_n 1, 1) := by decide +kernel
theorem d_Model_stands_335 : decode prog_13_method_30_code 335 = .ok (.imul, 1) := by decide +kernel
theorem d_Model_stands_336 : decode prog_13_method_30_code 336 = .ok (.iadd, 1) := by decide +kernel
theorem d_Model_stands_337 : decode prog_13_method_30_code 337 = .ok (.iconst 3, 1) := by decide +kernel
theorem d_Model_stands_338 : decode prog_13_method_30_code 338 = .ok (.iadd, 1) := by decide +kernel
theorem d_Model_stands_339 : decode prog_13_method_30_code 339 = .ok (.iaload, 1) := by decide +kernel
theorem d_Model_stands_340 : decode prog_13_method_30_code 340 = .ok (.iastore, 1) := by decide +kernel
theorem d_Model_stands_341 : decode prog_13_method_30_code 341 = .ok (.iinc 1 1, 3) := by decide +kernel
theorem d_Model_stands_344 : decode prog_13_method_30_code 344 = .ok (.goto (-33), 3) := by decide +kernel
theorem d_Model_stands_256 : decode prog_13_method_30_code 256 = .ok (.aload_n 0, 1) := by decide +kernel
theorem d_Model_stands_257 : decode prog_13_method_30_code 257 = .ok (.getfield 136, 3) := by decide +kernel
theorem d_Model_stands_260 : decode prog_13_method_30_code 260 = .ok (.sipush 1600, 3) := by decide +kernel
theorem d_Model_stands_263 : decode prog_13_method_30_code 263 = .ok (.iload_n 1, 1) := by decide +kernel
theorem d_Model_stands_264 : decode prog_13_method_30_code 264 = .ok (.iadd, 1) := by decide +kernel
theorem d_Model_stands_265 : decode prog_13_method_30_code 265 = .ok (.aload_n 0, 1) := by decide +kernel
theorem d_Model_stands_266 : decode prog_13_method_30_code 266 = .ok (.getfield 136, 3) := by decide +kernel
theorem d_Model_stands_269 : decode prog_13_method_30_code 269 = .ok (.iload_n 1, 1) := by decide +kernel
theorem d_Model_stands_270 : decode prog_13_method_30_code 270 = .ok (.iaload, 1) := by decide +kernel
theorem d_Model_stands_271 : decode prog_13_method_30_code 271 = .ok (.iastore, 1) := by decide +kernel
theorem d_Model_stands_272 : decode prog_13_method_30_code 272 = .ok (.iinc 1 1, 3) := by decide +kernel
theorem d_Model_stands_275 : decode prog_13_method_30_code 275 = .ok (.goto (-27), 3) := by decide +kernel
theorem d_Model_stands_180 : decode prog_13_method_30_code 180 = .ok (.aload_n 0, 1) := by decide +kernel
theorem d_Model_stands_181 : decode prog_13_method_30_code 181 = .ok (.getfield 142, 3) := by decide +kernel
theorem d_Model_stands_184 : decode prog_13_method_30_code 184 = .ok (.bipush 8, 2) := by decide +kernel
theorem d_Model_stands_186 : decode prog_13_method_30_code 186 = .ok (.iload_n 1, 1) := by decide +kernel
theorem d_Model_stands_187 : decode prog_13_method_30_code 187 = .ok (.iadd, 1) := by decide +kernel
theorem d_Model_stands_188 : decode prog_13_method_30_code 188 = .ok (.aload_n 0, 1) := by decide +kernel
theorem d_Model_stands_189 : decode prog_13_method_30_code 189 = .ok (.getfield 142, 3) := by decide +kernel
theorem d_Model_stands_192 : decode prog_13_method_30_code 192 = .ok (.iload_n 1, 1) := by decide +kernel
theorem d_Model_stands_193 : decode prog_13_method_30_code 193 = .ok (.baload, 1) := by decide +kernel
theorem d_Model_stands_194 : decode prog_13_method_30_code 194 = .ok (.bastore, 1) := by decide +kernel
theorem d_Model_stands_195 : decode prog_13_method_30_code 195 = .ok (.aload_n 0, 1) := by decide +kernel
theorem d_Model_stands_196 : decode prog_13_method_30_code 196 = .ok (.getfield 146, 3) := by decide +kernel
theorem d_Model_stands_199 : decode prog_13_method_30_code 199 = .ok (.bipush 8, 2) := by decide +kernel
theorem d_Model_stands_201 : decode prog_13_method_30_code 201 = .ok (.iload_n 1, 1) := by decide +kernel
theorem d_Model_stands_202 : decode prog_13_method_30_code 202 = .ok (.iadd, 1) := by decide +kernel
theorem d_Model_stands_203 : decode prog_13_method_30_code 203 = .ok (.aload_n 0, 1) := by decide +kernel
theorem d_Model_stands_204 : decode prog_13_method_30_code 204 = .ok (.getfield 146, 3) := by decide +kernel
theorem d_Model_stands_207 : decode prog_13_method_30_code 207 = .ok (.iload_n 1, 1) := by decide +kernel
theorem d_Model_stands_208 : decode prog_13_method_30_code 208 = .ok (.iaload, 1) := by decide +kernel
theorem d_Model_stands_209 : decode prog_13_method_30_code 209 = .ok (.iastore, 1) := by decide +kernel
theorem d_Model_stands_210 : decode prog_13_method_30_code 210 = .ok (.aload_n 0, 1) := by decide +kernel
theorem d_Model_stands_211 : decode prog_13_method_30_code 211 = .ok (.getfield 149, 3) := by decide +kernel
theorem d_Model_stands_214 : decode prog_13_method_30_code 214 = .ok (.bipush 8, 2) := by decide +kernel
theorem d_Model_stands_216 : decode prog_13_method_30_code 216 = .ok (.iload_n 1, 1) := by decide +kernel
theorem d_Model_stands_217 : decode prog_13_method_30_code 217 = .ok (.iadd, 1) := by decide +kernel
theorem d_Model_stands_218 : decode prog_13_method_30_code 218 = .ok (.aload_n 0, 1) := by decide +kernel
theorem d_Model_stands_219 : decode prog_13_method_30_code 219 = .ok (.getfield 149, 3) := by decide +kernel
theorem d_Model_stands_222 : decode prog_13_method_30_code 222 = .ok (.iload_n 1, 1) := by decide +kernel
theorem d_Model_stands_223 : decode prog_13_method_30_code 223 = .ok (.iaload, 1) := by decide +kernel
theorem d_Model_stands_224 : decode prog_13_method_30_code 224 = .ok (.iastore, 1) := by decide +kernel
theorem d_Model_stands_225 : decode prog_13_method_30_code 225 = .ok (.aload_n 0, 1) := by decide +kernel
theorem d_Model_stands_226 : decode prog_13_method_30_code 226 = .ok (.getfield 152, 3) := by decide +kernel
theorem d_Model_stands_229 : decode prog_13_method_30_code 229 = .ok (.bipush 8, 2) := by decide +kernel
theorem d_Model_stands_231 : decode prog_13_method_30_code 231 = .ok (.iload_n 1, 1) := by decide +kernel
theorem d_Model_stands_232 : decode prog_13_method_30_code 232 = .ok (.iadd, 1) := by decide +kernel
theorem d_Model_stands_233 : decode prog_13_method_30_code 233 = .ok (.aload_n 0, 1) := by decide +kernel
theorem d_Model_stands_234 : decode prog_13_method_30_code 234 = .ok (.getfield 152, 3) := by decide +kernel
theorem d_Model_stands_237 : decode prog_13_method_30_code 237 = .ok (.iload_n 1, 1) := by decide +kernel
theorem d_Model_stands_238 : decode prog_13_method_30_code 238 = .ok (.iaload, 1) := by decide +kernel
theorem d_Model_stands_239 : decode prog_13_method_30_code 239 = .ok (.iastore, 1) := by decide +kernel
theorem d_Model_stands_240 : decode prog_13_method_30_code 240 = .ok (.iinc 1 1, 3) := by decide +kernel
theorem d_Model_stands_243 : decode prog_13_method_30_code 243 = .ok (.goto (-69), 3) := by decide +kernel
theorem d_Model_stands_151 : decode prog_13_method_30_code 151 = .ok (.aload_n 0, 1) := by decide +kernel
theorem d_Model_stands_152 : decode prog_13_method_30_code 152 = .ok (.getfield 133, 3) := by decide +kernel
theorem d_Model_stands_155 : decode prog_13_method_30_code 155 = .ok (.bipush 112, 2) := by decide +kernel
theorem d_Model_stands_157 : decode prog_13_method_30_code 157 = .ok (.iload_n 1, 1) := by decide +kernel
theorem d_Model_stands_158 : decode prog_13_method_30_code 158 = .ok (.iadd, 1) := by decide +kernel
theorem d_Model_stands_159 : decode prog_13_method_30_code 159 = .ok (.aload_n 0, 1) := by decide +kernel
theorem d_Model_stands_160 : decode prog_13_method_30_code 160 = .ok (.getfield 133, 3) := by decide +kernel
theorem d_Model_stands_163 : decode prog_13_method_30_code 163 = .ok (.iload_n 1, 1) := by decide +kernel
theorem d_Model_stands_164 : decode prog_13_method_30_code 164 = .ok (.iaload, 1) := by decide +kernel
theorem d_Model_stands_165 : decode prog_13_method_30_code 165 = .ok (.iastore, 1) := by decide +kernel
theorem d_Model_stands_166 : decode prog_13_method_30_code 166 = .ok (.iinc 1 1, 3) := by decide +kernel
theorem d_Model_stands_169 : decode prog_13_method_30_code 169 = .ok (.goto (-24), 3) := by decide +kernel
theorem d_Model_stands_122 : decode prog_13_method_30_code 122 = .ok (.aload_n 0, 1) := by decide +kernel
theorem d_Model_stands_123 : decode prog_13_method_30_code 123 = .ok (.getfield 130, 3) := by decide +kernel
theorem d_Model_stands_126 : decode prog_13_method_30_code 126 = .ok (.bipush 6, 2) := by decide +kernel
theorem d_Model_stands_128 : decode prog_13_method_30_code 128 = .ok (.iload_n 1, 1) := by decide +kernel
theorem d_Model_stands_129 : decode prog_13_method_30_code 129 = .ok (.iadd, 1) := by decide +kernel
theorem d_Model_stands_130 : decode prog_13_method_30_code 130 = .ok (.aload_n 0, 1) := by decide +kernel
theorem d_Model_stands_131 : decode prog_13_method_30_code 131 = .ok (.getfield 130, 3) := by decide +kernel
theorem d_Model_stands_134 : decode prog_13_method_30_code 134 = .ok (.iload_n 1, 1) := by decide +kernel
theorem d_Model_stands_135 : decode prog_13_method_30_code 135 = .ok (.iaload, 1) := by decide +kernel
theorem d_Model_stands_136 : decode prog_13_method_30_code 136 = .ok (.iastore, 1) := by decide +kernel
theorem d_Model_stands_137 : decode prog_13_method_30_code 137 = .ok (.iinc 1 1, 3) := by decide +kernel
theorem d_Model_stands_140 : decode prog_13_method_30_code 140 = .ok (.goto (-24), 3) := by decide +kernel
theorem d_Model_stands_93 : decode prog_13_method_30_code 93 = .ok (.aload_n 0, 1) := by decide +kernel
theorem d_Model_stands_94 : decode prog_13_method_30_code 94 = .ok (.getfield 127, 3) := by decide +kernel
theorem d_Model_stands_97 : decode prog_13_method_30_code 97 = .ok (.bipush 54, 2) := by decide +kernel
theorem d_Model_stands_99 : decode prog_13_method_30_code 99 = .ok (.iload_n 1, 1) := by decide +kernel
theorem d_Model_stands_100 : decode prog_13_method_30_code 100 = .ok (.iadd, 1) := by decide +kernel
theorem d_Model_stands_101 : decode prog_13_method_30_code 101 = .ok (.aload_n 0, 1) := by decide +kernel
theorem d_Model_stands_102 : decode prog_13_method_30_code 102 = .ok (.getfield 127, 3) := by decide +kernel
theorem d_Model_stands_105 : decode prog_13_method_30_code 105 = .ok (.iload_n 1, 1) := by decide +kernel
theorem d_Model_stands_106 : decode prog_13_method_30_code 106 = .ok (.iaload, 1) := by decide +kernel
theorem d_Model_stands_107 : decode prog_13_method_30_code 107 = .ok (.iastore, 1) := by decide +kernel
theorem d_Model_stands_108 : decode prog_13_method_30_code 108 = .ok (.iinc 1 1, 3) := by decide +kernel
theorem d_Model_stands_111 : decode prog_13_method_30_code 111 = .ok (.goto (-24), 3) := by decide +kernel
theorem d_Model_stands_64 : decode prog_13_method_30_code 64 = .ok (.aload_n 0, 1) := by decide +kernel
theorem d_Model_stands_65 : decode prog_13_method_30_code 65 = .ok (.getfield 124, 3) := by decide +kernel
theorem d_Model_stands_68 : decode prog_13_method_30_code 68 = .ok (.bipush 7, 2) := by decide +kernel
theorem d_Model_stands_70 : decode prog_13_method_30_code 70 = .ok (.iload_n 1, 1) := by decide +kernel
theorem d_Model_stands_71 : decode prog_13_method_30_code 71 = .ok (.iadd, 1) := by decide +kernel
theorem d_Model_stands_72 : decode prog_13_method_30_code 72 = .ok (.aload_n 0, 1) := by decide +kernel
theorem d_Model_stands_73 : decode prog_13_method_30_code 73 = .ok (.getfield 124, 3) := by decide +kernel
theorem d_Model_stands_76 : decode prog_13_method_30_code 76 = .ok (.iload_n 1, 1) := by decide +kernel
theorem d_Model_stands_77 : decode prog_13_method_30_code 77 = .ok (.iaload, 1) := by decide +kernel
theorem d_Model_stands_78 : decode prog_13_method_30_code 78 = .ok (.iastore, 1) := by decide +kernel
theorem d_Model_stands_79 : decode prog_13_method_30_code 79 = .ok (.iinc 1 1, 3) := by decide +kernel
theorem d_Model_stands_82 : decode prog_13_method_30_code 82 = .ok (.goto (-24), 3) := by decide +kernel
theorem d_Model_stands_35 : decode prog_13_method_30_code 35 = .ok (.aload_n 0, 1) := by decide +kernel
theorem d_Model_stands_36 : decode prog_13_method_30_code 36 = .ok (.getfield 120, 3) := by decide +kernel
theorem d_Model_stands_39 : decode prog_13_method_30_code 39 = .ok (.bipush 18, 2) := by decide +kernel
theorem d_Model_stands_41 : decode prog_13_method_30_code 41 = .ok (.iload_n 1, 1) := by decide +kernel
theorem d_Model_stands_42 : decode prog_13_method_30_code 42 = .ok (.iadd, 1) := by decide +kernel
theorem d_Model_stands_43 : decode prog_13_method_30_code 43 = .ok (.aload_n 0, 1) := by decide +kernel
theorem d_Model_stands_44 : decode prog_13_method_30_code 44 = .ok (.getfield 120, 3) := by decide +kernel
theorem d_Model_stands_47 : decode prog_13_method_30_code 47 = .ok (.iload_n 1, 1) := by decide +kernel
theorem d_Model_stands_48 : decode prog_13_method_30_code 48 = .ok (.laload, 1) := by decide +kernel
theorem d_Model_stands_49 : decode prog_13_method_30_code 49 = .ok (.lastore, 1) := by decide +kernel
theorem d_Model_stands_50 : decode prog_13_method_30_code 50 = .ok (.iinc 1 1, 3) := by decide +kernel
theorem d_Model_stands_53 : decode prog_13_method_30_code 53 = .ok (.goto (-24), 3) := by decide +kernel
theorem d_Model_stands_7 : decode prog_13_method_30_code 7 = .ok (.aload_n 0, 1) := by decide +kernel
theorem d_Model_stands_8 : decode prog_13_method_30_code 8 = .ok (.getfield 117, 3) := by decide +kernel
theorem d_Model_stands_11 : decode prog_13_method_30_code 11 = .ok (.iconst 4, 1) := by decide +kernel
theorem d_Model_stands_12 : decode prog_13_method_30_code 12 = .ok (.iload_n 1, 1) := by decide +kernel
theorem d_Model_stands_13 : decode prog_13_method_30_code 13 = .ok (.iadd, 1) := by decide +kernel
theorem d_Model_stands_14 : decode prog_13_method_30_code 14 = .ok (.aload_n 0, 1) := by decide +kernel
theorem d_Model_stands_15 : decode prog_13_method_30_code 15 = .ok (.getfield 117, 3) := by decide +kernel
theorem d_Model_stands_18 : decode prog_13_method_30_code 18 = .ok (.iload_n 1, 1) := by decide +kernel
theorem d_Model_stands_19 : decode prog_13_method_30_code 19 = .ok (.iaload, 1) := by decide +kernel
theorem d_Model_stands_20 : decode prog_13_method_30_code 20 = .ok (.iastore, 1) := by decide +kernel
theorem d_Model_stands_21 : decode prog_13_method_30_code 21 = .ok (.iinc 1 1, 3) := by decide +kernel
theorem d_Model_stands_24 : decode prog_13_method_30_code 24 = .ok (.goto (-22), 3) := by decide +kernel
set_option maxHeartbeats 4000000 in
set_option maxRecDepth 100000 in
theorem c_M_stands (l : Launch) (D : va_G) (y : Nat → ClassId) (mo : Nat) (ma : Nat → Nat) (t1 : Nat) (i2 : Int32) (i3 : Int32) (i4 : Int32) (i5 : Int32) (i6 : Int32) (i7 : Int32) (i8 : Int32) (i42 : Int32) (i49 : Int32) (cd : Nat) (i53 : Int32) (i54 : Int32) (i59 : Int32) (i61 : Int32) (i64 : Int32) (i66 : Int32) (t67 : Nat) (i76 : Int64) (i78 : Int32) (g43 : Nat → Int32) (g44 : Nat → Int64) (g45 : Nat → Int32) (g46 : Nat → Int32) (g47 : Nat → Int32) (g48 : Nat → Int32) (g50 : Nat → Int32) (g55 : Nat → Int32) (g56 : Nat → Int32) (g57 : Nat → Int32) (g58 : Nat → Int32) (g62 : Nat → Int32) (d0 : Nat) (hd0 : g43 0 = nI d0) (bd0 : d0 ≤ 9) (hcd : cd ≤ 1600) : CT l D y ⟨"NineBoardsModel", "stands", "()V"⟩ prog_13_method_30_code 2 none ({ frames := 1, cells := 0, slots := 0, locals := 21 } : Room) [.ref mo] [MB mo ma (nI t1) i2 i3 i4 i5 i6 i7 i8 i42 i49 (nI cd) i53 i54 i59 i61 i64 i66 (nI t67) i76 i78, (ma 43, .inl (y 0, 8, .inl g43)), (ma 44, .inl (y 1, 36, .inr (.inl g44))), (ma 45, .inl (y 0, 14, .inl g45)), (ma 46, .inl (y 0, 108, .inl g46)), (ma 47, .inl (y 0, 12, .inl g47)), (ma 48, .inl (y 0, 224, .inl g48)), (ma 50, .inl (y 0, 3200, .inl g50)), (ma 55, .inl (y 2, 16, .inl g55)), (ma 56, .inl (y 0, 16, .inl g56)), (ma 57, .inl (y 0, 16, .inl g57)), (ma 58, .inl (y 0, 16, .inl g58)), (ma 62, .inl (y 0, 63, .inl g62))] (QV D [MB mo ma (nI t1) i2 i3 i4 i5 i6 i7 i8 i42 i49 (nI cd) i53 i54 i59 i61 i64 i66 (nI t67) i76 i78, (ma 43, .inl (y 0, 8, .inl g43)), (ma 44, .inl (y 1, 36, .inr (.inl g44))), (ma 45, .inl (y 0, 14, .inl g45)), (ma 46, .inl (y 0, 108, .inl g46)), (ma 47, .inl (y 0, 12, .inl g47)), (ma 48, .inl (y 0, 224, .inl g48)), (ma 50, .inl (y 0, 3200, .inl g50)), (ma 55, .inl (y 2, 16, .inl g55)), (ma 56, .inl (y 0, 16, .inl g56)), (ma 57, .inl (y 0, 16, .inl g57)), (ma 58, .inl (y 0, 16, .inl g58)), (ma 62, .inl (y 0, 63, .inl g62))] (fun (u : Int32 × (Nat → Int32) × (Nat → Int64) × (Nat → Int32) × (Nat → Int32) × (Nat → Int32) × (Nat → Int32) × (Nat → Int32) × (Nat → Int32) × (Nat → Int32) × (Nat → Int32) × (Nat → Int32) × (Nat → Int32)) => CPy u.2.1 g43 4 4 ∧ CPy u.2.2.2.1 g45 7 7 ∧ CPy u.2.2.2.2.1 g46 54 54 ∧ CPy u.2.2.2.2.2.1 g47 6 6 ∧ CPy u.2.2.2.2.2.2.1 g48 112 112 ∧ CPy u.2.2.2.2.2.2.2.1 g50 1600 cd ∧ CPy u.2.2.2.2.2.2.2.2.2.1 g56 8 8 ∧ CPy u.2.2.2.2.2.2.2.2.2.2.1 g57 8 8 ∧ CPy u.2.2.2.2.2.2.2.2.2.2.2.1 g58 8 8 ∧ CPL u.2.2.1 g44 18 18 ∧ CPB u.2.2.2.2.2.2.2.2.1 g55 8 8 ∧ u.2.2.2.2.2.2.2.2.2.2.2.2 0 = nI 0) (fun u => [MB mo ma (nI t1) i2 i3 i4 i5 i6 i7 i8 i42 i49 (nI cd) i53 i54 i59 i61 i64 u.1 (nI t67) i76 i78, (ma 43, .inl (y 0, 8, .inl u.2.1)), (ma 44, .inl (y 1, 36, .inr (.inl u.2.2.1))), (ma 45, .inl (y 0, 14, .inl u.2.2.2.1)), (ma 46, .inl (y 0, 108, .inl u.2.2.2.2.1)), (ma 47, .inl (y 0, 12, .inl u.2.2.2.2.2.1)), (ma 48, .inl (y 0, 224, .inl u.2.2.2.2.2.2.1)), (ma 50, .inl (y 0, 3200, .inl u.2.2.2.2.2.2.2.1)), (ma 55, .inl (y 2, 16, .inl u.2.2.2.2.2.2.2.2.1)), (ma 56, .inl (y 0, 16, .inl u.2.2.2.2.2.2.2.2.2.1)), (ma 57, .inl (y 0, 16, .inl u.2.2.2.2.2.2.2.2.2.2.1)), (ma 58, .inl (y 0, 16, .inl u.2.2.2.2.2.2.2.2.2.2.2.1)), (ma 62, .inl (y 0, 63, .inl u.2.2.2.2.2.2.2.2.2.2.2.2))])) := by
  refine CT.of (by decide) (nb rfl) ?_
  intro p e s m args below meth c C hr
  refine j_lv (lv' := [(0, .ref mo)]) rfl ?_
  refine j_iconst (pc := 0) C (v := 0) d_Model_stands_0 (by decide) ?_
  refine j_istore_n (pc := 1) C (lv' := [(1, .int 0), (0, .ref mo)]) d_Model_stands_1 rfl (by decide) rfl ?_
  refine j_loop (α := Nat × (Nat → Int32)) (fun a => 4 - a.1) (fun a => (a.1 ≤ 4) ∧ (CPy a.2 g43 4 a.1)) (fun a => [MB mo ma (nI t1) i2 i3 i4 i5 i6 i7 i8 i42 i49 (nI cd) i53 i54 i59 i61 i64 i66 (nI t67) i76 i78, (ma 43, .inl (y 0, 8, .inl a.2)), (ma 44, .inl (y 1, 36, .inr (.inl g44))), (ma 45, .inl (y 0, 14, .inl g45)), (ma 46, .inl (y 0, 108, .inl g46)), (ma 47, .inl (y 0, 12, .inl g47)), (ma 48, .inl (y 0, 224, .inl g48)), (ma 50, .inl (y 0, 3200, .inl g50)), (ma 55, .inl (y 2, 16, .inl g55)), (ma 56, .inl (y 0, 16, .inl g56)), (ma 57, .inl (y 0, 16, .inl g57)), (ma 58, .inl (y 0, 16, .inl g58)), (ma 62, .inl (y 0, 63, .inl g62))]) (fun a => [(1, .int (nI a.1)), (0, .ref mo)]) (0, g43) rfl rfl ⟨(show 0 ≤ 4 by omega), cpy_0⟩ ?_
  rintro ⟨iz, z43⟩ hP2686 ih2687
  obtain ⟨hi__, k43__⟩ := hP2686
  have hi_ : iz ≤ 4 := hi__
  have k43_ : CPy z43 g43 4 iz := k43__
  refine j_ws (ws' := [MB mo ma (nI t1) i2 i3 i4 i5 i6 i7 i8 i42 i49 (nI cd) i53 i54 i59 i61 i64 i66 (nI t67) i76 i78, (ma 43, .inl (y 0, 8, .inl z43)), (ma 44, .inl (y 1, 36, .inr (.inl g44))), (ma 45, .inl (y 0, 14, .inl g45)), (ma 46, .inl (y 0, 108, .inl g46)), (ma 47, .inl (y 0, 12, .inl g47)), (ma 48, .inl (y 0, 224, .inl g48)), (ma 50, .inl (y 0, 3200, .inl g50)), (ma 55, .inl (y 2, 16, .inl g55)), (ma 56, .inl (y 0, 16, .inl g56)), (ma 57, .inl (y 0, 16, .inl g57)), (ma 58, .inl (y 0, 16, .inl g58)), (ma 62, .inl (y 0, 63, .inl g62))]) rfl ?_
  refine j_lv (lv' := [(1, .int (nI iz)), (0, .ref mo)]) rfl ?_
  refine j_iload_n (pc := 2) C d_Model_stands_2 rfl 0 rfl ?_
  refine j_iconst (pc := 3) C (v := 4) d_Model_stands_3 (by decide) ?_
  by_cases c2688 : 4 ≤ iz
  · refine j_icmp_geT (pc := 4) C (tgt := 27) d_Model_stands_4 (by decide) (show nI 4 ≤ nI iz from nI_le (by omega) (by omega)) ?_
    have K43 : CPy z43 g43 4 4 := by have hq := k43_; rw [show iz = 4 by omega] at hq; exact hq
    refine j_iconst (pc := 27) C (v := 0) d_Model_stands_27 (by decide) ?_
    refine j_istore_n (pc := 28) C (lv' := [(1, .int 0), (0, .ref mo)]) d_Model_stands_28 rfl (by decide) rfl ?_
    refine j_loop (α := Nat × (Nat → Int64)) (fun a => 18 - a.1) (fun a => (a.1 ≤ 18) ∧ (CPL a.2 g44 18 a.1)) (fun a => [MB mo ma (nI t1) i2 i3 i4 i5 i6 i7 i8 i42 i49 (nI cd) i53 i54 i59 i61 i64 i66 (nI t67) i76 i78, (ma 43, .inl (y 0, 8, .inl z43)), (ma 44, .inl (y 1, 36, .inr (.inl a.2))), (ma 45, .inl (y 0, 14, .inl g45)), (ma 46, .inl (y 0, 108, .inl g46)), (ma 47, .inl (y 0, 12, .inl g47)), (ma 48, .inl (y 0, 224, .inl g48)), (ma 50, .inl (y 0, 3200, .inl g50)), (ma 55, .inl (y 2, 16, .inl g55)), (ma 56, .inl (y 0, 16, .inl g56)), (ma 57, .inl (y 0, 16, .inl g57)), (ma 58, .inl (y 0, 16, .inl g58)), (ma 62, .inl (y 0, 63, .inl g62))]) (fun a => [(1, .int (nI a.1)), (0, .ref mo)]) (0, g44) rfl rfl ⟨(show 0 ≤ 18 by omega), cpl_0⟩ ?_
    rintro ⟨iz, z44⟩ hP4030 ih4031
    obtain ⟨hi__, k44__⟩ := hP4030
    have hi_ : iz ≤ 18 := hi__
    have k44_ : CPL z44 g44 18 iz := k44__
    refine j_ws (ws' := [MB mo ma (nI t1) i2 i3 i4 i5 i6 i7 i8 i42 i49 (nI cd) i53 i54 i59 i61 i64 i66 (nI t67) i76 i78, (ma 43, .inl (y 0, 8, .inl z43)), (ma 44, .inl (y 1, 36, .inr (.inl z44))), (ma 45, .inl (y 0, 14, .inl g45)), (ma 46, .inl (y 0, 108, .inl g46)), (ma 47, .inl (y 0, 12, .inl g47)), (ma 48, .inl (y 0, 224, .inl g48)), (ma 50, .inl (y 0, 3200, .inl g50)), (ma 55, .inl (y 2, 16, .inl g55)), (ma 56, .inl (y 0, 16, .inl g56)), (ma 57, .inl (y 0, 16, .inl g57)), (ma 58, .inl (y 0, 16, .inl g58)), (ma 62, .inl (y 0, 63, .inl g62))]) rfl ?_
    refine j_lv (lv' := [(1, .int (nI iz)), (0, .ref mo)]) rfl ?_
    refine j_iload_n (pc := 29) C d_Model_stands_29 rfl 0 rfl ?_
    refine j_bipush (pc := 30) C (v := 18) d_Model_stands_30 (by decide) ?_
    by_cases c4032 : 18 ≤ iz
    · refine j_icmp_geT (pc := 32) C (tgt := 56) d_Model_stands_32 (by decide) (show nI 18 ≤ nI iz from nI_le (by omega) (by omega)) ?_
      have K44 : CPL z44 g44 18 18 := by have hq := k44_; rw [show iz = 18 by omega] at hq; exact hq
      refine j_iconst (pc := 56) C (v := 0) d_Model_stands_56 (by decide) ?_
      refine j_istore_n (pc := 57) C (lv' := [(1, .int 0), (0, .ref mo)]) d_Model_stands_57 rfl (by decide) rfl ?_
      refine j_loop (α := Nat × (Nat → Int32)) (fun a => 7 - a.1) (fun a => (a.1 ≤ 7) ∧ (CPy a.2 g45 7 a.1)) (fun a => [MB mo ma (nI t1) i2 i3 i4 i5 i6 i7 i8 i42 i49 (nI cd) i53 i54 i59 i61 i64 i66 (nI t67) i76 i78, (ma 43, .inl (y 0, 8, .inl z43)), (ma 44, .inl (y 1, 36, .inr (.inl z44))), (ma 45, .inl (y 0, 14, .inl a.2)), (ma 46, .inl (y 0, 108, .inl g46)), (ma 47, .inl (y 0, 12, .inl g47)), (ma 48, .inl (y 0, 224, .inl g48)), (ma 50, .inl (y 0, 3200, .inl g50)), (ma 55, .inl (y 2, 16, .inl g55)), (ma 56, .inl (y 0, 16, .inl g56)), (ma 57, .inl (y 0, 16, .inl g57)), (ma 58, .inl (y 0, 16, .inl g58)), (ma 62, .inl (y 0, 63, .inl g62))]) (fun a => [(1, .int (nI a.1)), (0, .ref mo)]) (0, g45) rfl rfl ⟨(show 0 ≤ 7 by omega), cpy_0⟩ ?_
      rintro ⟨iz, z45⟩ hP4702 ih4703
      obtain ⟨hi__, k45__⟩ := hP4702
      have hi_ : iz ≤ 7 := hi__
      have k45_ : CPy z45 g45 7 iz := k45__
      refine j_ws (ws' := [MB mo ma (nI t1) i2 i3 i4 i5 i6 i7 i8 i42 i49 (nI cd) i53 i54 i59 i61 i64 i66 (nI t67) i76 i78, (ma 43, .inl (y 0, 8, .inl z43)), (ma 44, .inl (y 1, 36, .inr (.inl z44))), (ma 45, .inl (y 0, 14, .inl z45)), (ma 46, .inl (y 0, 108, .inl g46)), (ma 47, .inl (y 0, 12, .inl g47)), (ma 48, .inl (y 0, 224, .inl g48)), (ma 50, .inl (y 0, 3200, .inl g50)), (ma 55, .inl (y 2, 16, .inl g55)), (ma 56, .inl (y 0, 16, .inl g56)), (ma 57, .inl (y 0, 16, .inl g57)), (ma 58, .inl (y 0, 16, .inl g58)), (ma 62, .inl (y 0, 63, .inl g62))]) rfl ?_
      refine j_lv (lv' := [(1, .int (nI iz)), (0, .ref mo)]) rfl ?_
      refine j_iload_n (pc := 58) C d_Model_stands_58 rfl 0 rfl ?_
      refine j_bipush (pc := 59) C (v := 7) d_Model_stands_59 (by decide) ?_
      by_cases c4704 : 7 ≤ iz
      · refine j_icmp_geT (pc := 61) C (tgt := 85) d_Model_stands_61 (by decide) (show nI 7 ≤ nI iz from nI_le (by omega) (by omega)) ?_
        have K45 : CPy z45 g45 7 7 := by have hq := k45_; rw [show iz = 7 by omega] at hq; exact hq
        refine j_iconst (pc := 85) C (v := 0) d_Model_stands_85 (by decide) ?_
        refine j_istore_n (pc := 86) C (lv' := [(1, .int 0), (0, .ref mo)]) d_Model_stands_86 rfl (by decide) rfl ?_
        refine j_loop (α := Nat × (Nat → Int32)) (fun a => 54 - a.1) (fun a => (a.1 ≤ 54) ∧ (CPy a.2 g46 54 a.1)) (fun a => [MB mo ma (nI t1) i2 i3 i4 i5 i6 i7 i8 i42 i49 (nI cd) i53 i54 i59 i61 i64 i66 (nI t67) i76 i78, (ma 43, .inl (y 0, 8, .inl z43)), (ma 44, .inl (y 1, 36, .inr (.inl z44))), (ma 45, .inl (y 0, 14, .inl z45)), (ma 46, .inl (y 0, 108, .inl a.2)), (ma 47, .inl (y 0, 12, .inl g47)), (ma 48, .inl (y 0, 224, .inl g48)), (ma 50, .inl (y 0, 3200, .inl g50)), (ma 55, .inl (y 2, 16, .inl g55)), (ma 56, .inl (y 0, 16, .inl g56)), (ma 57, .inl (y 0, 16, .inl g57)), (ma 58, .inl (y 0, 16, .inl g58)), (ma 62, .inl (y 0, 63, .inl g62))]) (fun a => [(1, .int (nI a.1)), (0, .ref mo)]) (0, g46) rfl rfl ⟨(show 0 ≤ 54 by omega), cpy_0⟩ ?_
        rintro ⟨iz, z46⟩ hP5038 ih5039
        obtain ⟨hi__, k46__⟩ := hP5038
        have hi_ : iz ≤ 54 := hi__
        have k46_ : CPy z46 g46 54 iz := k46__
        refine j_ws (ws' := [MB mo ma (nI t1) i2 i3 i4 i5 i6 i7 i8 i42 i49 (nI cd) i53 i54 i59 i61 i64 i66 (nI t67) i76 i78, (ma 43, .inl (y 0, 8, .inl z43)), (ma 44, .inl (y 1, 36, .inr (.inl z44))), (ma 45, .inl (y 0, 14, .inl z45)), (ma 46, .inl (y 0, 108, .inl z46)), (ma 47, .inl (y 0, 12, .inl g47)), (ma 48, .inl (y 0, 224, .inl g48)), (ma 50, .inl (y 0, 3200, .inl g50)), (ma 55, .inl (y 2, 16, .inl g55)), (ma 56, .inl (y 0, 16, .inl g56)), (ma 57, .inl (y 0, 16, .inl g57)), (ma 58, .inl (y 0, 16, .inl g58)), (ma 62, .inl (y 0, 63, .inl g62))]) rfl ?_
        refine j_lv (lv' := [(1, .int (nI iz)), (0, .ref mo)]) rfl ?_
        refine j_iload_n (pc := 87) C d_Model_stands_87 rfl 0 rfl ?_
        refine j_bipush (pc := 88) C (v := 54) d_Model_stands_88 (by decide) ?_
        by_cases c5040 : 54 ≤ iz
        · refine j_icmp_geT (pc := 90) C (tgt := 114) d_Model_stands_90 (by decide) (show nI 54 ≤ nI iz from nI_le (by omega) (by omega)) ?_
          have K46 : CPy z46 g46 54 54 := by have hq := k46_; rw [show iz = 54 by omega] at hq; exact hq
          refine j_iconst (pc := 114) C (v := 0) d_Model_stands_114 (by decide) ?_
          refine j_istore_n (pc := 115) C (lv' := [(1, .int 0), (0, .ref mo)]) d_Model_stands_115 rfl (by decide) rfl ?_
          refine j_loop (α := Nat × (Nat → Int32)) (fun a => 6 - a.1) (fun a => (a.1 ≤ 6) ∧ (CPy a.2 g47 6 a.1)) (fun a => [MB mo ma (nI t1) i2 i3 i4 i5 i6 i7 i8 i42 i49 (nI cd) i53 i54 i59 i61 i64 i66 (nI t67) i76 i78, (ma 43, .inl (y 0, 8, .inl z43)), (ma 44, .inl (y 1, 36, .inr (.inl z44))), (ma 45, .inl (y 0, 14, .inl z45)), (ma 46, .inl (y 0, 108, .inl z46)), (ma 47, .inl (y 0, 12, .inl a.2)), (ma 48, .inl (y 0, 224, .inl g48)), (ma 50, .inl (y 0, 3200, .inl g50)), (ma 55, .inl (y 2, 16, .inl g55)), (ma 56, .inl (y 0, 16, .inl g56)), (ma 57, .inl (y 0, 16, .inl g57)), (ma 58, .inl (y 0, 16, .inl g58)), (ma 62, .inl (y 0, 63, .inl g62))]) (fun a => [(1, .int (nI a.1)), (0, .ref mo)]) (0, g47) rfl rfl ⟨(show 0 ≤ 6 by omega), cpy_0⟩ ?_
          rintro ⟨iz, z47⟩ hP5206 ih5207
          obtain ⟨hi__, k47__⟩ := hP5206
          have hi_ : iz ≤ 6 := hi__
          have k47_ : CPy z47 g47 6 iz := k47__
          refine j_ws (ws' := [MB mo ma (nI t1) i2 i3 i4 i5 i6 i7 i8 i42 i49 (nI cd) i53 i54 i59 i61 i64 i66 (nI t67) i76 i78, (ma 43, .inl (y 0, 8, .inl z43)), (ma 44, .inl (y 1, 36, .inr (.inl z44))), (ma 45, .inl (y 0, 14, .inl z45)), (ma 46, .inl (y 0, 108, .inl z46)), (ma 47, .inl (y 0, 12, .inl z47)), (ma 48, .inl (y 0, 224, .inl g48)), (ma 50, .inl (y 0, 3200, .inl g50)), (ma 55, .inl (y 2, 16, .inl g55)), (ma 56, .inl (y 0, 16, .inl g56)), (ma 57, .inl (y 0, 16, .inl g57)), (ma 58, .inl (y 0, 16, .inl g58)), (ma 62, .inl (y 0, 63, .inl g62))]) rfl ?_
          refine j_lv (lv' := [(1, .int (nI iz)), (0, .ref mo)]) rfl ?_
          refine j_iload_n (pc := 116) C d_Model_stands_116 rfl 0 rfl ?_
          refine j_bipush (pc := 117) C (v := 6) d_Model_stands_117 (by decide) ?_
          by_cases c5208 : 6 ≤ iz
          · refine j_icmp_geT (pc := 119) C (tgt := 143) d_Model_stands_119 (by decide) (show nI 6 ≤ nI iz from nI_le (by omega) (by omega)) ?_
            have K47 : CPy z47 g47 6 6 := by have hq := k47_; rw [show iz = 6 by omega] at hq; exact hq
            refine j_iconst (pc := 143) C (v := 0) d_Model_stands_143 (by decide) ?_
            refine j_istore_n (pc := 144) C (lv' := [(1, .int 0), (0, .ref mo)]) d_Model_stands_144 rfl (by decide) rfl ?_
            refine j_loop (α := Nat × (Nat → Int32)) (fun a => 112 - a.1) (fun a => (a.1 ≤ 112) ∧ (CPy a.2 g48 112 a.1)) (fun a => [MB mo ma (nI t1) i2 i3 i4 i5 i6 i7 i8 i42 i49 (nI cd) i53 i54 i59 i61 i64 i66 (nI t67) i76 i78, (ma 43, .inl (y 0, 8, .inl z43)), (ma 44, .inl (y 1, 36, .inr (.inl z44))), (ma 45, .inl (y 0, 14, .inl z45)), (ma 46, .inl (y 0, 108, .inl z46)), (ma 47, .inl (y 0, 12, .inl z47)), (ma 48, .inl (y 0, 224, .inl a.2)), (ma 50, .inl (y 0, 3200, .inl g50)), (ma 55, .inl (y 2, 16, .inl g55)), (ma 56, .inl (y 0, 16, .inl g56)), (ma 57, .inl (y 0, 16, .inl g57)), (ma 58, .inl (y 0, 16, .inl g58)), (ma 62, .inl (y 0, 63, .inl g62))]) (fun a => [(1, .int (nI a.1)), (0, .ref mo)]) (0, g48) rfl rfl ⟨(show 0 ≤ 112 by omega), cpy_0⟩ ?_
            rintro ⟨iz, z48⟩ hP5290 ih5291
            obtain ⟨hi__, k48__⟩ := hP5290
            have hi_ : iz ≤ 112 := hi__
            have k48_ : CPy z48 g48 112 iz := k48__
            refine j_ws (ws' := [MB mo ma (nI t1) i2 i3 i4 i5 i6 i7 i8 i42 i49 (nI cd) i53 i54 i59 i61 i64 i66 (nI t67) i76 i78, (ma 43, .inl (y 0, 8, .inl z43)), (ma 44, .inl (y 1, 36, .inr (.inl z44))), (ma 45, .inl (y 0, 14, .inl z45)), (ma 46, .inl (y 0, 108, .inl z46)), (ma 47, .inl (y 0, 12, .inl z47)), (ma 48, .inl (y 0, 224, .inl z48)), (ma 50, .inl (y 0, 3200, .inl g50)), (ma 55, .inl (y 2, 16, .inl g55)), (ma 56, .inl (y 0, 16, .inl g56)), (ma 57, .inl (y 0, 16, .inl g57)), (ma 58, .inl (y 0, 16, .inl g58)), (ma 62, .inl (y 0, 63, .inl g62))]) rfl ?_
            refine j_lv (lv' := [(1, .int (nI iz)), (0, .ref mo)]) rfl ?_
            refine j_iload_n (pc := 145) C d_Model_stands_145 rfl 0 rfl ?_
            refine j_bipush (pc := 146) C (v := 112) d_Model_stands_146 (by decide) ?_
            by_cases c5292 : 112 ≤ iz
            · refine j_icmp_geT (pc := 148) C (tgt := 172) d_Model_stands_148 (by decide) (show nI 112 ≤ nI iz from nI_le (by omega) (by omega)) ?_
              have K48 : CPy z48 g48 112 112 := by have hq := k48_; rw [show iz = 112 by omega] at hq; exact hq
              refine j_iconst (pc := 172) C (v := 0) d_Model_stands_172 (by decide) ?_
              refine j_istore_n (pc := 173) C (lv' := [(1, .int 0), (0, .ref mo)]) d_Model_stands_173 rfl (by decide) rfl ?_
              refine j_loop (α := Nat × (Nat → Int32) × (Nat → Int32) × (Nat → Int32) × (Nat → Int32)) (fun a => 8 - a.1) (fun a => (a.1 ≤ 8) ∧ (CPB a.2.1 g55 8 a.1) ∧ (CPy a.2.2.1 g56 8 a.1) ∧ (CPy a.2.2.2.1 g57 8 a.1) ∧ (CPy a.2.2.2.2 g58 8 a.1)) (fun a => [MB mo ma (nI t1) i2 i3 i4 i5 i6 i7 i8 i42 i49 (nI cd) i53 i54 i59 i61 i64 i66 (nI t67) i76 i78, (ma 43, .inl (y 0, 8, .inl z43)), (ma 44, .inl (y 1, 36, .inr (.inl z44))), (ma 45, .inl (y 0, 14, .inl z45)), (ma 46, .inl (y 0, 108, .inl z46)), (ma 47, .inl (y 0, 12, .inl z47)), (ma 48, .inl (y 0, 224, .inl z48)), (ma 50, .inl (y 0, 3200, .inl g50)), (ma 55, .inl (y 2, 16, .inl a.2.1)), (ma 56, .inl (y 0, 16, .inl a.2.2.1)), (ma 57, .inl (y 0, 16, .inl a.2.2.2.1)), (ma 58, .inl (y 0, 16, .inl a.2.2.2.2)), (ma 62, .inl (y 0, 63, .inl g62))]) (fun a => [(1, .int (nI a.1)), (0, .ref mo)]) (0, g55, g56, g57, g58) rfl rfl ⟨(show 0 ≤ 8 by omega), cpb_0, cpy_0, cpy_0, cpy_0⟩ ?_
              rintro ⟨iz, z55, z56, z57, z58⟩ hP5332 ih5333
              obtain ⟨hi__, k55__, k56__, k57__, k58__⟩ := hP5332
              have hi_ : iz ≤ 8 := hi__
              have k55_ : CPB z55 g55 8 iz := k55__
              have k56_ : CPy z56 g56 8 iz := k56__
              have k57_ : CPy z57 g57 8 iz := k57__
              have k58_ : CPy z58 g58 8 iz := k58__
              refine j_ws (ws' := [MB mo ma (nI t1) i2 i3 i4 i5 i6 i7 i8 i42 i49 (nI cd) i53 i54 i59 i61 i64 i66 (nI t67) i76 i78, (ma 43, .inl (y 0, 8, .inl z43)), (ma 44, .inl (y 1, 36, .inr (.inl z44))), (ma 45, .inl (y 0, 14, .inl z45)), (ma 46, .inl (y 0, 108, .inl z46)), (ma 47, .inl (y 0, 12, .inl z47)), (ma 48, .inl (y 0, 224, .inl z48)), (ma 50, .inl (y 0, 3200, .inl g50)), (ma 55, .inl (y 2, 16, .inl z55)), (ma 56, .inl (y 0, 16, .inl z56)), (ma 57, .inl (y 0, 16, .inl z57)), (ma 58, .inl (y 0, 16, .inl z58)), (ma 62, .inl (y 0, 63, .inl g62))]) rfl ?_
              refine j_lv (lv' := [(1, .int (nI iz)), (0, .ref mo)]) rfl ?_
              refine j_iload_n (pc := 174) C d_Model_stands_174 rfl 0 rfl ?_
              refine j_bipush (pc := 175) C (v := 8) d_Model_stands_175 (by decide) ?_
              by_cases c5334 : 8 ≤ iz
              · refine j_icmp_geT (pc := 177) C (tgt := 246) d_Model_stands_177 (by decide) (show nI 8 ≤ nI iz from nI_le (by omega) (by omega)) ?_
                have K55 : CPB z55 g55 8 8 := by have hq := k55_; rw [show iz = 8 by omega] at hq; exact hq
                have K56 : CPy z56 g56 8 8 := by have hq := k56_; rw [show iz = 8 by omega] at hq; exact hq
                have K57 : CPy z57 g57 8 8 := by have hq := k57_; rw [show iz = 8 by omega] at hq; exact hq
                have K58 : CPy z58 g58 8 8 := by have hq := k58_; rw [show iz = 8 by omega] at hq; exact hq
                refine j_iconst (pc := 246) C (v := 0) d_Model_stands_246 (by decide) ?_
                refine j_istore_n (pc := 247) C (lv' := [(1, .int 0), (0, .ref mo)]) d_Model_stands_247 rfl (by decide) rfl ?_
                refine j_loop (α := Nat × (Nat → Int32)) (fun a => cd - a.1) (fun a => (a.1 ≤ cd) ∧ (CPy a.2 g50 1600 a.1)) (fun a => [MB mo ma (nI t1) i2 i3 i4 i5 i6 i7 i8 i42 i49 (nI cd) i53 i54 i59 i61 i64 i66 (nI t67) i76 i78, (ma 43, .inl (y 0, 8, .inl z43)), (ma 44, .inl (y 1, 36, .inr (.inl z44))), (ma 45, .inl (y 0, 14, .inl z45)), (ma 46, .inl (y 0, 108, .inl z46)), (ma 47, .inl (y 0, 12, .inl z47)), (ma 48, .inl (y 0, 224, .inl z48)), (ma 50, .inl (y 0, 3200, .inl a.2)), (ma 55, .inl (y 2, 16, .inl z55)), (ma 56, .inl (y 0, 16, .inl z56)), (ma 57, .inl (y 0, 16, .inl z57)), (ma 58, .inl (y 0, 16, .inl z58)), (ma 62, .inl (y 0, 63, .inl g62))]) (fun a => [(1, .int (nI a.1)), (0, .ref mo)]) (0, g50) rfl rfl ⟨(show 0 ≤ cd by omega), cpy_0⟩ ?_
                rintro ⟨iz, z50⟩ hP5353 ih5354
                obtain ⟨hi__, k50__⟩ := hP5353
                have hi_ : iz ≤ cd := hi__
                have k50_ : CPy z50 g50 1600 iz := k50__
                refine j_ws (ws' := [MB mo ma (nI t1) i2 i3 i4 i5 i6 i7 i8 i42 i49 (nI cd) i53 i54 i59 i61 i64 i66 (nI t67) i76 i78, (ma 43, .inl (y 0, 8, .inl z43)), (ma 44, .inl (y 1, 36, .inr (.inl z44))), (ma 45, .inl (y 0, 14, .inl z45)), (ma 46, .inl (y 0, 108, .inl z46)), (ma 47, .inl (y 0, 12, .inl z47)), (ma 48, .inl (y 0, 224, .inl z48)), (ma 50, .inl (y 0, 3200, .inl z50)), (ma 55, .inl (y 2, 16, .inl z55)), (ma 56, .inl (y 0, 16, .inl z56)), (ma 57, .inl (y 0, 16, .inl z57)), (ma 58, .inl (y 0, 16, .inl z58)), (ma 62, .inl (y 0, 63, .inl g62))]) rfl ?_
                refine j_lv (lv' := [(1, .int (nI iz)), (0, .ref mo)]) rfl ?_
                refine j_iload_n (pc := 248) C d_Model_stands_248 rfl 0 rfl ?_
                refine j_aload_n (pc := 249) C d_Model_stands_249 rfl 1 rfl ?_
                refine j_get (pc := 250) C gf_Model_289 0 rfl rfl d_Model_stands_250 ?_
                by_cases c5355 : cd ≤ iz
                · refine j_icmp_geT (pc := 253) C (tgt := 278) d_Model_stands_253 (by decide) (show nI cd ≤ nI iz from nI_le (by omega) (by omega)) ?_
                  have K50 : CPy z50 g50 1600 cd := by have hq := k50_; rw [show iz = cd by omega] at hq; exact hq
                  refine j_aload_n (pc := 278) C d_Model_stands_278 rfl 1 rfl ?_
                  refine j_callVv (pc := 279) C (c_M_nothing l D y mo ma t1 i2 i3 i4 i5 i6 i7 i8 i42 i49 (nI cd) i53 i54 i59 i61 i64 i66 t67 i76 i78 g62) kw_Model_338 kv_Model_nothing 0 10 rfl rfl ⟨by decide, by decide⟩ ⟨by decide, by decide⟩ (wr := [(ma 43, .inl (y 0, 8, .inl z43)), (ma 44, .inl (y 1, 36, .inr (.inl z44))), (ma 45, .inl (y 0, 14, .inl z45)), (ma 46, .inl (y 0, 108, .inl z46)), (ma 47, .inl (y 0, 12, .inl z47)), (ma 48, .inl (y 0, 224, .inl z48)), (ma 50, .inl (y 0, 3200, .inl z50)), (ma 55, .inl (y 2, 16, .inl z55)), (ma 56, .inl (y 0, 16, .inl z56)), (ma 57, .inl (y 0, 16, .inl z57)), (ma 58, .inl (y 0, 16, .inl z58))]) [0, 12] [1, 2, 3, 4, 5, 6, 7, 8, 9, 10, 11] rfl rfl (by decide) (by decide) (by decide) (As := []) (rest := []) rfl (nb rfl) rfl d_Model_stands_279 (fun u5356 hu5357 => ?_)
                  have xh5358 := hu5357
                  refine j_ws (ws' := [(ma 43, .inl (y 0, 8, .inl z43)), (ma 44, .inl (y 1, 36, .inr (.inl z44))), (ma 45, .inl (y 0, 14, .inl z45)), (ma 46, .inl (y 0, 108, .inl z46)), (ma 47, .inl (y 0, 12, .inl z47)), (ma 48, .inl (y 0, 224, .inl z48)), (ma 50, .inl (y 0, 3200, .inl z50)), (ma 55, .inl (y 2, 16, .inl z55)), (ma 56, .inl (y 0, 16, .inl z56)), (ma 57, .inl (y 0, 16, .inl z57)), (ma 58, .inl (y 0, 16, .inl z58)), MB mo ma (nI t1) i2 i3 i4 i5 i6 i7 i8 i42 i49 (nI cd) i53 i54 i59 i61 i64 u5356.1 (nI t67) i76 i78, (ma 62, .inl (y 0, 63, .inl u5356.2))]) rfl ?_
                  refine j_aload_n (pc := 282) C d_Model_stands_282 rfl 1 rfl ?_
                  refine j_get (pc := 283) C gf_Model_158 11 rfl rfl d_Model_stands_283 ?_
                  refine j_iconst (pc := 286) C (v := 1) d_Model_stands_286 (by decide) ?_
                  refine j_aload_n (pc := 287) C d_Model_stands_287 rfl 1 rfl ?_
                  refine j_get (pc := 288) C gf_Model_124 11 rfl rfl d_Model_stands_288 ?_
                  refine j_bipush (pc := 291) C (v := 9) d_Model_stands_291 (by decide) ?_
                  refine j_iald (pc := 293) C 2 rfl (v := z45 9) (vin (by decide)) rfl d_Model_stands_293 ?_
                  refine j_iast (pc := 294) C 12 rfl (ws' := [(ma 43, .inl (y 0, 8, .inl z43)), (ma 44, .inl (y 1, 36, .inr (.inl z44))), (ma 45, .inl (y 0, 14, .inl z45)), (ma 46, .inl (y 0, 108, .inl z46)), (ma 47, .inl (y 0, 12, .inl z47)), (ma 48, .inl (y 0, 224, .inl z48)), (ma 50, .inl (y 0, 3200, .inl z50)), (ma 55, .inl (y 2, 16, .inl z55)), (ma 56, .inl (y 0, 16, .inl z56)), (ma 57, .inl (y 0, 16, .inl z57)), (ma 58, .inl (y 0, 16, .inl z58)), MB mo ma (nI t1) i2 i3 i4 i5 i6 i7 i8 i42 i49 (nI cd) i53 i54 i59 i61 i64 u5356.1 (nI t67) i76 i78, (ma 62, .inl (y 0, 63, .inl (upd u5356.2 1 (z45 9))))]) (vin (by decide)) rfl d_Model_stands_294 ?_
                  refine j_genW (fun f5359 => [(ma 43, .inl (y 0, 8, .inl z43)), (ma 44, .inl (y 1, 36, .inr (.inl z44))), (ma 45, .inl (y 0, 14, .inl z45)), (ma 46, .inl (y 0, 108, .inl z46)), (ma 47, .inl (y 0, 12, .inl z47)), (ma 48, .inl (y 0, 224, .inl z48)), (ma 50, .inl (y 0, 3200, .inl z50)), (ma 55, .inl (y 2, 16, .inl z55)), (ma 56, .inl (y 0, 16, .inl z56)), (ma 57, .inl (y 0, 16, .inl z57)), (ma 58, .inl (y 0, 16, .inl z58)), MB mo ma (nI t1) i2 i3 i4 i5 i6 i7 i8 i42 i49 (nI cd) i53 i54 i59 i61 i64 u5356.1 (nI t67) i76 i78, (ma 62, .inl (y 0, 63, .inl f5359))]) (upd u5356.2 1 (z45 9)) rfl (fun f5359 => (f5359 0 = nI 0)) (show upd u5356.2 1 (z45 9) 0 = nI 0 by rw [pk_un (by omega)]; exact xh5358) ?_
                  rintro f5359 xh5360
                  refine j_ws (ws' := [(ma 43, .inl (y 0, 8, .inl z43)), (ma 44, .inl (y 1, 36, .inr (.inl z44))), (ma 45, .inl (y 0, 14, .inl z45)), (ma 46, .inl (y 0, 108, .inl z46)), (ma 47, .inl (y 0, 12, .inl z47)), (ma 48, .inl (y 0, 224, .inl z48)), (ma 50, .inl (y 0, 3200, .inl z50)), (ma 55, .inl (y 2, 16, .inl z55)), (ma 56, .inl (y 0, 16, .inl z56)), (ma 57, .inl (y 0, 16, .inl z57)), (ma 58, .inl (y 0, 16, .inl z58)), MB mo ma (nI t1) i2 i3 i4 i5 i6 i7 i8 i42 i49 (nI cd) i53 i54 i59 i61 i64 u5356.1 (nI t67) i76 i78, (ma 62, .inl (y 0, 63, .inl f5359))]) rfl ?_
                  have xh5360 : f5359 0 = nI 0 := xh5360
                  refine j_aload_n (pc := 295) C d_Model_stands_295 rfl 1 rfl ?_
                  refine j_get (pc := 296) C gf_Model_158 11 rfl rfl d_Model_stands_296 ?_
                  refine j_bipush (pc := 299) C (v := 30) d_Model_stands_299 (by decide) ?_
                  refine j_aload_n (pc := 301) C d_Model_stands_301 rfl 1 rfl ?_
                  refine j_get (pc := 302) C gf_Model_124 11 rfl rfl d_Model_stands_302 ?_
                  refine j_bipush (pc := 305) C (v := 9) d_Model_stands_305 (by decide) ?_
                  refine j_iald (pc := 307) C 2 rfl (v := z45 9) (vin (by decide)) rfl d_Model_stands_307 ?_
                  refine j_iast (pc := 308) C 12 rfl (ws' := [(ma 43, .inl (y 0, 8, .inl z43)), (ma 44, .inl (y 1, 36, .inr (.inl z44))), (ma 45, .inl (y 0, 14, .inl z45)), (ma 46, .inl (y 0, 108, .inl z46)), (ma 47, .inl (y 0, 12, .inl z47)), (ma 48, .inl (y 0, 224, .inl z48)), (ma 50, .inl (y 0, 3200, .inl z50)), (ma 55, .inl (y 2, 16, .inl z55)), (ma 56, .inl (y 0, 16, .inl z56)), (ma 57, .inl (y 0, 16, .inl z57)), (ma 58, .inl (y 0, 16, .inl z58)), MB mo ma (nI t1) i2 i3 i4 i5 i6 i7 i8 i42 i49 (nI cd) i53 i54 i59 i61 i64 u5356.1 (nI t67) i76 i78, (ma 62, .inl (y 0, 63, .inl (upd f5359 30 (z45 9))))]) (vin (by decide)) rfl d_Model_stands_308 ?_
                  refine j_genW (fun f5361 => [(ma 43, .inl (y 0, 8, .inl z43)), (ma 44, .inl (y 1, 36, .inr (.inl z44))), (ma 45, .inl (y 0, 14, .inl z45)), (ma 46, .inl (y 0, 108, .inl z46)), (ma 47, .inl (y 0, 12, .inl z47)), (ma 48, .inl (y 0, 224, .inl z48)), (ma 50, .inl (y 0, 3200, .inl z50)), (ma 55, .inl (y 2, 16, .inl z55)), (ma 56, .inl (y 0, 16, .inl z56)), (ma 57, .inl (y 0, 16, .inl z57)), (ma 58, .inl (y 0, 16, .inl z58)), MB mo ma (nI t1) i2 i3 i4 i5 i6 i7 i8 i42 i49 (nI cd) i53 i54 i59 i61 i64 u5356.1 (nI t67) i76 i78, (ma 62, .inl (y 0, 63, .inl f5361))]) (upd f5359 30 (z45 9)) rfl (fun f5361 => (f5361 0 = nI 0)) (show upd f5359 30 (z45 9) 0 = nI 0 by rw [pk_un (by omega)]; exact xh5360) ?_
                  rintro f5361 xh5362
                  refine j_ws (ws' := [(ma 43, .inl (y 0, 8, .inl z43)), (ma 44, .inl (y 1, 36, .inr (.inl z44))), (ma 45, .inl (y 0, 14, .inl z45)), (ma 46, .inl (y 0, 108, .inl z46)), (ma 47, .inl (y 0, 12, .inl z47)), (ma 48, .inl (y 0, 224, .inl z48)), (ma 50, .inl (y 0, 3200, .inl z50)), (ma 55, .inl (y 2, 16, .inl z55)), (ma 56, .inl (y 0, 16, .inl z56)), (ma 57, .inl (y 0, 16, .inl z57)), (ma 58, .inl (y 0, 16, .inl z58)), MB mo ma (nI t1) i2 i3 i4 i5 i6 i7 i8 i42 i49 (nI cd) i53 i54 i59 i61 i64 u5356.1 (nI t67) i76 i78, (ma 62, .inl (y 0, 63, .inl f5361))]) rfl ?_
                  have xh5362 : f5361 0 = nI 0 := xh5362
                  have hg4 : z43 4 = nI d0 := (K43.2 0 (by omega)).trans hd0
                  refine j_iconst (pc := 309) C (v := 0) d_Model_stands_309 (by decide) ?_
                  refine j_istore_n (pc := 310) C (lv' := [(1, .int 0), (0, .ref mo)]) d_Model_stands_310 rfl (by decide) rfl ?_
                  refine j_loop (α := Nat × (Nat → Int32)) (fun a => d0 - a.1) (fun a => (a.1 ≤ d0) ∧ (a.2 0 = nI 0)) (fun a => [(ma 43, .inl (y 0, 8, .inl z43)), (ma 44, .inl (y 1, 36, .inr (.inl z44))), (ma 45, .inl (y 0, 14, .inl z45)), (ma 46, .inl (y 0, 108, .inl z46)), (ma 47, .inl (y 0, 12, .inl z47)), (ma 48, .inl (y 0, 224, .inl z48)), (ma 50, .inl (y 0, 3200, .inl z50)), (ma 55, .inl (y 2, 16, .inl z55)), (ma 56, .inl (y 0, 16, .inl z56)), (ma 57, .inl (y 0, 16, .inl z57)), (ma 58, .inl (y 0, 16, .inl z58)), MB mo ma (nI t1) i2 i3 i4 i5 i6 i7 i8 i42 i49 (nI cd) i53 i54 i59 i61 i64 u5356.1 (nI t67) i76 i78, (ma 62, .inl (y 0, 63, .inl a.2))]) (fun a => [(1, .int (nI a.1)), (0, .ref mo)]) (0, f5361) rfl rfl ⟨(show 0 ≤ d0 by omega), xh5362⟩ ?_
                  rintro ⟨iz, nz⟩ hP5367 ih5368
                  obtain ⟨hi__, hn__⟩ := hP5367
                  have hi_ : iz ≤ d0 := hi__
                  have hn_ : nz 0 = nI 0 := hn__
                  refine j_ws (ws' := [(ma 43, .inl (y 0, 8, .inl z43)), (ma 44, .inl (y 1, 36, .inr (.inl z44))), (ma 45, .inl (y 0, 14, .inl z45)), (ma 46, .inl (y 0, 108, .inl z46)), (ma 47, .inl (y 0, 12, .inl z47)), (ma 48, .inl (y 0, 224, .inl z48)), (ma 50, .inl (y 0, 3200, .inl z50)), (ma 55, .inl (y 2, 16, .inl z55)), (ma 56, .inl (y 0, 16, .inl z56)), (ma 57, .inl (y 0, 16, .inl z57)), (ma 58, .inl (y 0, 16, .inl z58)), MB mo ma (nI t1) i2 i3 i4 i5 i6 i7 i8 i42 i49 (nI cd) i53 i54 i59 i61 i64 u5356.1 (nI t67) i76 i78, (ma 62, .inl (y 0, 63, .inl nz))]) rfl ?_
                  refine j_lv (lv' := [(1, .int (nI iz)), (0, .ref mo)]) rfl ?_
                  refine j_iload_n (pc := 311) C d_Model_stands_311 rfl 0 rfl ?_
                  refine j_aload_n (pc := 312) C d_Model_stands_312 rfl 1 rfl ?_
                  refine j_callVi (pc := 313) C (c_M_gateMany l D y mo ma t1 i2 i3 i4 i5 i6 i7 i8 i42 i49 (nI cd) i53 i54 i59 i61 i64 u5356.1 t67 i76 i78 z43 d0 hg4 bd0) kw_Model_341 kv_Model_gateMany 0 10 rfl rfl ⟨by decide, by decide⟩ ⟨by decide, by decide⟩ (wr := [(ma 44, .inl (y 1, 36, .inr (.inl z44))), (ma 45, .inl (y 0, 14, .inl z45)), (ma 46, .inl (y 0, 108, .inl z46)), (ma 47, .inl (y 0, 12, .inl z47)), (ma 48, .inl (y 0, 224, .inl z48)), (ma 50, .inl (y 0, 3200, .inl z50)), (ma 55, .inl (y 2, 16, .inl z55)), (ma 56, .inl (y 0, 16, .inl z56)), (ma 57, .inl (y 0, 16, .inl z57)), (ma 58, .inl (y 0, 16, .inl z58)), (ma 62, .inl (y 0, 63, .inl nz))]) [11, 0] [1, 2, 3, 4, 5, 6, 7, 8, 9, 10, 12] rfl rfl (by decide) (by decide) (by decide) (As := []) (rest := [.int (nI iz)]) rfl (nb rfl) rfl d_Model_stands_313 (fun r5369 _ hr5369 => ?_)
                  obtain rfl := hr5369
                  refine j_ws (ws' := [(ma 44, .inl (y 1, 36, .inr (.inl z44))), (ma 45, .inl (y 0, 14, .inl z45)), (ma 46, .inl (y 0, 108, .inl z46)), (ma 47, .inl (y 0, 12, .inl z47)), (ma 48, .inl (y 0, 224, .inl z48)), (ma 50, .inl (y 0, 3200, .inl z50)), (ma 55, .inl (y 2, 16, .inl z55)), (ma 56, .inl (y 0, 16, .inl z56)), (ma 57, .inl (y 0, 16, .inl z57)), (ma 58, .inl (y 0, 16, .inl z58)), (ma 62, .inl (y 0, 63, .inl nz)), MB mo ma (nI t1) i2 i3 i4 i5 i6 i7 i8 i42 i49 (nI cd) i53 i54 i59 i61 i64 u5356.1 (nI t67) i76 i78, (ma 43, .inl (y 0, 8, .inl z43))]) rfl ?_
                  by_cases c5370 : d0 ≤ iz
                  · refine j_icmp_geT (pc := 316) C (tgt := 347) d_Model_stands_316 (by decide) (show nI d0 ≤ nI iz from nI_le (by omega) (by omega)) ?_
                    exact j_vret (pc := 347) C hr (u5356.1, z43, z44, z45, z46, z47, z48, z50, z55, z56, z57, z58, nz) ⟨K43, K45, K46, K47, K48, K50, K56, K57, K58, K44, K55, hn_⟩ [11, 12, 0, 1, 2, 3, 4, 5, 6, 7, 8, 9, 10] rfl (by decide) (by decide) (by decide) d_Model_stands_347
                  · refine j_icmp_geF (pc := 316) C (tgt := 347) d_Model_stands_316 (by decide) (show ¬ nI d0 ≤ nI iz from nI_ge (by omega) (by omega)) ?_
                    refine j_aload_n (pc := 319) C d_Model_stands_319 rfl 1 rfl ?_
                    refine j_get (pc := 320) C gf_Model_158 11 rfl rfl d_Model_stands_320 ?_
                    refine j_iconst (pc := 323) C (v := 3) d_Model_stands_323 (by decide) ?_
                    refine j_iload_n (pc := 324) C d_Model_stands_324 rfl 0 rfl ?_
                    refine j_iadd (pc := 325) C (v := nI (3 + iz)) d_Model_stands_325 (nI_add _ _) ?_
                    refine j_aload_n (pc := 326) C d_Model_stands_326 rfl 1 rfl ?_
                    refine j_get (pc := 327) C gf_Model_127 11 rfl rfl d_Model_stands_327 ?_
                    refine j_bipush (pc := 330) C (v := 54) d_Model_stands_330 (by decide) ?_
                    refine j_bipush (pc := 332) C (v := 6) d_Model_stands_332 (by decide) ?_
                    refine j_iload_n (pc := 334) C d_Model_stands_334 rfl 0 rfl ?_
                    refine j_imul (pc := 335) C (v := nI (6 * iz)) d_Model_stands_335 (pk_mul _ _) ?_
                    refine j_iadd (pc := 336) C (v := nI (54 + (6 * iz))) d_Model_stands_336 (nI_add _ _) ?_
                    refine j_iconst (pc := 337) C (v := 3) d_Model_stands_337 (by decide) ?_
                    refine j_iadd (pc := 338) C (v := nI ((54 + (6 * iz)) + 3)) d_Model_stands_338 (nI_add _ _) ?_
                    refine j_iald (pc := 339) C 2 rfl (v := z46 ((54 + (6 * iz)) + 3)) (vp_in_nI (by omega) (by decide)) (by rw [nI_clamp (by omega)]) d_Model_stands_339 ?_
                    refine j_iast (pc := 340) C 10 rfl (ws' := [(ma 44, .inl (y 1, 36, .inr (.inl z44))), (ma 45, .inl (y 0, 14, .inl z45)), (ma 46, .inl (y 0, 108, .inl z46)), (ma 47, .inl (y 0, 12, .inl z47)), (ma 48, .inl (y 0, 224, .inl z48)), (ma 50, .inl (y 0, 3200, .inl z50)), (ma 55, .inl (y 2, 16, .inl z55)), (ma 56, .inl (y 0, 16, .inl z56)), (ma 57, .inl (y 0, 16, .inl z57)), (ma 58, .inl (y 0, 16, .inl z58)), (ma 62, .inl (y 0, 63, .inl (upd nz (3 + iz) (z46 ((54 + (6 * iz)) + 3))))), MB mo ma (nI t1) i2 i3 i4 i5 i6 i7 i8 i42 i49 (nI cd) i53 i54 i59 i61 i64 u5356.1 (nI t67) i76 i78, (ma 43, .inl (y 0, 8, .inl z43))]) (vp_in_nI (by omega) (by decide)) (by rw [nI_clamp (by omega)]; rfl) d_Model_stands_340 ?_
                    refine j_genW (fun f5371 => [(ma 44, .inl (y 1, 36, .inr (.inl z44))), (ma 45, .inl (y 0, 14, .inl z45)), (ma 46, .inl (y 0, 108, .inl z46)), (ma 47, .inl (y 0, 12, .inl z47)), (ma 48, .inl (y 0, 224, .inl z48)), (ma 50, .inl (y 0, 3200, .inl z50)), (ma 55, .inl (y 2, 16, .inl z55)), (ma 56, .inl (y 0, 16, .inl z56)), (ma 57, .inl (y 0, 16, .inl z57)), (ma 58, .inl (y 0, 16, .inl z58)), (ma 62, .inl (y 0, 63, .inl f5371)), MB mo ma (nI t1) i2 i3 i4 i5 i6 i7 i8 i42 i49 (nI cd) i53 i54 i59 i61 i64 u5356.1 (nI t67) i76 i78, (ma 43, .inl (y 0, 8, .inl z43))]) (upd nz (3 + iz) (z46 ((54 + (6 * iz)) + 3))) rfl (fun f5371 => (f5371 0 = nI 0)) (show upd nz (3 + iz) (z46 ((54 + (6 * iz)) + 3)) 0 = nI 0 by rw [pk_un (by omega)]; exact hn_) ?_
                    rintro f5371 xh5372
                    refine j_ws (ws' := [(ma 44, .inl (y 1, 36, .inr (.inl z44))), (ma 45, .inl (y 0, 14, .inl z45)), (ma 46, .inl (y 0, 108, .inl z46)), (ma 47, .inl (y 0, 12, .inl z47)), (ma 48, .inl (y 0, 224, .inl z48)), (ma 50, .inl (y 0, 3200, .inl z50)), (ma 55, .inl (y 2, 16, .inl z55)), (ma 56, .inl (y 0, 16, .inl z56)), (ma 57, .inl (y 0, 16, .inl z57)), (ma 58, .inl (y 0, 16, .inl z58)), (ma 62, .inl (y 0, 63, .inl f5371)), MB mo ma (nI t1) i2 i3 i4 i5 i6 i7 i8 i42 i49 (nI cd) i53 i54 i59 i61 i64 u5356.1 (nI t67) i76 i78, (ma 43, .inl (y 0, 8, .inl z43))]) rfl ?_
                    have xh5372 : f5371 0 = nI 0 := xh5372
                    refine j_iinc (pc := 341) C (v := nI (iz + 1)) (lv' := [(1, .int (nI (iz + 1))), (0, .ref mo)]) d_Model_stands_341 0 rfl (nI_add _ _) (by decide) rfl ?_
                    refine j_goto (pc := 344) C (tgt := 311) d_Model_stands_344 (by decide) ?_
                    refine j_sub (ws' := [(ma 43, .inl (y 0, 8, .inl z43)), (ma 44, .inl (y 1, 36, .inr (.inl z44))), (ma 45, .inl (y 0, 14, .inl z45)), (ma 46, .inl (y 0, 108, .inl z46)), (ma 47, .inl (y 0, 12, .inl z47)), (ma 48, .inl (y 0, 224, .inl z48)), (ma 50, .inl (y 0, 3200, .inl z50)), (ma 55, .inl (y 2, 16, .inl z55)), (ma 56, .inl (y 0, 16, .inl z56)), (ma 57, .inl (y 0, 16, .inl z57)), (ma 58, .inl (y 0, 16, .inl z58)), MB mo ma (nI t1) i2 i3 i4 i5 i6 i7 i8 i42 i49 (nI cd) i53 i54 i59 i61 i64 u5356.1 (nI t67) i76 i78, (ma 62, .inl (y 0, 63, .inl f5371))]) [12, 0, 1, 2, 3, 4, 5, 6, 7, 8, 9, 11, 10] rfl (by decide) ?_
                    exact ih5368 ((iz + 1), f5371) ⟨(show (iz + 1) ≤ d0 by omega), xh5372⟩ (show d0 - (iz + 1) < d0 - iz by omega)
                · refine j_icmp_geF (pc := 253) C (tgt := 278) d_Model_stands_253 (by decide) (show ¬ nI cd ≤ nI iz from nI_ge (by omega) (by omega)) ?_
                  refine j_aload_n (pc := 256) C d_Model_stands_256 rfl 1 rfl ?_
                  refine j_get (pc := 257) C gf_Model_136 0 rfl rfl d_Model_stands_257 ?_
                  refine j_sipush (pc := 260) C (v := 1600) d_Model_stands_260 (by decide) ?_
                  refine j_iload_n (pc := 263) C d_Model_stands_263 rfl 0 rfl ?_
                  refine j_iadd (pc := 264) C (v := nI (1600 + iz)) d_Model_stands_264 (nI_add _ _) ?_
                  refine j_aload_n (pc := 265) C d_Model_stands_265 rfl 1 rfl ?_
                  refine j_get (pc := 266) C gf_Model_136 0 rfl rfl d_Model_stands_266 ?_
                  refine j_iload_n (pc := 269) C d_Model_stands_269 rfl 0 rfl ?_
                  refine j_iald (pc := 270) C 7 rfl (v := z50 iz) (vp_in_nI (by omega) (by decide)) (by rw [nI_clamp (by omega)]) d_Model_stands_270 ?_
                  refine j_iast (pc := 271) C 7 rfl (ws' := [MB mo ma (nI t1) i2 i3 i4 i5 i6 i7 i8 i42 i49 (nI cd) i53 i54 i59 i61 i64 i66 (nI t67) i76 i78, (ma 43, .inl (y 0, 8, .inl z43)), (ma 44, .inl (y 1, 36, .inr (.inl z44))), (ma 45, .inl (y 0, 14, .inl z45)), (ma 46, .inl (y 0, 108, .inl z46)), (ma 47, .inl (y 0, 12, .inl z47)), (ma 48, .inl (y 0, 224, .inl z48)), (ma 50, .inl (y 0, 3200, .inl (upd z50 (1600 + iz) (z50 iz)))), (ma 55, .inl (y 2, 16, .inl z55)), (ma 56, .inl (y 0, 16, .inl z56)), (ma 57, .inl (y 0, 16, .inl z57)), (ma 58, .inl (y 0, 16, .inl z58)), (ma 62, .inl (y 0, 63, .inl g62))]) (vp_in_nI (by omega) (by decide)) (by rw [nI_clamp (by omega)]; rfl) d_Model_stands_271 ?_
                  refine j_iinc (pc := 272) C (v := nI (iz + 1)) (lv' := [(1, .int (nI (iz + 1))), (0, .ref mo)]) d_Model_stands_272 0 rfl (nI_add _ _) (by decide) rfl ?_
                  refine j_goto (pc := 275) C (tgt := 248) d_Model_stands_275 (by decide) ?_
                  exact ih5354 ((iz + 1), (upd z50 (1600 + iz) (z50 iz))) ⟨(show (iz + 1) ≤ cd by omega), (show CPy (upd z50 (1600 + iz) (z50 iz)) g50 1600 (iz + 1) from cpy_up k50_ (by omega))⟩ (show cd - (iz + 1) < cd - iz by omega)
              · refine j_icmp_geF (pc := 177) C (tgt := 246) d_Model_stands_177 (by decide) (show ¬ nI 8 ≤ nI iz from nI_ge (by omega) (by omega)) ?_
                refine j_aload_n (pc := 180) C d_Model_stands_180 rfl 1 rfl ?_
                refine j_get (pc := 181) C gf_Model_142 0 rfl rfl d_Model_stands_181 ?_
                refine j_bipush (pc := 184) C (v := 8) d_Model_stands_184 (by decide) ?_
                refine j_iload_n (pc := 186) C d_Model_stands_186 rfl 0 rfl ?_
                refine j_iadd (pc := 187) C (v := nI (8 + iz)) d_Model_stands_187 (nI_add _ _) ?_
                refine j_aload_n (pc := 188) C d_Model_stands_188 rfl 1 rfl ?_
                refine j_get (pc := 189) C gf_Model_142 0 rfl rfl d_Model_stands_189 ?_
                refine j_iload_n (pc := 192) C d_Model_stands_192 rfl 0 rfl ?_
                refine j_zald (pc := 193) C 8 rfl (v := z55 iz) (vp_in_nI (by omega) (by decide)) (by rw [nI_clamp (by omega)]) d_Model_stands_193 ?_
                refine j_zast (pc := 194) C 8 rfl (w := vp_nar .boolean (z55 iz)) (ws' := [MB mo ma (nI t1) i2 i3 i4 i5 i6 i7 i8 i42 i49 (nI cd) i53 i54 i59 i61 i64 i66 (nI t67) i76 i78, (ma 43, .inl (y 0, 8, .inl z43)), (ma 44, .inl (y 1, 36, .inr (.inl z44))), (ma 45, .inl (y 0, 14, .inl z45)), (ma 46, .inl (y 0, 108, .inl z46)), (ma 47, .inl (y 0, 12, .inl z47)), (ma 48, .inl (y 0, 224, .inl z48)), (ma 50, .inl (y 0, 3200, .inl g50)), (ma 55, .inl (y 2, 16, .inl (upd z55 (8 + iz) (vp_nar .boolean (z55 iz))))), (ma 56, .inl (y 0, 16, .inl z56)), (ma 57, .inl (y 0, 16, .inl z57)), (ma 58, .inl (y 0, 16, .inl z58)), (ma 62, .inl (y 0, 63, .inl g62))]) (vp_in_nI (by omega) (by decide)) rfl (by rw [nI_clamp (by omega)]; rfl) d_Model_stands_194 ?_
                refine j_aload_n (pc := 195) C d_Model_stands_195 rfl 1 rfl ?_
                refine j_get (pc := 196) C gf_Model_146 0 rfl rfl d_Model_stands_196 ?_
                refine j_bipush (pc := 199) C (v := 8) d_Model_stands_199 (by decide) ?_
                refine j_iload_n (pc := 201) C d_Model_stands_201 rfl 0 rfl ?_
                refine j_iadd (pc := 202) C (v := nI (8 + iz)) d_Model_stands_202 (nI_add _ _) ?_
                refine j_aload_n (pc := 203) C d_Model_stands_203 rfl 1 rfl ?_
                refine j_get (pc := 204) C gf_Model_146 0 rfl rfl d_Model_stands_204 ?_
                refine j_iload_n (pc := 207) C d_Model_stands_207 rfl 0 rfl ?_
                refine j_iald (pc := 208) C 9 rfl (v := z56 iz) (vp_in_nI (by omega) (by decide)) (by rw [nI_clamp (by omega)]) d_Model_stands_208 ?_
                refine j_iast (pc := 209) C 9 rfl (ws' := [MB mo ma (nI t1) i2 i3 i4 i5 i6 i7 i8 i42 i49 (nI cd) i53 i54 i59 i61 i64 i66 (nI t67) i76 i78, (ma 43, .inl (y 0, 8, .inl z43)), (ma 44, .inl (y 1, 36, .inr (.inl z44))), (ma 45, .inl (y 0, 14, .inl z45)), (ma 46, .inl (y 0, 108, .inl z46)), (ma 47, .inl (y 0, 12, .inl z47)), (ma 48, .inl (y 0, 224, .inl z48)), (ma 50, .inl (y 0, 3200, .inl g50)), (ma 55, .inl (y 2, 16, .inl (upd z55 (8 + iz) (vp_nar .boolean (z55 iz))))), (ma 56, .inl (y 0, 16, .inl (upd z56 (8 + iz) (z56 iz)))), (ma 57, .inl (y 0, 16, .inl z57)), (ma 58, .inl (y 0, 16, .inl z58)), (ma 62, .inl (y 0, 63, .inl g62))]) (vp_in_nI (by omega) (by decide)) (by rw [nI_clamp (by omega)]; rfl) d_Model_stands_209 ?_
                refine j_aload_n (pc := 210) C d_Model_stands_210 rfl 1 rfl ?_
                refine j_get (pc := 211) C gf_Model_149 0 rfl rfl d_Model_stands_211 ?_
                refine j_bipush (pc := 214) C (v := 8) d_Model_stands_214 (by decide) ?_
                refine j_iload_n (pc := 216) C d_Model_stands_216 rfl 0 rfl ?_
                refine j_iadd (pc := 217) C (v := nI (8 + iz)) d_Model_stands_217 (nI_add _ _) ?_
                refine j_aload_n (pc := 218) C d_Model_stands_218 rfl 1 rfl ?_
                refine j_get (pc := 219) C gf_Model_149 0 rfl rfl d_Model_stands_219 ?_
                refine j_iload_n (pc := 222) C d_Model_stands_222 rfl 0 rfl ?_
                refine j_iald (pc := 223) C 10 rfl (v := z57 iz) (vp_in_nI (by omega) (by decide)) (by rw [nI_clamp (by omega)]) d_Model_stands_223 ?_
                refine j_iast (pc := 224) C 10 rfl (ws' := [MB mo ma (nI t1) i2 i3 i4 i5 i6 i7 i8 i42 i49 (nI cd) i53 i54 i59 i61 i64 i66 (nI t67) i76 i78, (ma 43, .inl (y 0, 8, .inl z43)), (ma 44, .inl (y 1, 36, .inr (.inl z44))), (ma 45, .inl (y 0, 14, .inl z45)), (ma 46, .inl (y 0, 108, .inl z46)), (ma 47, .inl (y 0, 12, .inl z47)), (ma 48, .inl (y 0, 224, .inl z48)), (ma 50, .inl (y 0, 3200, .inl g50)), (ma 55, .inl (y 2, 16, .inl (upd z55 (8 + iz) (vp_nar .boolean (z55 iz))))), (ma 56, .inl (y 0, 16, .inl (upd z56 (8 + iz) (z56 iz)))), (ma 57, .inl (y 0, 16, .inl (upd z57 (8 + iz) (z57 iz)))), (ma 58, .inl (y 0, 16, .inl z58)), (ma 62, .inl (y 0, 63, .inl g62))]) (vp_in_nI (by omega) (by decide)) (by rw [nI_clamp (by omega)]; rfl) d_Model_stands_224 ?_
                refine j_aload_n (pc := 225) C d_Model_stands_225 rfl 1 rfl ?_
                refine j_get (pc := 226) C gf_Model_152 0 rfl rfl d_Model_stands_226 ?_
                refine j_bipush (pc := 229) C (v := 8) d_Model_stands_229 (by decide) ?_
                refine j_iload_n (pc := 231) C d_Model_stands_231 rfl 0 rfl ?_
                refine j_iadd (pc := 232) C (v := nI (8 + iz)) d_Model_stands_232 (nI_add _ _) ?_
                refine j_aload_n (pc := 233) C d_Model_stands_233 rfl 1 rfl ?_
                refine j_get (pc := 234) C gf_Model_152 0 rfl rfl d_Model_stands_234 ?_
                refine j_iload_n (pc := 237) C d_Model_stands_237 rfl 0 rfl ?_
                refine j_iald (pc := 238) C 11 rfl (v := z58 iz) (vp_in_nI (by omega) (by decide)) (by rw [nI_clamp (by omega)]) d_Model_stands_238 ?_
                refine j_iast (pc := 239) C 11 rfl (ws' := [MB mo ma (nI t1) i2 i3 i4 i5 i6 i7 i8 i42 i49 (nI cd) i53 i54 i59 i61 i64 i66 (nI t67) i76 i78, (ma 43, .inl (y 0, 8, .inl z43)), (ma 44, .inl (y 1, 36, .inr (.inl z44))), (ma 45, .inl (y 0, 14, .inl z45)), (ma 46, .inl (y 0, 108, .inl z46)), (ma 47, .inl (y 0, 12, .inl z47)), (ma 48, .inl (y 0, 224, .inl z48)), (ma 50, .inl (y 0, 3200, .inl g50)), (ma 55, .inl (y 2, 16, .inl (upd z55 (8 + iz) (vp_nar .boolean (z55 iz))))), (ma 56, .inl (y 0, 16, .inl (upd z56 (8 + iz) (z56 iz)))), (ma 57, .inl (y 0, 16, .inl (upd z57 (8 + iz) (z57 iz)))), (ma 58, .inl (y 0, 16, .inl (upd z58 (8 + iz) (z58 iz)))), (ma 62, .inl (y 0, 63, .inl g62))]) (vp_in_nI (by omega) (by decide)) (by rw [nI_clamp (by omega)]; rfl) d_Model_stands_239 ?_
                refine j_iinc (pc := 240) C (v := nI (iz + 1)) (lv' := [(1, .int (nI (iz + 1))), (0, .ref mo)]) d_Model_stands_240 0 rfl (nI_add _ _) (by decide) rfl ?_
                refine j_goto (pc := 243) C (tgt := 174) d_Model_stands_243 (by decide) ?_
                exact ih5333 ((iz + 1), (upd z55 (8 + iz) (vp_nar .boolean (z55 iz))), (upd z56 (8 + iz) (z56 iz)), (upd z57 (8 + iz) (z57 iz)), (upd z58 (8 + iz) (z58 iz))) ⟨(show (iz + 1) ≤ 8 by omega), (show CPB (upd z55 (8 + iz) (vp_nar .boolean (z55 iz))) g55 8 (iz + 1) from cpb_up k55_ (by omega)), (show CPy (upd z56 (8 + iz) (z56 iz)) g56 8 (iz + 1) from cpy_up k56_ (by omega)), (show CPy (upd z57 (8 + iz) (z57 iz)) g57 8 (iz + 1) from cpy_up k57_ (by omega)), (show CPy (upd z58 (8 + iz) (z58 iz)) g58 8 (iz + 1) from cpy_up k58_ (by omega))⟩ (show 8 - (iz + 1) < 8 - iz by omega)
            · refine j_icmp_geF (pc := 148) C (tgt := 172) d_Model_stands_148 (by decide) (show ¬ nI 112 ≤ nI iz from nI_ge (by omega) (by omega)) ?_
              refine j_aload_n (pc := 151) C d_Model_stands_151 rfl 1 rfl ?_
              refine j_get (pc := 152) C gf_Model_133 0 rfl rfl d_Model_stands_152 ?_
              refine j_bipush (pc := 155) C (v := 112) d_Model_stands_155 (by decide) ?_
              refine j_iload_n (pc := 157) C d_Model_stands_157 rfl 0 rfl ?_
              refine j_iadd (pc := 158) C (v := nI (112 + iz)) d_Model_stands_158 (nI_add _ _) ?_
              refine j_aload_n (pc := 159) C d_Model_stands_159 rfl 1 rfl ?_
              refine j_get (pc := 160) C gf_Model_133 0 rfl rfl d_Model_stands_160 ?_
              refine j_iload_n (pc := 163) C d_Model_stands_163 rfl 0 rfl ?_
              refine j_iald (pc := 164) C 6 rfl (v := z48 iz) (vp_in_nI (by omega) (by decide)) (by rw [nI_clamp (by omega)]) d_Model_stands_164 ?_
              refine j_iast (pc := 165) C 6 rfl (ws' := [MB mo ma (nI t1) i2 i3 i4 i5 i6 i7 i8 i42 i49 (nI cd) i53 i54 i59 i61 i64 i66 (nI t67) i76 i78, (ma 43, .inl (y 0, 8, .inl z43)), (ma 44, .inl (y 1, 36, .inr (.inl z44))), (ma 45, .inl (y 0, 14, .inl z45)), (ma 46, .inl (y 0, 108, .inl z46)), (ma 47, .inl (y 0, 12, .inl z47)), (ma 48, .inl (y 0, 224, .inl (upd z48 (112 + iz) (z48 iz)))), (ma 50, .inl (y 0, 3200, .inl g50)), (ma 55, .inl (y 2, 16, .inl g55)), (ma 56, .inl (y 0, 16, .inl g56)), (ma 57, .inl (y 0, 16, .inl g57)), (ma 58, .inl (y 0, 16, .inl g58)), (ma 62, .inl (y 0, 63, .inl g62))]) (vp_in_nI (by omega) (by decide)) (by rw [nI_clamp (by omega)]; rfl) d_Model_stands_165 ?_
              refine j_iinc (pc := 166) C (v := nI (iz + 1)) (lv' := [(1, .int (nI (iz + 1))), (0, .ref mo)]) d_Model_stands_166 0 rfl (nI_add _ _) (by decide) rfl ?_
              refine j_goto (pc := 169) C (tgt := 145) d_Model_stands_169 (by decide) ?_
              exact ih5291 ((iz + 1), (upd z48 (112 + iz) (z48 iz))) ⟨(show (iz + 1) ≤ 112 by omega), (show CPy (upd z48 (112 + iz) (z48 iz)) g48 112 (iz + 1) from cpy_up k48_ (by omega))⟩ (show 112 - (iz + 1) < 112 - iz by omega)
          · refine j_icmp_geF (pc := 119) C (tgt := 143) d_Model_stands_119 (by decide) (show ¬ nI 6 ≤ nI iz from nI_ge (by omega) (by omega)) ?_
            refine j_aload_n (pc := 122) C d_Model_stands_122 rfl 1 rfl ?_
            refine j_get (pc := 123) C gf_Model_130 0 rfl rfl d_Model_stands_123 ?_
            refine j_bipush (pc := 126) C (v := 6) d_Model_stands_126 (by decide) ?_
            refine j_iload_n (pc := 128) C d_Model_stands_128 rfl 0 rfl ?_
            refine j_iadd (pc := 129) C (v := nI (6 + iz)) d_Model_stands_129 (nI_add _ _) ?_
            refine j_aload_n (pc := 130) C d_Model_stands_130 rfl 1 rfl ?_
            refine j_get (pc := 131) C gf_Model_130 0 rfl rfl d_Model_stands_131 ?_
            refine j_iload_n (pc := 134) C d_Model_stands_134 rfl 0 rfl ?_
            refine j_iald (pc := 135) C 5 rfl (v := z47 iz) (vp_in_nI (by omega) (by decide)) (by rw [nI_clamp (by omega)]) d_Model_stands_135 ?_
            refine j_iast (pc := 136) C 5 rfl (ws' := [MB mo ma (nI t1) i2 i3 i4 i5 i6 i7 i8 i42 i49 (nI cd) i53 i54 i59 i61 i64 i66 (nI t67) i76 i78, (ma 43, .inl (y 0, 8, .inl z43)), (ma 44, .inl (y 1, 36, .inr (.inl z44))), (ma 45, .inl (y 0, 14, .inl z45)), (ma 46, .inl (y 0, 108, .inl z46)), (ma 47, .inl (y 0, 12, .inl (upd z47 (6 + iz) (z47 iz)))), (ma 48, .inl (y 0, 224, .inl g48)), (ma 50, .inl (y 0, 3200, .inl g50)), (ma 55, .inl (y 2, 16, .inl g55)), (ma 56, .inl (y 0, 16, .inl g56)), (ma 57, .inl (y 0, 16, .inl g57)), (ma 58, .inl (y 0, 16, .inl g58)), (ma 62, .inl (y 0, 63, .inl g62))]) (vp_in_nI (by omega) (by decide)) (by rw [nI_clamp (by omega)]; rfl) d_Model_stands_136 ?_
            refine j_iinc (pc := 137) C (v := nI (iz + 1)) (lv' := [(1, .int (nI (iz + 1))), (0, .ref mo)]) d_Model_stands_137 0 rfl (nI_add _ _) (by decide) rfl ?_
            refine j_goto (pc := 140) C (tgt := 116) d_Model_stands_140 (by decide) ?_
            exact ih5207 ((iz + 1), (upd z47 (6 + iz) (z47 iz))) ⟨(show (iz + 1) ≤ 6 by omega), (show CPy (upd z47 (6 + iz) (z47 iz)) g47 6 (iz + 1) from cpy_up k47_ (by omega))⟩ (show 6 - (iz + 1) < 6 - iz by omega)
        · refine j_icmp_geF (pc := 90) C (tgt := 114) d_Model_stands_90 (by decide) (show ¬ nI 54 ≤ nI iz from nI_ge (by omega) (by omega)) ?_
          refine j_aload_n (pc := 93) C d_Model_stands_93 rfl 1 rfl ?_
          refine j_get (pc := 94) C gf_Model_127 0 rfl rfl d_Model_stands_94 ?_
          refine j_bipush (pc := 97) C (v := 54) d_Model_stands_97 (by decide) ?_
          refine j_iload_n (pc := 99) C d_Model_stands_99 rfl 0 rfl ?_
          refine j_iadd (pc := 100) C (v := nI (54 + iz)) d_Model_stands_100 (nI_add _ _) ?_
          refine j_aload_n (pc := 101) C d_Model_stands_101 rfl 1 rfl ?_
          refine j_get (pc := 102) C gf_Model_127 0 rfl rfl d_Model_stands_102 ?_
          refine j_iload_n (pc := 105) C d_Model_stands_105 rfl 0 rfl ?_
          refine j_iald (pc := 106) C 4 rfl (v := z46 iz) (vp_in_nI (by omega) (by decide)) (by rw [nI_clamp (by omega)]) d_Model_stands_106 ?_
          refine j_iast (pc := 107) C 4 rfl (ws' := [MB mo ma (nI t1) i2 i3 i4 i5 i6 i7 i8 i42 i49 (nI cd) i53 i54 i59 i61 i64 i66 (nI t67) i76 i78, (ma 43, .inl (y 0, 8, .inl z43)), (ma 44, .inl (y 1, 36, .inr (.inl z44))), (ma 45, .inl (y 0, 14, .inl z45)), (ma 46, .inl (y 0, 108, .inl (upd z46 (54 + iz) (z46 iz)))), (ma 47, .inl (y 0, 12, .inl g47)), (ma 48, .inl (y 0, 224, .inl g48)), (ma 50, .inl (y 0, 3200, .inl g50)), (ma 55, .inl (y 2, 16, .inl g55)), (ma 56, .inl (y 0, 16, .inl g56)), (ma 57, .inl (y 0, 16, .inl g57)), (ma 58, .inl (y 0, 16, .inl g58)), (ma 62, .inl (y 0, 63, .inl g62))]) (vp_in_nI (by omega) (by decide)) (by rw [nI_clamp (by omega)]; rfl) d_Model_stands_107 ?_
          refine j_iinc (pc := 108) C (v := nI (iz + 1)) (lv' := [(1, .int (nI (iz + 1))), (0, .ref mo)]) d_Model_stands_108 0 rfl (nI_add _ _) (by decide) rfl ?_
          refine j_goto (pc := 111) C (tgt := 87) d_Model_stands_111 (by decide) ?_
          exact ih5039 ((iz + 1), (upd z46 (54 + iz) (z46 iz))) ⟨(show (iz + 1) ≤ 54 by omega), (show CPy (upd z46 (54 + iz) (z46 iz)) g46 54 (iz + 1) from cpy_up k46_ (by omega))⟩ (show 54 - (iz + 1) < 54 - iz by omega)
      · refine j_icmp_geF (pc := 61) C (tgt := 85) d_Model_stands_61 (by decide) (show ¬ nI 7 ≤ nI iz from nI_ge (by omega) (by omega)) ?_
        refine j_aload_n (pc := 64) C d_Model_stands_64 rfl 1 rfl ?_
        refine j_get (pc := 65) C gf_Model_124 0 rfl rfl d_Model_stands_65 ?_
        refine j_bipush (pc := 68) C (v := 7) d_Model_stands_68 (by decide) ?_
        refine j_iload_n (pc := 70) C d_Model_stands_70 rfl 0 rfl ?_
        refine j_iadd (pc := 71) C (v := nI (7 + iz)) d_Model_stands_71 (nI_add _ _) ?_
        refine j_aload_n (pc := 72) C d_Model_stands_72 rfl 1 rfl ?_
        refine j_get (pc := 73) C gf_Model_124 0 rfl rfl d_Model_stands_73 ?_
        refine j_iload_n (pc := 76) C d_Model_stands_76 rfl 0 rfl ?_
        refine j_iald (pc := 77) C 3 rfl (v := z45 iz) (vp_in_nI (by omega) (by decide)) (by rw [nI_clamp (by omega)]) d_Model_stands_77 ?_
        refine j_iast (pc := 78) C 3 rfl (ws' := [MB mo ma (nI t1) i2 i3 i4 i5 i6 i7 i8 i42 i49 (nI cd) i53 i54 i59 i61 i64 i66 (nI t67) i76 i78, (ma 43, .inl (y 0, 8, .inl z43)), (ma 44, .inl (y 1, 36, .inr (.inl z44))), (ma 45, .inl (y 0, 14, .inl (upd z45 (7 + iz) (z45 iz)))), (ma 46, .inl (y 0, 108, .inl g46)), (ma 47, .inl (y 0, 12, .inl g47)), (ma 48, .inl (y 0, 224, .inl g48)), (ma 50, .inl (y 0, 3200, .inl g50)), (ma 55, .inl (y 2, 16, .inl g55)), (ma 56, .inl (y 0, 16, .inl g56)), (ma 57, .inl (y 0, 16, .inl g57)), (ma 58, .inl (y 0, 16, .inl g58)), (ma 62, .inl (y 0, 63, .inl g62))]) (vp_in_nI (by omega) (by decide)) (by rw [nI_clamp (by omega)]; rfl) d_Model_stands_78 ?_
        refine j_iinc (pc := 79) C (v := nI (iz + 1)) (lv' := [(1, .int (nI (iz + 1))), (0, .ref mo)]) d_Model_stands_79 0 rfl (nI_add _ _) (by decide) rfl ?_
        refine j_goto (pc := 82) C (tgt := 58) d_Model_stands_82 (by decide) ?_
        exact ih4703 ((iz + 1), (upd z45 (7 + iz) (z45 iz))) ⟨(show (iz + 1) ≤ 7 by omega), (show CPy (upd z45 (7 + iz) (z45 iz)) g45 7 (iz + 1) from cpy_up k45_ (by omega))⟩ (show 7 - (iz + 1) < 7 - iz by omega)
    · refine j_icmp_geF (pc := 32) C (tgt := 56) d_Model_stands_32 (by decide) (show ¬ nI 18 ≤ nI iz from nI_ge (by omega) (by omega)) ?_
      refine j_aload_n (pc := 35) C d_Model_stands_35 rfl 1 rfl ?_
      refine j_get (pc := 36) C gf_Model_120 0 rfl rfl d_Model_stands_36 ?_
      refine j_bipush (pc := 39) C (v := 18) d_Model_stands_39 (by decide) ?_
      refine j_iload_n (pc := 41) C d_Model_stands_41 rfl 0 rfl ?_
      refine j_iadd (pc := 42) C (v := nI (18 + iz)) d_Model_stands_42 (nI_add _ _) ?_
      refine j_aload_n (pc := 43) C d_Model_stands_43 rfl 1 rfl ?_
      refine j_get (pc := 44) C gf_Model_120 0 rfl rfl d_Model_stands_44 ?_
      refine j_iload_n (pc := 47) C d_Model_stands_47 rfl 0 rfl ?_
      refine j_lald (pc := 48) C 2 rfl (v := z44 iz) (vp_in_nI (by omega) (by decide)) (by rw [nI_clamp (by omega)]) d_Model_stands_48 ?_
      refine j_last (pc := 49) C 2 rfl (ws' := [MB mo ma (nI t1) i2 i3 i4 i5 i6 i7 i8 i42 i49 (nI cd) i53 i54 i59 i61 i64 i66 (nI t67) i76 i78, (ma 43, .inl (y 0, 8, .inl z43)), (ma 44, .inl (y 1, 36, .inr (.inl (vp_updL z44 (18 + iz) (z44 iz))))), (ma 45, .inl (y 0, 14, .inl g45)), (ma 46, .inl (y 0, 108, .inl g46)), (ma 47, .inl (y 0, 12, .inl g47)), (ma 48, .inl (y 0, 224, .inl g48)), (ma 50, .inl (y 0, 3200, .inl g50)), (ma 55, .inl (y 2, 16, .inl g55)), (ma 56, .inl (y 0, 16, .inl g56)), (ma 57, .inl (y 0, 16, .inl g57)), (ma 58, .inl (y 0, 16, .inl g58)), (ma 62, .inl (y 0, 63, .inl g62))]) (vp_in_nI (by omega) (by decide)) (by rw [nI_clamp (by omega)]; rfl) d_Model_stands_49 ?_
      refine j_iinc (pc := 50) C (v := nI (iz + 1)) (lv' := [(1, .int (nI (iz + 1))), (0, .ref mo)]) d_Model_stands_50 0 rfl (nI_add _ _) (by decide) rfl ?_
      refine j_goto (pc := 53) C (tgt := 29) d_Model_stands_53 (by decide) ?_
      exact ih4031 ((iz + 1), (vp_updL z44 (18 + iz) (z44 iz))) ⟨(show (iz + 1) ≤ 18 by omega), (show CPL (vp_updL z44 (18 + iz) (z44 iz)) g44 18 (iz + 1) from cpl_up k44_ (by omega))⟩ (show 18 - (iz + 1) < 18 - iz by omega)
  · refine j_icmp_geF (pc := 4) C (tgt := 27) d_Model_stands_4 (by decide) (show ¬ nI 4 ≤ nI iz from nI_ge (by omega) (by omega)) ?_
    refine j_aload_n (pc := 7) C d_Model_stands_7 rfl 1 rfl ?_
    refine j_get (pc := 8) C gf_Model_117 0 rfl rfl d_Model_stands_8 ?_
    refine j_iconst (pc := 11) C (v := 4) d_Model_stands_11 (by decide) ?_
    refine j_iload_n (pc := 12) C d_Model_stands_12 rfl 0 rfl ?_
    refine j_iadd (pc := 13) C (v := nI (4 + iz)) d_Model_stands_13 (nI_add _ _) ?_
    refine j_aload_n (pc := 14) C d_Model_stands_14 rfl 1 rfl ?_
    refine j_get (pc := 15) C gf_Model_117 0 rfl rfl d_Model_stands_15 ?_
    refine j_iload_n (pc := 18) C d_Model_stands_18 rfl 0 rfl ?_
    refine j_iald (pc := 19) C 1 rfl (v := z43 iz) (vp_in_nI (by omega) (by decide)) (by rw [nI_clamp (by omega)]) d_Model_stands_19 ?_
    refine j_iast (pc := 20) C 1 rfl (ws' := [MB mo ma (nI t1) i2 i3 i4 i5 i6 i7 i8 i42 i49 (nI cd) i53 i54 i59 i61 i64 i66 (nI t67) i76 i78, (ma 43, .inl (y 0, 8, .inl (upd z43 (4 + iz) (z43 iz)))), (ma 44, .inl (y 1, 36, .inr (.inl g44))), (ma 45, .inl (y 0, 14, .inl g45)), (ma 46, .inl (y 0, 108, .inl g46)), (ma 47, .inl (y 0, 12, .inl g47)), (ma 48, .inl (y 0, 224, .inl g48)), (ma 50, .inl (y 0, 3200, .inl g50)), (ma 55, .inl (y 2, 16, .inl g55)), (ma 56, .inl (y 0, 16, .inl g56)), (ma 57, .inl (y 0, 16, .inl g57)), (ma 58, .inl (y 0, 16, .inl g58)), (ma 62, .inl (y 0, 63, .inl g62))]) (vp_in_nI (by omega) (by decide)) (by rw [nI_clamp (by omega)]; rfl) d_Model_stands_20 ?_
    refine j_iinc (pc := 21) C (v := nI (iz + 1)) (lv' := [(1, .int (nI (iz + 1))), (0, .ref mo)]) d_Model_stands_21 0 rfl (nI_add _ _) (by decide) rfl ?_
    refine j_goto (pc := 24) C (tgt := 2) d_Model_stands_24 (by decide) ?_
    exact ih2687 ((iz + 1), (upd z43 (4 + iz) (z43 iz))) ⟨(show (iz + 1) ≤ 4 by omega), (show CPy (upd z43 (4 + iz) (z43 iz)) g43 4 (iz + 1) from cpy_up k43_ (by omega))⟩ (show 4 - (iz + 1) < 4 - iz by omega)
