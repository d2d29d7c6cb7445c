/-- a lake that stands: what its rows must be -/
def LSl (M L G O T F SF SE TE : Nat → Int32) (c0 c1 c2 c3 : Nat) : Prop := (M 4 = nI c0 ∧ M 5 = nI c1 ∧ M 6 = nI c2 ∧ M 7 = nI c3) ∧ (c0 ≤ 9 ∧ c1 ≤ 6 ∧ c2 ≤ 16 ∧ c3 ≤ 8) ∧ ¬ L 7 = 0 ∧ GAl G ∧ OAl O ∧ TAl T ∧ (∀ k, 8 ≤ k → k < 8 + c3 → ∃ a b c, SF k = nI a ∧ SE k = nI b ∧ TE k = nI c ∧ a ≤ b ∧ b ≤ c ∧ c ≤ 1600 ∧ (∃ q, dp F (1600 + a) (b - a) = some q) ∧ (∃ q, dp F (1600 + b) (c - b) = some q))
theorem dp_sh {f g : Nat → Int32} {s : Nat} : ∀ {n}, (∀ i, s ≤ i → i < s + n → f (1600 + i) = g i) → dp f (1600 + s) n = dp g s n := by
  intro n
  induction n with
  | zero => intro _; rfl
  | succ n ih =>
    intro h
    unfold dp
    rw [ih (fun i h1 h2 => h i h1 (by omega)), show 1600 + s + n = 1600 + (s + n) by omega, h (s + n) (by omega) (by omega)]
theorem ga_cp {f g : Nat → Int32} (h : GAl g) (hc : CPy f g 54 54) : GAl f := by
  intro j hj
  rcases Nat.lt_or_ge j 9 with q | q
  · rw [hc.1 (6 * j + 5) (by omega), hc.1 (6 * j) (by omega), hc.1 (6 * j + 1) (by omega)]
    exact h j hj
  · rw [show 6 * j + 5 = 54 + (6 * (j - 9) + 5) by omega, show 6 * j = 54 + 6 * (j - 9) by omega, show 54 + 6 * (j - 9) + 1 = 54 + (6 * (j - 9) + 1) by omega, hc.2 (6 * (j - 9) + 5) (by omega), hc.2 (6 * (j - 9)) (by omega), hc.2 (6 * (j - 9) + 1) (by omega)]
    exact h (j - 9) (by omega)
theorem oa_cp {f g : Nat → Int32} (h : OAl g) (hc : CPy f g 6 6) : OAl f := by
  intro j hj
  rcases Nat.lt_or_ge j 6 with q | q
  · rw [hc.1 j q]
    exact h j hj
  · rw [show j = 6 + (j - 6) by omega, hc.2 (j - 6) (by omega)]
    exact h (j - 6) (by omega)
theorem ta_cp {f g : Nat → Int32} (h : TAl g) (hc : CPy f g 112 112) : TAl f := by
  intro j hj
  rcases Nat.lt_or_ge j 16 with q | q
  · rw [hc.1 (7 * j) (by omega), hc.1 (7 * j + 1) (by omega)]
    exact h j hj
  · rw [show 7 * j = 112 + 7 * (j - 16) by omega, show 112 + 7 * (j - 16) + 1 = 112 + (7 * (j - 16) + 1) by omega, hc.2 (7 * (j - 16)) (by omega), hc.2 (7 * (j - 16) + 1) (by omega)]
    exact h (j - 16) (by omega)
theorem ls_cp {M L G O T F SF SE TE M' L' G' O' T' F' SF' SE' TE' : Nat → Int32} {c0 c1 c2 c3 d0 d1 d2 d3 cd : Nat} (hM : MQl M c0 c1 c2 c3 d0 d1 d2 d3) (hl : ¬ L 0 = 0) (hG : GAl G) (hO : OAl O) (hT : TAl T) (hR : RWl d3 cd F SF SE TE) (hcd : cd ≤ 1600) (k1 : CPy M' M 4 4) (k2 : CPy L' L 7 7) (k3 : CPy G' G 54 54) (k4 : CPy O' O 6 6) (k5 : CPy T' T 112 112) (k6 : CPy SF' SF 8 8) (k7 : CPy SE' SE 8 8) (k8 : CPy TE' TE 8 8) (k9 : CPy F' F 1600 cd) : LSl M' L' G' O' T' F' SF' SE' TE' d0 d1 d2 d3 := by
  obtain ⟨⟨h0, h1, h2, h3⟩, _, b0, b1, b2, b3⟩ := hM
  refine ⟨⟨(k1.2 0 (by omega)).trans h0, (k1.2 1 (by omega)).trans h1, (k1.2 2 (by omega)).trans h2, (k1.2 3 (by omega)).trans h3⟩, ⟨b0, b1, b2, b3⟩, fun e => hl ((k2.2 0 (by omega)).symm.trans e), ga_cp hG k3, oa_cp hO k4, ta_cp hT k5, fun k hk1 hk2 => ?_⟩
  obtain ⟨a, b, c, r1, r2, r3, r4, r5, r6, ⟨q1, r7⟩, ⟨q2, r8⟩⟩ := hR (k - 8) (by omega)
  have e : k = 8 + (k - 8) := by omega
  refine ⟨a, b, c, ?_, ?_, ?_, r4, r5, by omega, ⟨q1, ?_⟩, ⟨q2, ?_⟩⟩
  · rw [e, k6.2 (k - 8) (by omega)]
    exact r1
  · rw [e, k7.2 (k - 8) (by omega)]
    exact r2
  · rw [e, k8.2 (k - 8) (by omega)]
    exact r3
  · rw [dp_sh (g := F) (fun i _ hi => k9.2 i (by omega))]
    exact r7
  · rw [dp_sh (g := F) (fun i _ hi => k9.2 i (by omega))]
    exact r8
theorem ls_keep {M L G O T F SF SE TE M' L' G' O' T' F' SF' SE' TE' : Nat → Int32} {c0 c1 c2 c3 d0 d1 d2 d3 : Nat} (h : LSl M L G O T F SF SE TE c0 c1 c2 c3) (hM : MQl M' c0 c1 c2 c3 d0 d1 d2 d3) (hl : L' 7 = L 7) (hG : GAl G') (hO : OAl O') (hT : TAl T') (hF : ∀ i, 1600 ≤ i → F' i = F i) (h8 : ∀ k, 8 ≤ k → SF' k = SF k ∧ SE' k = SE k ∧ TE' k = TE k) : LSl M' L' G' O' T' F' SF' SE' TE' c0 c1 c2 c3 := by
  obtain ⟨_, hb, h7, _, _, _, hC⟩ := h
  refine ⟨hM.2.1, hb, fun e => h7 (hl.symm.trans e), hG, hO, hT, fun k hk1 hk2 => ?_⟩
  obtain ⟨a, b, c, r1, r2, r3, r4, r5, r6, ⟨q1, r7⟩, ⟨q2, r8⟩⟩ := hC k hk1 hk2
  obtain ⟨s1, s2, s3⟩ := h8 k hk1
  refine ⟨a, b, c, s1.trans r1, s2.trans r2, s3.trans r3, r4, r5, r6, ⟨q1, ?_⟩, ⟨q2, ?_⟩⟩
  · rw [dp_eq (g := F) (fun i h1 _ => hF i (by omega))]
    exact r7
  · rw [dp_eq (g := F) (fun i h1 _ => hF i (by omega))]
    exact r8
/-- names, and what is a word of air, copied likewise -/
def CPL (f g : Nat → Int64) (n i : Nat) : Prop := (∀ j, j < n → f j = g j) ∧ (∀ j, j < i → f (n + j) = g j)
theorem cpl_0 {g : Nat → Int64} {n : Nat} : CPL g g n 0 := ⟨fun _ _ => rfl, fun j hj => absurd hj (by omega)⟩
theorem cpl_up {f g : Nat → Int64} {n i : Nat} (h : CPL f g n i) (hi : i < n) : CPL (vp_updL f (n + i) (f i)) g n (i + 1) := by
  refine ⟨fun j hj => ?_, fun j hj => ?_⟩
  · exact (if_neg (show ¬ j = n + i by omega)).trans (h.1 j hj)
  · by_cases e : j = i
    · subst e
      exact (if_pos rfl).trans (h.1 j hi)
    · exact (if_neg (show ¬ n + j = n + i by omega)).trans (h.2 j (by omega))
def CPB (f g : Nat → Int32) (n i : Nat) : Prop := (∀ j, j < n → f j = g j) ∧ (∀ j, j < i → f (n + j) = vp_nar .boolean (g j))
theorem cpb_0 {g : Nat → Int32} {n : Nat} : CPB g g n 0 := ⟨fun _ _ => rfl, fun j hj => absurd hj (by omega)⟩
theorem cpb_up {f g : Nat → Int32} {n i : Nat} (h : CPB f g n i) (hi : i < n) : CPB (upd f (n + i) (vp_nar .boolean (f i))) g n (i + 1) := by
  refine ⟨fun j hj => ?_, fun j hj => ?_⟩
  · rw [pk_un (by omega)]
    exact h.1 j hj
  · by_cases e : j = i
    · subst e
      rw [pk_us, h.1 j hi]
    · rw [pk_un (by omega)]
      exact h.2 j (by omega)
theorem d_Model_stands_0 : decode prog_13_method_30_code 0 = .ok (.iconst 0, 1) := by decide +kernel
theorem d_Model_stands_1 : decode prog_13_method_30_code 1 = .ok (.istore_n 1, 1) := by decide +kernel
theorem d_Model_stands_2 : decode prog_13_method_30_code 2 = .ok (.iload_n 1, 1) := by decide +kernel
theorem d_Model_stands_3 : decode prog_13_method_30_code 3 = .ok (.iconst 4, 1) := by decide +kernel
theorem d_Model_stands_4 : decode prog_13_method_30_code 4 = .ok (.if_icmp .ge 23, 3) := by decide +kernel
theorem d_Model_stands_27 : decode prog_13_method_30_code 27 = .ok (.iconst 0, 1) := by decide +kernel
theorem d_Model_stands_28 : decode prog_13_method_30_code 28 = .ok (.istore_n 1, 1) := by decide +kernel
theorem d_Model_stands_29 : decode prog_13_method_30_code 29 = .ok (.iload_n 1, 1) := by decide +kernel
theorem d_Model_stands_30 : decode prog_13_method_30_code 30 = .ok (.bipush 18, 2) := by decide +kernel
theorem d_Model_stands_32 : decode prog_13_method_30_code 32 = .ok (.if_icmp .ge 24, 3) := by decide +kernel
theorem d_Model_stands_56 : decode prog_13_method_30_code 56 = .ok (.iconst 0, 1) := by decide +kernel
theorem d_Model_stands_57 : decode prog_13_method_30_code 57 = .ok (.istore_n 1, 1) := by decide +kernel
theorem d_Model_stands_58 : decode prog_13_method_30_code 58 = .ok (.iload_n 1, 1) := by decide +kernel
theorem d_Model_stands_59 : decode prog_13_method_30_code 59 = .ok (.bipush 7, 2) := by decide +kernel
theorem d_Model_stands_61 : decode prog_13_method_30_code 61 = .ok (.if_icmp .ge 24, 3) := by decide +kernel
theorem d_Model_stands_85 : decode prog_13_method_30_code 85 = .ok (.iconst 0, 1) := by decide +kernel
theorem d_Model_stands_86 : decode prog_13_method_30_code 86 = .ok (.istore_n 1, 1) := by decide +kernel
theorem d_Model_stands_87 : decode prog_13_method_30_code 87 = .ok (.iload_n 1, 1) := by decide +kernel
theorem d_Model_stands_88 : decode prog_13_method_30_code 88 = .ok (.bipush 54, 2) := by decide +kernel
theorem d_Model_stands_90 : decode prog_13_method_30_code 90 = .ok (.if_icmp .ge 24, 3) := by decide +kernel
theorem d_Model_stands_114 : decode prog_13_method_30_code 114 = .ok (.iconst 0, 1) := by decide +kernel
theorem d_Model_stands_115 : decode prog_13_method_30_code 115 = .ok (.istore_n 1, 1) := by decide +kernel
theorem d_Model_stands_116 : decode prog_13_method_30_code 116 = .ok (.iload_n 1, 1) := by decide +kernel
theorem d_Model_stands_117 : decode prog_13_method_30_code 117 = .ok (.bipush 6, 2) := by decide +kernel
theorem d_Model_stands_119 : decode prog_13_method_30_code 119 = .ok (.if_icmp .ge 24, 3) := by decide +kernel
theorem d_Model_stands_143 : decode prog_13_method_30_code 143 = .ok (.iconst 0, 1) := by decide +kernel
theorem d_Model_stands_144 : decode prog_13_method_30_code 144 = .ok (.istore_n 1, 1) := by decide +kernel
theorem d_Model_stands_145 : decode prog_13_method_30_code 145 = .ok (.iload_n 1, 1) := by decide +kernel
theorem d_Model_stands_146 : decode prog_13_method_30_code 146 = .ok (.bipush 112, 2) := by decide +kernel
theorem d_Model_stands_148 : decode prog_13_method_30_code 148 = .ok (.if_icmp .ge 24, 3) := by decide +kernel
theorem d_Model_stands_172 : decode prog_13_method_30_code 172 = .ok (.iconst 0, 1) := by decide +kernel
theorem d_Model_stands_173 : decode prog_13_method_30_code 173 = .ok (.istore_n 1, 1) := by decide +kernel
theorem d_Model_stands_174 : decode prog_13_method_30_code 174 = .ok (.iload_n 1, 1) := by decide +kernel
theorem d_Model_stands_175 : decode prog_13_method_30_code 175 = .ok (.bipush 8, 2) := by decide +kernel
theorem d_Model_stands_177 : decode prog_13_method_30_code 177 = .ok (.if_icmp .ge 69, 3) := by decide +kernel
theorem d_Model_stands_246 : decode prog_13_method_30_code 246 = .ok (.iconst 0, 1) := by decide +kernel
theorem d_Model_stands_247 : decode prog_13_method_30_code 247 = .ok (.istore_n 1, 1) := by decide +kernel
theorem d_Model_stands_248 : decode prog_13_method_30_code 248 = .ok (.iload_n 1, 1) := by decide +kernel
theorem d_Model_stands_249 : decode prog_13_method_30_code 249 = .ok (.aload_n 0, 1) := by decide +kernel
theorem d_Model_stands_250 : decode prog_13_method_30_code 250 = .ok (.getfield 289, 3) := by decide +kernel
theorem d_Model_stands_253 : decode prog_13_method_30_code 253 = .ok (.if_icmp .ge 25, 3) := by decide +kernel
theorem d_Model_stands_278 : decode prog_13_method_30_code 278 = .ok (.aload_n 0, 1) := by decide +kernel
theorem d_Model_stands_279 : decode prog_13_method_30_code 279 = .ok (.invokevirtual 338, 3) := by decide +kernel
theorem d_Model_stands_282 : decode prog_13_method_30_code 282 = .ok (.aload_n 0, 1) := by decide +kernel
theorem d_Model_stands_283 : decode prog_13_method_30_code 283 = .ok (.getfield 158, 3) := by decide +kernel
theorem d_Model_stands_286 : decode prog_13_method_30_code 286 = .ok (.iconst 1, 1) := by decide +kernel
theorem d_Model_stands_287 : decode prog_13_method_30_code 287 = .ok (.aload_n 0, 1) := by decide +kernel
theorem d_Model_stands_288 : decode prog_13_method_30_code 288 = .ok (.getfield 124, 3) := by decide +kernel
theorem d_Model_stands_291 : decode prog_13_method_30_code 291 = .ok (.bipush 9, 2) := by decide +kernel
theorem d_Model_stands_293 : decode prog_13_method_30_code 293 = .ok (.iaload, 1) := by decide +kernel
theorem d_Model_stands_294 : decode prog_13_method_30_code 294 = .ok (.iastore, 1) := by decide +kernel
theorem d_Model_stands_295 : decode prog_13_method_30_code 295 = .ok (.aload_n 0, 1) := by decide +kernel
theorem d_Model_stands_296 : decode prog_13_method_30_code 296 = .ok (.getfield 158, 3) := by decide +kernel
theorem d_Model_stands_299 : decode prog_13_method_30_code 299 = .ok (.bipush 30, 2) := by decide +kernel
theorem d_Model_stands_301 : decode prog_13_method_30_code 301 = .ok (.aload_n 0, 1) := by decide +kernel
theorem d_Model_stands_302 : decode prog_13_method_30_code 302 = .ok (.getfield 124, 3) := by decide +kernel
theorem d_Model_stands_305 : decode prog_13_method_30_code 305 = .ok (.bipush 9, 2) := by decide +kernel
theorem d_Model_stands_307 : decode prog_13_method_30_code 307 = .ok (.iaload, 1) := by decide +kernel
theorem d_Model_stands_308 : decode prog_13_method_30_code 308 = .ok (.iastore, 1) := by decide +kernel
theorem d_Model_stands_309 : decode prog_13_method_30_code 309 = .ok (.iconst 0, 1) := by decide +kernel
theorem d_Model_stands_310 : decode prog_13_method_30_code 310 = .ok (.istore_n 1, 1) := by decide +kernel
theorem d_Model_stands_311 : decode prog_13_method_30_code 311 = .ok (.iload_n 1, 1) := by decide +kernel
theorem d_Model_stands_312 : decode prog_13_method_30_code 312 = .ok (.aload_n 0, 1) := by decide +kernel
theorem d_Model_stands_313 : decode prog_13_method_30_code 313 = .ok (.invokevirtual 341, 3) := by decide +kernel
theorem d_Model_stands_316 : decode prog_13_method_30_code 316 = .ok (.if_icmp .ge 31, 3) := by decide +kernel
theorem d_Model_stands_347 : decode prog_13_method_30_code 347 = .ok (.return_, 1) := by decide +kernel
theorem d_Model_stands_319 : decode prog_13_method_30_code 319 = .ok (.aload_n 0, 1) := by decide +kernel
theorem d_Model_stands_320 : decode prog_13_method_30_code 320 = .ok (.getfield 158, 3) := by decide +kernel
theorem d_Model_stands_323 : decode prog_13_method_30_code 323 = .ok (.iconst 3, 1) := by decide +kernel
theorem d_Model_stands_324 : decode prog_13_method_30_code 324 = .ok (.iload_n 1, 1) := by decide +kernel
theorem d_Model_stands_325 : decode prog_13_method_30_code 325 = .ok (.iadd, 1) := by decide +kernel
theorem d_Model_stands_326 : decode prog_13_method_30_code 326 = .ok (.aload_n 0, 1) := by decide +kernel
theorem d_Model_stands_327 : decode prog_13_method_30_code 327 = .ok (.getfield 127, 3) := by decide +kernel
theorem d_Model_stands_330 : decode prog_13_method_30_code 330 = .ok (.bipush 54, 2) := by decide +kernel
theorem d_Model_stands_332 : decode prog_13_method_30_code 332 = .ok (.bipush 6, 2) := by decide +kernel
theorem d_Model_stands_334 : decode prog_13_method_30_code 334 = .ok (.iload_n 1, 1) := by decide +kernel
theorem d_Model_stands_335 : decode prog_13_method_30_code 335 = .ok (.imul, 1) := by decide +kernel
theorem d_Model_stands_336 : decode prog_13_method_30_code 336 = .ok (.iadd, 1) := by decide +kernel
theorem d_Model_stands_337 : decode prog_13_method_30_code 337 = .ok (.iconst 3, 1) := by decide +kernel
theorem d_Model_stands_338 : decode prog_13_method_30_code 338 = .ok (.iadd, 1) := by decide +kernel
theorem d_Model_stands_339 : decode prog_13_method_30_code 339 = .ok (.iaload, 1) := by decide +kernel
theorem d_Model_stands_340 : decode prog_13_method_30_code 340 = .ok (.iastore, 1) := by decide +kernel
theorem d_Model_stands_341 : decode prog_13_method_30_code 341 = .ok (.iinc 1 1, 3) := by decide +kernel
theorem d_Model_stands_344 : decode prog_13_method_30_code 344 = .ok (.goto (-33), 3) := by decide +kernel
theorem d_Model_stands_256 : decode prog_13_method_30_code 256 = .ok (.aload_n 0, 1) := by decide +kernel
theorem d_Model_stands_257 : decode prog_13_method_30_code 257 = .ok (.getfield 136, 3) := by decide +kernel
theorem d_Model_stands_260 : decode prog_13_method_30_code 260 = .ok (.sipush 1600, 3) := by decide +kernel
theorem d_Model_stands_263 : decode prog_13_method_30_code 263 = .ok (.iload_n 1, 1) := by decide +kernel
theorem d_Model_stands_264 : decode prog_13_method_30_code 264 = .ok (.iadd, 1) := by decide +kernel
theorem d_Model_stands_265 : decode prog_13_method_30_code 265 = .ok (.aload_n 0, 1) := by decide +kernel
theorem d_Model_stands_266 : decode prog_13_method_30_code 266 = .ok (.getfield 136, 3) := by decide +kernel
theorem d_Model_stands_269 : decode prog_13_method_30_code 269 = .ok (.iload_n 1, 1) := by decide +kernel
theorem d_Model_stands_270 : decode prog_13_method_30_code 270 = .ok (.iaload, 1) := by decide +kernel
theorem d_Model_stands_271 : decode prog_13_method_30_code 271 = .ok (.iastore, 1) := by decide +kernel
theorem d_Model_stands_272 : decode prog_13_method_30_code 272 = .ok (.iinc 1 1, 3) := by decide +kernel
theorem d_Model_stands_275 : decode prog_13_method_30_code 275 = .ok (.goto (-27), 3) := by decide +kernel
theorem d_Model_stands_180 : decode prog_13_method_30_code 180 = .ok (.aload_n 0, 1) := by decide +kernel
theorem d_Model_stands_181 : decode prog_13_method_30_code 181 = .ok (.getfield 142, 3) := by decide +kernel
theorem d_Model_stands_184 : decode prog_13_method_30_code 184 = .ok (.bipush 8, 2) := by decide +kernel
theorem d_Model_stands_186 : decode prog_13_method_30_code 186 = .ok (.iload_n 1, 1) := by decide +kernel
theorem d_Model_stands_187 : decode prog_13_method_30_code 187 = .ok (.iadd, 1) := by decide +kernel
theorem d_Model_stands_188 : decode prog_13_method_30_code 188 = .ok (.aload_n 0, 1) := by decide +kernel
theorem d_Model_stands_189 : decode prog_13_method_30_code 189 = .ok (.getfield 142, 3) := by decide +kernel
theorem d_Model_stands_192 : decode prog_13_method_30_code 192 = .ok (.iload_n 1, 1) := by decide +kernel
theorem d_Model_stands_193 : decode prog_13_method_30_code 193 = .ok (.baload, 1) := by decide +kernel
theorem d_Model_stands_194 : decode prog_13_method_30_code 194 = .ok (.bastore, 1) := by decide +kernel
theorem d_Model_stands_195 : decode prog_13_method_30_code 195 = .ok (.aload_n 0, 1) := by decide +kernel
theorem d_Model_stands_196 : decode prog_13_method_30_code 196 = .ok (.getfield 146, 3) := by decide +kernel
theorem d_Model_stands_199 : decode prog_13_method_30_code 199 = .ok (.bipush 8, 2) := by decide +kernel
theorem d_Model_stands_201 : decode prog_13_method_30_code 201 = .ok (.iload_n 1, 1) := by decide +kernel
theorem d_Model_stands_202 : decode prog_13_method_30_code 202 = .ok (.iadd, 1) := by decide +kernel
theorem d_Model_stands_203 : decode prog_13_method_30_code 203 = .ok (.aload_n 0, 1) := by decide +kernel
theorem d_Model_stands_204 : decode prog_13_method_30_code 204 = .ok (.getfield 146, 3) := by decide +kernel
theorem d_Model_stands_207 : decode prog_13_method_30_code 207 = .ok (.iload_n 1, 1) := by decide +kernel
theorem d_Model_stands_208 : decode prog_13_method_30_code 208 = .ok (.iaload, 1) := by decide +kernel
theorem d_Model_stands_209 : decode prog_13_method_30_code 209 = .ok (.iastore, 1) := by decide +kernel
theorem d_Model_stands_210 : decode prog_13_method_30_code 210 = .ok (.aload_n 0, 1) := by decide +kernel
theorem d_Model_stands_211 : decode prog_13_method_30_code 211 = .ok (.getfield 149, 3) := by decide +kernel
theorem d_Model_stands_214 : decode prog_13_method_30_code 214 = .ok (.bipush 8, 2) := by decide +kernel
theorem d_Model_stands_216 : decode prog_13_method_30_code 216 = .ok (.iload_n 1, 1) := by decide +kernel
theorem d_Model_stands_217 : decode prog_13_method_30_code 217 = .ok (.iadd, 1) := by decide +kernel
theorem d_Model_stands_218 : decode prog_13_method_30_code 218 = .ok (.aload_n 0, 1) := by decide +kernel
theorem d_Model_stands_219 : decode prog_13_method_30_code 219 = .ok (.getfield 149, 3) := by decide +kernel
theorem d_Model_stands_222 : decode prog_13_method_30_code 222 = .ok (.iload_n 1, 1) := by decide +kernel
theorem d_Model_stands_223 : decode prog_13_method_30_code 223 = .ok (.iaload, 1) := by decide +kernel
theorem d_Model_stands_224 : decode prog_13_method_30_code 224 = .ok (.iastore, 1) := by decide +kernel
theorem d_Model_stands_225 : decode prog_13_method_30_code 225 = .ok (.aload_n 0, 1) := by decide +kernel
theorem d_Model_stands_226 : decode prog_13_method_30_code 226 = .ok (.getfield 152, 3) := by decide +kernel
theorem d_Model_stands_229 : decode prog_13_method_30_code 229 = .ok (.bipush 8, 2) := by decide +kernel
theorem d_Model_stands_231 : decode prog_13_method_30_code 231 = .ok (.iload_n 1, 1) := by decide +kernel
theorem d_Model_stands_232 : decode prog_13_method_30_code 232 = .ok (.iadd, 1) := by decide +kernel
theorem d_Model_stands_233 : decode prog_13_method_30_code 233 = .ok (.aload_n 0, 1) := by decide +kernel
theorem d_Model_stands_234 : decode prog_13_method_30_code 234 = .ok (.getfield 152, 3) := by decide +kernel
theorem d_Model_stands_237 : decode prog_13_method_30_code 237 = .ok (.iload_n 1, 1) := by decide +kernel
theorem d_Model_stands_238 : decode prog_13_method_30_code 238 = .ok (.iaload, 1) := by decide +kernel
theorem d_Model_stands_239 : decode prog_13_method_30_code 239 = .ok (.iastore, 1) := by decide +kernel
theorem d_Model_stands_240 : decode prog_13_method_30_code 240 = .ok (.iinc 1 1, 3) := by decide +kernel
theorem d_Model_stands_243 : decode prog_13_method_30_code 243 = .ok (.goto (-69), 3) := by decide +kernel
theorem d_Model_stands_151 : decode prog_13_method_30_code 151 = .ok (.aload_n 0, 1) := by decide +kernel
theorem d_Model_stands_152 : decode prog_13_method_30_code 152 = .ok (.getfield 133, 3) := by decide +kernel
theorem d_Model_stands_155 : decode prog_13_method_30_code 155 = .ok (.bipush 112, 2) := by decide +kernel
theorem d_Model_stands_157 : decode prog_13_method_30_code 157 = .ok (.iload_n 1, 1) := by decide +kernel
theorem d_Model_stands_158 : decode prog_13_method_30_code 158 = .ok (.iadd, 1) := by decide +kernel
theorem d_Model_stands_159 : decode prog_13_method_30_code 159 = .ok (.aload_n 0, 1) := by decide +kernel
theorem d_Model_stands_160 : decode prog_13_method_30_code 160 = .ok (.getfield 133, 3) := by decide +kernel
theorem d_Model_stands_163 : decode prog_13_method_30_code 163 = .ok (.iload_n 1, 1) := by decide +kernel
theorem d_Model_stands_164 : decode prog_13_method_30_code 164 = .ok (.iaload, 1) := by decide +kernel
theorem d_Model_stands_165 : decode prog_13_method_30_code 165 = .ok (.iastore, 1) := by decide +kernel
theorem d_Model_stands_166 : decode prog_13_method_30_code 166 = .ok (.iinc 1 1, 3) := by decide +kernel
theorem d_Model_stands_169 : decode prog_13_method_30_code 169 = .ok (.goto (-24), 3) := by decide +kernel
theorem d_Model_stands_122 : decode prog_13_method_30_code 122 = .ok (.aload_n 0, 1) := by decide +kernel
theorem d_Model_stands_123 : decode prog_13_method_30_code 123 = .ok (.getfield 130, 3) := by decide +kernel
theorem d_Model_stands_126 : decode prog_13_method_30_code 126 = .ok (.bipush 6, 2) := by decide +kernel
theorem d_Model_stands_128 : decode prog_13_method_30_code 128 = .ok (.iload_n 1, 1) := by decide +kernel
theorem d_Model_stands_129 : decode prog_13_method_30_code 129 = .ok (.iadd, 1) := by decide +kernel
theorem d_Model_stands_130 : decode prog_13_method_30_code 130 = .ok (.aload_n 0, 1) := by decide +kernel
theorem d_Model_stands_131 : decode prog_13_method_30_code 131 = .ok (.getfield 130, 3) := by decide +kernel
theorem d_Model_stands_134 : decode prog_13_method_30_code 134 = .ok (.iload_n 1, 1) := by decide +kernel
theorem d_Model_stands_135 : decode prog_13_method_30_code 135 = .ok (.iaload, 1) := by decide +kernel
theorem d_Model_stands_136 : decode prog_13_method_30_code 136 = .ok (.iastore, 1) := by decide +kernel
theorem d_Model_stands_137 : decode prog_13_method_30_code 137 = .ok (.iinc 1 1, 3) := by decide +kernel
theorem d_Model_stands_140 : decode prog_13_method_30_code 140 = .ok (.goto (-24), 3) := by decide +kernel
theorem d_Model_stands_93 : decode prog_13_method_30_code 93 = .ok (.aload_n 0, 1) := by decide +kernel
theorem d_Model_stands_94 : decode prog_13_method_30_code 94 = .ok (.getfield 127, 3) := by decide +kernel
theorem d_Model_stands_97 : decode prog_13_method_30_code 97 = .ok (.bipush 54, 2) := by decide +kernel
theorem d_Model_stands_99 : decode prog_13_method_30_code 99 = .ok (.iload_n 1, 1) := by decide +kernel
theorem d_Model_stands_100 : decode prog_13_method_30_code 100 = .ok (.iadd, 1) := by decide +kernel
theorem d_Model_stands_101 : decode prog_13_method_30_code 101 = .ok (.aload_n 0, 1) := by decide +kernel
theorem d_Model_stands_102 : decode prog_13_method_30_code 102 = .ok (.getfield 127, 3) := by decide +kernel
theorem d_Model_stands_105 : decode prog_13_method_30_code 105 = .ok (.iload_n 1, 1) := by decide +kernel
theorem d_Model_stands_106 : decode prog_13_method_30_code 106 = .ok (.iaload, 1) := by decide +kernel
theorem d_Model_stands_107 : decode prog_13_method_30_code 107 = .ok (.iastore, 1) := by decide +kernel
theorem d_Model_stands_108 : decode prog_13_method_30_code 108 = .ok (.iinc 1 1, 3) := by decide +kernel
theorem d_Model_stands_111 : decode prog_13_method_30_code 111 = .ok (.goto (-24), 3) := by decide +kernel
theorem d_Model_stands_64 : decode prog_13_method_30_code 64 = .ok (.aload_n 0, 1) := by decide +kernel
theorem d_Model_stands_65 : decode prog_13_method_30_code 65 = .ok (.getfield 124, 3) := by decide +kernel
theorem d_Model_stands_68 : decode prog_13_method_30_code 68 = .ok (.bipush 7, 2) := by decide +kernel
theorem d_Model_stands_70 : decode prog_13_method_30_code 70 = .ok (.iload_n 1, 1) := by decide +kernel
theorem d_Model_stands_71 : decode prog_13_method_30_code 71 = .ok (.iadd, 1) := by decide +kernel
theorem d_Model_stands_72 : decode prog_13_method_30_code 72 = .ok (.aload_n 0, 1) := by decide +kernel
theorem d_Model_stands_73 : decode prog_13_method_30_code 73 = .ok (.getfield 124, 3) := by decide +kernel
theorem d_Model_stands_76 : decode prog_13_method_30_code 76 = .ok (.iload_n 1, 1) := by decide +kernel
theorem d_Model_stands_77 : decode prog_13_method_30_code 77 = .ok (.iaload, 1) := by decide +kernel
theorem d_Model_stands_78 : decode prog_13_method_30_code 78 = .ok (.iastore, 1) := by decide +kernel
theorem d_Model_stands_79 : decode prog_13_method_30_code 79 = .ok (.iinc 1 1, 3) := by decide +kernel
theorem d_Model_stands_82 : decode prog_13_method_30_code 82 = .ok (.goto (-24), 3) := by decide +kernel
theorem d_Model_stands_35 : decode prog_13_method_30_code 35 = .ok (.aload_n 0, 1) := by decide +kernel
theorem d_Model_stands_36 : decode prog_13_method_30_code 36 = .ok (.getfield 120, 3) := by decide +kernel
theorem d_Model_stands_39 : decode prog_13_method_30_code 39 = .ok (.bipush 18, 2) := by decide +kernel
theorem d_Model_stands_41 : decode prog_13_method_30_code 41 = .ok (.iload_n 1, 1) := by decide +kernel
theorem d_Model_stands_42 : decode prog_13_method_30_code 42 = .ok (.iadd, 1) := by decide +kernel
theorem d_Model_stands_43 : decode prog_13_method_30_code 43 = .ok (.aload_n 0, 1) := by decide +kernel
theorem d_Model_stands_44 : decode prog_13_method_30_code 44 = .ok (.getfield 120, 3) := by decide +kernel
theorem d_Model_stands_47 : decode prog_13_method_30_code 47 = .ok (.iload_n 1, 1) := by decide +kernel
theorem d_Model_stands_48 : decode prog_13_method_30_code 48 = .ok (.laload, 1) := by decide +kernel
theorem d_Model_stands_49 : decode prog_13_method_30_code 49 = .ok (.lastore, 1) := by decide +kernel
theorem d_Model_stands_50 : decode prog_13_method_30_code 50 = .ok (.iinc 1 1, 3) := by decide +kernel
theorem d_Model_stands_53 : decode prog_13_method_30_code 53 = .ok (.goto (-24), 3) := by decide +kernel
theorem d_Model_stands_7 : decode prog_13_method_30_code 7 = .ok (.aload_n 0, 1) := by decide +kernel
theorem d_Model_stands_8 : decode prog_13_method_30_code 8 = .ok (.getfield 117, 3) := by decide +kernel
theorem d_Model_stands_11 : decode prog_13_method_30_code 11 = .ok (.iconst 4, 1) := by decide +kernel
theorem d_Model_stands_12 : decode prog_13_method_30_code 12 = .ok (.iload_n 1, 1) := by decide +kernel
theorem d_Model_stands_13 : decode prog_13_method_30_code 13 = .ok (.iadd, 1) := by decide +kernel
theorem d_Model_stands_14 : decode prog_13_method_30_code 14 = .ok (.aload_n 0, 1) := by decide +kernel
theorem d_Model_stands_15 : decode prog_13_method_30_code 15 = .ok (.getfield 117, 3) := by decide +kernel
theorem d_Model_stands_18 : decode prog_13_method_30_code 18 = .ok (.iload_n 1, 1) := by decide +kernel
theorem d_Model_stands_19 : decode prog_13_method_30_code 19 = .ok (.iaload, 1) := by decide +kernel
theorem d_Model_stands_20 : decode prog_13_method_30_code 20 = .ok (.iastore, 1) := by decide +kernel
theorem d_Model_stands_21 : decode prog_13_method_30_code 21 = .ok (.iinc 1 1, 3) := by decide +kernel
theorem d_Model_stands_24 : decode prog_13_method_30_code 24 = .ok (.goto (-22), 3) := by decide +kernel
