/-! ===== the law ===== -/
theorem nI_pl (i k : Nat) : nI i + nI k = nI (i + k) := (Int32.ofNat_add i k).symm
theorem lc_s (x : Int64) : lg_cmp x x = 0 := by
  unfold lg_cmp
  simp
theorem lw_gt {N i : Nat} (hN : N ≤ 4000) (hi : i ≤ 8000) : nI N - 6 < nI i ↔ N < i + 6 := by
  rw [Int32.lt_iff_toInt_lt]
  have e : (nI N - 6).toInt = (N : Int) - 6 := by
    rw [Int32.toInt_sub, nI_toInt (show N < 2 ^ 31 by omega), show (6 : Int32).toInt = 6 from rfl]
    exact Int.bmod_eq_of_le (by omega) (by omega)
  rw [e, nI_toInt (show i < 2 ^ 31 by omega)]
  omega
theorem and31 (x : Int32) : ∃ q : Nat, q < 32 ∧ x &&& 31 = nI q := by
  refine ⟨(x &&& 31).toBitVec.toNat, ?_, ?_⟩
  · rw [Int32.toBitVec_and, BitVec.toNat_and]
    exact Nat.lt_of_le_of_lt Nat.and_le_right (by decide)
  · apply Int32.toBitVec_inj.mp
    apply BitVec.eq_of_toNat_eq
    rw [nI_bv]
    have := (x &&& 31).toBitVec.isLt
    omega
section LAW
variable {E : Ev} {I : Mi} {L : Ml} {Z : Mz} {Q : Po} {N : Nat} {xs : Nat → Int32} {cells slots i : Nat}

theorem law_0 (hE : EXT E N xs) (hI : GI I Z) (hG : GZ Z) (hM : MZ Z) (hN : N ≤ 3072) (hi : i + 6 ≤ N) (hc : cells + 2 ≤ room_1.cells) (hs : slots + 163 ≤ room_1.slots) (H : ∀ I2 L2 Z2, GI I2 Z2 → AW E yL_law cL_law 4 (some .boolean) room_1 Q (cells + 0) (slots + 0) 1113 [some (.retAddr 50), some (.ref 0), some (.ref 48), some (.int (nI i))] [] I2 L2 Z2) : AW E yL_law cL_law 4 (some .boolean) room_1 Q cells slots 164 [some (.retAddr 50), some (.ref 0), some (.ref 48), some (.int (nI i))] [] I L Z := by
  refine aw_aload_n dL_law_164 rfl rfl ?_
  refine aw_aload_n dL_law_165 rfl rfl ?_
  refine aw_iload_n dL_law_166 rfl ?_
  refine aw_iconst (v := 1) dL_law_167 (by decide) ?_
  refine aw_iadd dL_law_168 ?_
  refine aw_sld (i + 1) hE dL_law_169 (nI_pl i 1) (by omega) (by omega) ?_
  refine aw_aload_n dL_law_170 rfl rfl ?_
  refine aw_iload_n dL_law_171 rfl ?_
  refine aw_iconst (v := 2) dL_law_172 (by decide) ?_
  refine aw_iadd dL_law_173 ?_
  refine aw_sld (i + 2) hE dL_law_174 (nI_pl i 2) (by omega) (by omega) ?_
  refine aw_aload_n dL_law_175 rfl rfl ?_
  refine aw_iload_n dL_law_176 rfl ?_
  refine aw_iconst (v := 3) dL_law_177 (by decide) ?_
  refine aw_iadd dL_law_178 ?_
  refine aw_sld (i + 3) hE dL_law_179 (nI_pl i 3) (by omega) (by omega) ?_
  refine aw_callV (ci := 5) (d' := 60) (kc' := 0) (ks' := 0) (As := [.int (xs (i + 1)), .int (xs (i + 2)), .int (xs (i + 3))]) dL_law_180 cw_L_13 ⟨_, _, rfl⟩ hG.1.1 hG.1.2 rfl rfl (by decide) (by omega) (by decide) (pr_set hI (fun rv I1 L1 hm => ?_))
  refine aw_aload_n dL_law_183 rfl rfl ?_
  refine aw_aload_n dL_law_184 rfl rfl ?_
  refine aw_iload_n dL_law_185 rfl ?_
  refine aw_iconst (v := 1) dL_law_186 (by decide) ?_
  refine aw_iadd dL_law_187 ?_
  refine aw_sld (i + 1) hE dL_law_188 (nI_pl i 1) (by omega) (by omega) ?_
  refine aw_aload_n dL_law_189 rfl rfl ?_
  refine aw_iload_n dL_law_190 rfl ?_
  refine aw_iconst (v := 2) dL_law_191 (by decide) ?_
  refine aw_iadd dL_law_192 ?_
  refine aw_sld (i + 2) hE dL_law_193 (nI_pl i 2) (by omega) (by omega) ?_
  refine aw_aload_n dL_law_194 rfl rfl ?_
  refine aw_iload_n dL_law_195 rfl ?_
  refine aw_iconst (v := 3) dL_law_196 (by decide) ?_
  refine aw_iadd dL_law_197 ?_
  refine aw_sld (i + 3) hE dL_law_198 (nI_pl i 3) (by omega) (by omega) ?_
  refine aw_callV (ci := 6) (d' := 60) (kc' := 0) (ks' := 0) (rest := [.int rv]) (As := [.int (xs (i + 1)), .int (xs (i + 2)), .int (xs (i + 3))]) dL_law_199 cw_L_17 ⟨_, _, rfl⟩ hM.1.1 hM.1.2 rfl rfl (by decide) (by omega) (by simp [Value.category]) (hm _ (fun I2 L2 Z2 g2 => ?_))
  exact aw_icmp_eq (tgt := 1113) dL_law_202 (by decide) (fun _ => H _ _ _ g2) (fun w => absurd rfl w)
theorem law_1 (hE : EXT E N xs) (hI : GI I Z) (hG : GZ Z) (hM : MZ Z) (hN : N ≤ 3072) (hi : i + 6 ≤ N) (hc : cells + 2 ≤ room_1.cells) (hs : slots + 163 ≤ room_1.slots) (H : ∀ I2 L2 Z2, GI I2 Z2 → AW E yL_law cL_law 4 (some .boolean) room_1 Q (cells + 0) (slots + 0) 1113 [some (.retAddr 50), some (.ref 0), some (.ref 48), some (.int (nI i))] [] I2 L2 Z2) : AW E yL_law cL_law 4 (some .boolean) room_1 Q cells slots 207 [some (.retAddr 50), some (.ref 0), some (.ref 48), some (.int (nI i))] [] I L Z := by
  refine aw_aload_n dL_law_207 rfl rfl ?_
  refine aw_aload_n dL_law_208 rfl rfl ?_
  refine aw_iload_n dL_law_209 rfl ?_
  refine aw_iconst (v := 1) dL_law_210 (by decide) ?_
  refine aw_iadd dL_law_211 ?_
  refine aw_sld (i + 1) hE dL_law_212 (nI_pl i 1) (by omega) (by omega) ?_
  refine aw_aload_n dL_law_213 rfl rfl ?_
  refine aw_iload_n dL_law_214 rfl ?_
  refine aw_iconst (v := 2) dL_law_215 (by decide) ?_
  refine aw_iadd dL_law_216 ?_
  refine aw_sld (i + 2) hE dL_law_217 (nI_pl i 2) (by omega) (by omega) ?_
  refine aw_callV (ci := 5) (d' := 60) (kc' := 0) (ks' := 0) (As := [.int (xs (i + 1)), .int (xs (i + 2))]) dL_law_218 cw_L_18 ⟨_, _, rfl⟩ hG.1.1 hG.1.2 rfl rfl (by decide) (by omega) (by decide) (pr_cup hI (fun rv I1 L1 hm => ?_))
  refine aw_aload_n dL_law_221 rfl rfl ?_
  refine aw_aload_n dL_law_222 rfl rfl ?_
  refine aw_iload_n dL_law_223 rfl ?_
  refine aw_iconst (v := 1) dL_law_224 (by decide) ?_
  refine aw_iadd dL_law_225 ?_
  refine aw_sld (i + 1) hE dL_law_226 (nI_pl i 1) (by omega) (by omega) ?_
  refine aw_aload_n dL_law_227 rfl rfl ?_
  refine aw_iload_n dL_law_228 rfl ?_
  refine aw_iconst (v := 2) dL_law_229 (by decide) ?_
  refine aw_iadd dL_law_230 ?_
  refine aw_sld (i + 2) hE dL_law_231 (nI_pl i 2) (by omega) (by omega) ?_
  refine aw_callV (ci := 6) (d' := 60) (kc' := 0) (ks' := 0) (rest := [.int rv]) (As := [.int (xs (i + 1)), .int (xs (i + 2))]) dL_law_232 cw_L_22 ⟨_, _, rfl⟩ hM.1.1 hM.1.2 rfl rfl (by decide) (by omega) (by simp [Value.category]) (hm _ (fun I2 L2 Z2 g2 => ?_))
  exact aw_icmp_eq (tgt := 1113) dL_law_235 (by decide) (fun _ => H _ _ _ g2) (fun w => absurd rfl w)
theorem law_2 (hE : EXT E N xs) (hI : GI I Z) (hG : GZ Z) (hM : MZ Z) (hN : N ≤ 3072) (hi : i + 6 ≤ N) (hc : cells + 2 ≤ room_1.cells) (hs : slots + 163 ≤ room_1.slots) (H : ∀ I2 L2 Z2, GI I2 Z2 → AW E yL_law cL_law 4 (some .boolean) room_1 Q (cells + 0) (slots + 0) 1113 [some (.retAddr 50), some (.ref 0), some (.ref 48), some (.int (nI i))] [] I2 L2 Z2) : AW E yL_law cL_law 4 (some .boolean) room_1 Q cells slots 240 [some (.retAddr 50), some (.ref 0), some (.ref 48), some (.int (nI i))] [] I L Z := by
  refine aw_aload_n dL_law_240 rfl rfl ?_
  refine aw_aload_n dL_law_241 rfl rfl ?_
  refine aw_iload_n dL_law_242 rfl ?_
  refine aw_iconst (v := 1) dL_law_243 (by decide) ?_
  refine aw_iadd dL_law_244 ?_
  refine aw_sld (i + 1) hE dL_law_245 (nI_pl i 1) (by omega) (by omega) ?_
  refine aw_aload_n dL_law_246 rfl rfl ?_
  refine aw_iload_n dL_law_247 rfl ?_
  refine aw_iconst (v := 2) dL_law_248 (by decide) ?_
  refine aw_iadd dL_law_249 ?_
  refine aw_sld (i + 2) hE dL_law_250 (nI_pl i 2) (by omega) (by omega) ?_
  refine aw_callV (ci := 5) (d' := 60) (kc' := 0) (ks' := 0) (As := [.int (xs (i + 1)), .int (xs (i + 2))]) dL_law_251 cw_L_23 ⟨_, _, rfl⟩ hG.1.1 hG.1.2 rfl rfl (by decide) (by omega) (by decide) (pr_reason hI (fun rv I1 L1 hm => ?_))
  refine aw_aload_n dL_law_254 rfl rfl ?_
  refine aw_aload_n dL_law_255 rfl rfl ?_
  refine aw_iload_n dL_law_256 rfl ?_
  refine aw_iconst (v := 1) dL_law_257 (by decide) ?_
  refine aw_iadd dL_law_258 ?_
  refine aw_sld (i + 1) hE dL_law_259 (nI_pl i 1) (by omega) (by omega) ?_
  refine aw_aload_n dL_law_260 rfl rfl ?_
  refine aw_iload_n dL_law_261 rfl ?_
  refine aw_iconst (v := 2) dL_law_262 (by decide) ?_
  refine aw_iadd dL_law_263 ?_
  refine aw_sld (i + 2) hE dL_law_264 (nI_pl i 2) (by omega) (by omega) ?_
  refine aw_callV (ci := 6) (d' := 60) (kc' := 0) (ks' := 0) (rest := [.int rv]) (As := [.int (xs (i + 1)), .int (xs (i + 2))]) dL_law_265 cw_L_26 ⟨_, _, rfl⟩ hM.1.1 hM.1.2 rfl rfl (by decide) (by omega) (by simp [Value.category]) (hm _ (fun I2 L2 Z2 g2 => ?_))
  exact aw_icmp_eq (tgt := 1113) dL_law_268 (by decide) (fun _ => H _ _ _ g2) (fun w => absurd rfl w)
theorem law_3 (hE : EXT E N xs) (hI : GI I Z) (hG : GZ Z) (hM : MZ Z) (hN : N ≤ 3072) (hi : i + 6 ≤ N) (hc : cells + 2 ≤ room_1.cells) (hs : slots + 163 ≤ room_1.slots) (H : ∀ I2 L2 Z2, GI I2 Z2 → AW E yL_law cL_law 4 (some .boolean) room_1 Q (cells + 0) (slots + 0) 1113 [some (.retAddr 50), some (.ref 0), some (.ref 48), some (.int (nI i))] [] I2 L2 Z2) : AW E yL_law cL_law 4 (some .boolean) room_1 Q cells slots 273 [some (.retAddr 50), some (.ref 0), some (.ref 48), some (.int (nI i))] [] I L Z := by
  refine aw_aload_n dL_law_273 rfl rfl ?_
  refine aw_callV (ci := 5) (d' := 60) (kc' := 0) (ks' := 0) (As := []) dL_law_274 cw_L_27 ⟨_, _, rfl⟩ hG.1.1 hG.1.2 rfl rfl (by decide) (by omega) (by decide) (pr_unsay hI (fun rv I1 L1 hm => ?_))
  refine aw_aload_n dL_law_277 rfl rfl ?_
  refine aw_callV (ci := 6) (d' := 60) (kc' := 0) (ks' := 0) (rest := [.int rv]) (As := []) dL_law_278 cw_L_31 ⟨_, _, rfl⟩ hM.1.1 hM.1.2 rfl rfl (by decide) (by omega) (by simp [Value.category]) (hm _ (fun I2 L2 Z2 g2 => ?_))
  exact aw_icmp_eq (tgt := 1113) dL_law_281 (by decide) (fun _ => H _ _ _ g2) (fun w => absurd rfl w)
theorem law_4 (hE : EXT E N xs) (hI : GI I Z) (hG : GZ Z) (hM : MZ Z) (hN : N ≤ 3072) (hi : i + 6 ≤ N) (hc : cells + 2 ≤ room_1.cells) (hs : slots + 163 ≤ room_1.slots) (H : ∀ I2 L2 Z2, GI I2 Z2 → AW E yL_law cL_law 4 (some .boolean) room_1 Q (cells + 0) (slots + 0) 1113 [some (.retAddr 50), some (.ref 0), some (.ref 48), some (.int (nI i))] [] I2 L2 Z2) : AW E yL_law cL_law 4 (some .boolean) room_1 Q cells slots 286 [some (.retAddr 50), some (.ref 0), some (.ref 48), some (.int (nI i))] [] I L Z := by
  refine aw_aload_n dL_law_286 rfl rfl ?_
  refine aw_aload_n dL_law_287 rfl rfl ?_
  refine aw_iload_n dL_law_288 rfl ?_
  refine aw_iconst (v := 1) dL_law_289 (by decide) ?_
  refine aw_iadd dL_law_290 ?_
  refine aw_sld (i + 1) hE dL_law_291 (nI_pl i 1) (by omega) (by omega) ?_
  refine aw_aload_n dL_law_292 rfl rfl ?_
  refine aw_iload_n dL_law_293 rfl ?_
  refine aw_iconst (v := 2) dL_law_294 (by decide) ?_
  refine aw_iadd dL_law_295 ?_
  refine aw_sld (i + 2) hE dL_law_296 (nI_pl i 2) (by omega) (by omega) ?_
  refine aw_callV (ci := 5) (d' := 60) (kc' := 0) (ks' := 0) (As := [.int (xs (i + 1)), .int (xs (i + 2))]) dL_law_297 cw_L_32 ⟨_, _, rfl⟩ hG.1.1 hG.1.2 rfl rfl (by decide) (by omega) (by decide) (pr_reader hI (fun rv I1 L1 hm => ?_))
  refine aw_aload_n dL_law_300 rfl rfl ?_
  refine aw_aload_n dL_law_301 rfl rfl ?_
  refine aw_iload_n dL_law_302 rfl ?_
  refine aw_iconst (v := 1) dL_law_303 (by decide) ?_
  refine aw_iadd dL_law_304 ?_
  refine aw_sld (i + 1) hE dL_law_305 (nI_pl i 1) (by omega) (by omega) ?_
  refine aw_aload_n dL_law_306 rfl rfl ?_
  refine aw_iload_n dL_law_307 rfl ?_
  refine aw_iconst (v := 2) dL_law_308 (by decide) ?_
  refine aw_iadd dL_law_309 ?_
  refine aw_sld (i + 2) hE dL_law_310 (nI_pl i 2) (by omega) (by omega) ?_
  refine aw_callV (ci := 6) (d' := 60) (kc' := 0) (ks' := 0) (rest := [.int rv]) (As := [.int (xs (i + 1)), .int (xs (i + 2))]) dL_law_311 cw_L_35 ⟨_, _, rfl⟩ hM.1.1 hM.1.2 rfl rfl (by decide) (by omega) (by simp [Value.category]) (hm _ (fun I2 L2 Z2 g2 => ?_))
  exact aw_icmp_eq (tgt := 1113) dL_law_314 (by decide) (fun _ => H _ _ _ g2) (fun w => absurd rfl w)
theorem law_5 (hE : EXT E N xs) (hI : GI I Z) (hG : GZ Z) (hM : MZ Z) (hN : N ≤ 3072) (hi : i + 6 ≤ N) (hc : cells + 2 ≤ room_1.cells) (hs : slots + 163 ≤ room_1.slots) (H : ∀ I2 L2 Z2, GI I2 Z2 → AW E yL_law cL_law 4 (some .boolean) room_1 Q (cells + 0) (slots + 0) 1113 [some (.retAddr 50), some (.ref 0), some (.ref 48), some (.int (nI i))] [] I2 L2 Z2) : AW E yL_law cL_law 4 (some .boolean) room_1 Q cells slots 319 [some (.retAddr 50), some (.ref 0), some (.ref 48), some (.int (nI i))] [] I L Z := by
  refine aw_aload_n dL_law_319 rfl rfl ?_
  refine aw_aload_n dL_law_320 rfl rfl ?_
  refine aw_iload_n dL_law_321 rfl ?_
  refine aw_iconst (v := 1) dL_law_322 (by decide) ?_
  refine aw_iadd dL_law_323 ?_
  refine aw_sld (i + 1) hE dL_law_324 (nI_pl i 1) (by omega) (by omega) ?_
  refine aw_aload_n dL_law_325 rfl rfl ?_
  refine aw_iload_n dL_law_326 rfl ?_
  refine aw_iconst (v := 2) dL_law_327 (by decide) ?_
  refine aw_iadd dL_law_328 ?_
  refine aw_sld (i + 2) hE dL_law_329 (nI_pl i 2) (by omega) (by omega) ?_
  refine aw_callV (ci := 5) (d' := 60) (kc' := 0) (ks' := 0) (As := [.int (xs (i + 1)), .int (xs (i + 2))]) dL_law_330 cw_L_36 ⟨_, _, rfl⟩ hG.1.1 hG.1.2 rfl rfl (by decide) (by omega) (by decide) (pr_told hI (fun rv I1 L1 hm => ?_))
  refine aw_aload_n dL_law_333 rfl rfl ?_
  refine aw_aload_n dL_law_334 rfl rfl ?_
  refine aw_iload_n dL_law_335 rfl ?_
  refine aw_iconst (v := 1) dL_law_336 (by decide) ?_
  refine aw_iadd dL_law_337 ?_
  refine aw_sld (i + 1) hE dL_law_338 (nI_pl i 1) (by omega) (by omega) ?_
  refine aw_aload_n dL_law_339 rfl rfl ?_
  refine aw_iload_n dL_law_340 rfl ?_
  refine aw_iconst (v := 2) dL_law_341 (by decide) ?_
  refine aw_iadd dL_law_342 ?_
  refine aw_sld (i + 2) hE dL_law_343 (nI_pl i 2) (by omega) (by omega) ?_
  refine aw_callV (ci := 6) (d' := 60) (kc' := 0) (ks' := 0) (rest := [.int rv]) (As := [.int (xs (i + 1)), .int (xs (i + 2))]) dL_law_344 cw_L_39 ⟨_, _, rfl⟩ hM.1.1 hM.1.2 rfl rfl (by decide) (by omega) (by simp [Value.category]) (hm _ (fun I2 L2 Z2 g2 => ?_))
  exact aw_icmp_eq (tgt := 1113) dL_law_347 (by decide) (fun _ => H _ _ _ g2) (fun w => absurd rfl w)
theorem law_6 (hE : EXT E N xs) (hI : GI I Z) (hG : GZ Z) (hM : MZ Z) (hN : N ≤ 3072) (hi : i + 6 ≤ N) (hc : cells + 2 ≤ room_1.cells) (hs : slots + 163 ≤ room_1.slots) (H : ∀ I2 L2 Z2, GI I2 Z2 → AW E yL_law cL_law 4 (some .boolean) room_1 Q (cells + 0) (slots + 0) 1113 [some (.retAddr 50), some (.ref 0), some (.ref 48), some (.int (nI i))] [] I2 L2 Z2) : AW E yL_law cL_law 4 (some .boolean) room_1 Q cells slots 352 [some (.retAddr 50), some (.ref 0), some (.ref 48), some (.int (nI i))] [] I L Z := by
  refine aw_aload_n dL_law_352 rfl rfl ?_
  refine aw_aload_n dL_law_353 rfl rfl ?_
  refine aw_iload_n dL_law_354 rfl ?_
  refine aw_iconst (v := 1) dL_law_355 (by decide) ?_
  refine aw_iadd dL_law_356 ?_
  refine aw_sld (i + 1) hE dL_law_357 (nI_pl i 1) (by omega) (by omega) ?_
  refine aw_aload_n dL_law_358 rfl rfl ?_
  refine aw_iload_n dL_law_359 rfl ?_
  refine aw_iconst (v := 2) dL_law_360 (by decide) ?_
  refine aw_iadd dL_law_361 ?_
  refine aw_sld (i + 2) hE dL_law_362 (nI_pl i 2) (by omega) (by omega) ?_
  refine aw_aload_n dL_law_363 rfl rfl ?_
  refine aw_iload_n dL_law_364 rfl ?_
  refine aw_iconst (v := 3) dL_law_365 (by decide) ?_
  refine aw_iadd dL_law_366 ?_
  refine aw_sld (i + 3) hE dL_law_367 (nI_pl i 3) (by omega) (by omega) ?_
  refine aw_callV (ci := 5) (d' := 60) (kc' := 0) (ks' := 0) (As := [.int (xs (i + 1)), .int (xs (i + 2)), .int (xs (i + 3))]) dL_law_368 cw_L_40 ⟨_, _, rfl⟩ hG.1.1 hG.1.2 rfl rfl (by decide) (by omega) (by decide) (pr_sees hI (fun rv I1 L1 hm => ?_))
  refine aw_aload_n dL_law_371 rfl rfl ?_
  refine aw_aload_n dL_law_372 rfl rfl ?_
  refine aw_iload_n dL_law_373 rfl ?_
  refine aw_iconst (v := 1) dL_law_374 (by decide) ?_
  refine aw_iadd dL_law_375 ?_
  refine aw_sld (i + 1) hE dL_law_376 (nI_pl i 1) (by omega) (by omega) ?_
  refine aw_aload_n dL_law_377 rfl rfl ?_
  refine aw_iload_n dL_law_378 rfl ?_
  refine aw_iconst (v := 2) dL_law_379 (by decide) ?_
  refine aw_iadd dL_law_380 ?_
  refine aw_sld (i + 2) hE dL_law_381 (nI_pl i 2) (by omega) (by omega) ?_
  refine aw_aload_n dL_law_382 rfl rfl ?_
  refine aw_iload_n dL_law_383 rfl ?_
  refine aw_iconst (v := 3) dL_law_384 (by decide) ?_
  refine aw_iadd dL_law_385 ?_
  refine aw_sld (i + 3) hE dL_law_386 (nI_pl i 3) (by omega) (by omega) ?_
  refine aw_callV (ci := 6) (d' := 60) (kc' := 0) (ks' := 0) (rest := [.int rv]) (As := [.int (xs (i + 1)), .int (xs (i + 2)), .int (xs (i + 3))]) dL_law_387 cw_L_43 ⟨_, _, rfl⟩ hM.1.1 hM.1.2 rfl rfl (by decide) (by omega) (by simp [Value.category]) (hm _ (fun I2 L2 Z2 g2 => ?_))
  exact aw_icmp_eq (tgt := 1113) dL_law_390 (by decide) (fun _ => H _ _ _ g2) (fun w => absurd rfl w)
theorem law_7 (hE : EXT E N xs) (hI : GI I Z) (hG : GZ Z) (hM : MZ Z) (hN : N ≤ 3072) (hi : i + 6 ≤ N) (hc : cells + 2 ≤ room_1.cells) (hs : slots + 163 ≤ room_1.slots) (H : ∀ I2 L2 Z2, GI I2 Z2 → AW E yL_law cL_law 4 (some .boolean) room_1 Q (cells + 0) (slots + 0) 1113 [some (.retAddr 50), some (.ref 0), some (.ref 48), some (.int (nI i))] [] I2 L2 Z2) : AW E yL_law cL_law 4 (some .boolean) room_1 Q cells slots 395 [some (.retAddr 50), some (.ref 0), some (.ref 48), some (.int (nI i))] [] I L Z := by
  refine aw_aload_n dL_law_395 rfl rfl ?_
  refine aw_aload_n dL_law_396 rfl rfl ?_
  refine aw_iload_n dL_law_397 rfl ?_
  refine aw_iconst (v := 1) dL_law_398 (by decide) ?_
  refine aw_iadd dL_law_399 ?_
  refine aw_sld (i + 1) hE dL_law_400 (nI_pl i 1) (by omega) (by omega) ?_
  refine aw_callV (ci := 5) (d' := 60) (kc' := 0) (ks' := 0) (As := [.int (xs (i + 1))]) dL_law_401 cw_L_44 ⟨_, _, rfl⟩ hG.1.1 hG.1.2 rfl rfl (by decide) (by omega) (by decide) (pr_feed hI (fun rv I1 L1 hm => ?_))
  refine aw_aload_n dL_law_404 rfl rfl ?_
  refine aw_aload_n dL_law_405 rfl rfl ?_
  refine aw_iload_n dL_law_406 rfl ?_
  refine aw_iconst (v := 1) dL_law_407 (by decide) ?_
  refine aw_iadd dL_law_408 ?_
  refine aw_sld (i + 1) hE dL_law_409 (nI_pl i 1) (by omega) (by omega) ?_
  refine aw_callV (ci := 6) (d' := 60) (kc' := 0) (ks' := 0) (rest := [.int rv]) (As := [.int (xs (i + 1))]) dL_law_410 cw_L_48 ⟨_, _, rfl⟩ hM.1.1 hM.1.2 rfl rfl (by decide) (by omega) (by simp [Value.category]) (hm _ (fun I2 L2 Z2 g2 => ?_))
  exact aw_icmp_eq (tgt := 1113) dL_law_413 (by decide) (fun _ => H _ _ _ g2) (fun w => absurd rfl w)
theorem law_8 (hE : EXT E N xs) (hI : GI I Z) (hG : GZ Z) (hM : MZ Z) (hN : N ≤ 3072) (hi : i + 6 ≤ N) (hc : cells + 2 ≤ room_1.cells) (hs : slots + 163 ≤ room_1.slots) (H : ∀ I2 L2 Z2, GI I2 Z2 → AW E yL_law cL_law 4 (some .boolean) room_1 Q (cells + 2) (slots + 163) 1113 [some (.retAddr 50), some (.ref 0), some (.ref 48), some (.int (nI i))] [] I2 L2 Z2) : AW E yL_law cL_law 4 (some .boolean) room_1 Q cells slots 418 [some (.retAddr 50), some (.ref 0), some (.ref 48), some (.int (nI i))] [] I L Z := by
  refine aw_aload_n dL_law_418 rfl rfl ?_
  refine aw_callV (ci := 5) (d' := 60) (kc' := 2) (ks' := 163) (As := []) dL_law_419 cw_L_49 ⟨_, _, rfl⟩ hG.1.1 hG.1.2 rfl rfl (by decide) (by omega) (by decide) (pr_text hE hI (fun rv I1 L1 Z1 hO hm => ?_))
  refine aw_aload_n dL_law_422 rfl rfl ?_
  refine aw_callV (ci := 6) (d' := 60) (kc' := 0) (ks' := 0) (rest := [.int rv]) (As := []) dL_law_423 cw_L_52 ⟨_, _, rfl⟩ hO.1 hO.2 rfl rfl (by decide) (by omega) (by simp [Value.category]) (hm _ (fun I2 L2 Z2 g2 => ?_))
  exact aw_icmp_eq (tgt := 1113) dL_law_426 (by decide) (fun _ => H _ _ _ g2) (fun w => absurd rfl w)
theorem law_9 (hE : EXT E N xs) (hI : GI I Z) (hG : GZ Z) (hM : MZ Z) (hN : N ≤ 3072) (hi : i + 6 ≤ N) (hc : cells + 2 ≤ room_1.cells) (hs : slots + 163 ≤ room_1.slots) (H : ∀ I2 L2 Z2, GI I2 Z2 → AW E yL_law cL_law 4 (some .boolean) room_1 Q (cells + 0) (slots + 0) 1113 [some (.retAddr 50), some (.ref 0), some (.ref 48), some (.int (nI i))] [] I2 L2 Z2) : AW E yL_law cL_law 4 (some .boolean) room_1 Q cells slots 431 [some (.retAddr 50), some (.ref 0), some (.ref 48), some (.int (nI i))] [] I L Z := by
  refine aw_aload_n dL_law_431 rfl rfl ?_
  refine aw_aload_n dL_law_432 rfl rfl ?_
  refine aw_iload_n dL_law_433 rfl ?_
  refine aw_iconst (v := 1) dL_law_434 (by decide) ?_
  refine aw_iadd dL_law_435 ?_
  refine aw_sld (i + 1) hE dL_law_436 (nI_pl i 1) (by omega) (by omega) ?_
  refine aw_callV (ci := 5) (d' := 60) (kc' := 0) (ks' := 0) (As := [.int (xs (i + 1))]) dL_law_437 cw_L_53 ⟨_, _, rfl⟩ hG.1.1 hG.1.2 rfl rfl (by decide) (by omega) (by decide) (pr_force hI (fun rv I1 L1 hm => ?_))
  refine aw_aload_n dL_law_440 rfl rfl ?_
  refine aw_aload_n dL_law_441 rfl rfl ?_
  refine aw_iload_n dL_law_442 rfl ?_
  refine aw_iconst (v := 1) dL_law_443 (by decide) ?_
  refine aw_iadd dL_law_444 ?_
  refine aw_sld (i + 1) hE dL_law_445 (nI_pl i 1) (by omega) (by omega) ?_
  refine aw_callV (ci := 6) (d' := 60) (kc' := 0) (ks' := 0) (rest := [.int rv]) (As := [.int (xs (i + 1))]) dL_law_446 cw_L_56 ⟨_, _, rfl⟩ hM.1.1 hM.1.2 rfl rfl (by decide) (by omega) (by simp [Value.category]) (hm _ (fun I2 L2 Z2 g2 => ?_))
  exact aw_icmp_eq (tgt := 1113) dL_law_449 (by decide) (fun _ => H _ _ _ g2) (fun w => absurd rfl w)
theorem law_10 (hE : EXT E N xs) (hI : GI I Z) (hG : GZ Z) (hM : MZ Z) (hN : N ≤ 3072) (hi : i + 6 ≤ N) (hc : cells + 2 ≤ room_1.cells) (hs : slots + 163 ≤ room_1.slots) (H : ∀ I2 L2 Z2, GI I2 Z2 → AW E yL_law cL_law 4 (some .boolean) room_1 Q (cells + 0) (slots + 0) 1113 [some (.retAddr 50), some (.ref 0), some (.ref 48), some (.int (nI i))] [] I2 L2 Z2) : AW E yL_law cL_law 4 (some .boolean) room_1 Q cells slots 454 [some (.retAddr 50), some (.ref 0), some (.ref 48), some (.int (nI i))] [] I L Z := by
  refine aw_aload_n dL_law_454 rfl rfl ?_
  refine aw_aload_n dL_law_455 rfl rfl ?_
  refine aw_iload_n dL_law_456 rfl ?_
  refine aw_iconst (v := 1) dL_law_457 (by decide) ?_
  refine aw_iadd dL_law_458 ?_
  refine aw_sld (i + 1) hE dL_law_459 (nI_pl i 1) (by omega) (by omega) ?_
  refine aw_aload_n dL_law_460 rfl rfl ?_
  refine aw_iload_n dL_law_461 rfl ?_
  refine aw_iconst (v := 2) dL_law_462 (by decide) ?_
  refine aw_iadd dL_law_463 ?_
  refine aw_sld (i + 2) hE dL_law_464 (nI_pl i 2) (by omega) (by omega) ?_
  refine aw_callV (ci := 5) (d' := 60) (kc' := 0) (ks' := 0) (As := [.int (xs (i + 1)), .int (xs (i + 2))]) dL_law_465 cw_L_57 ⟨_, _, rfl⟩ hG.1.1 hG.1.2 rfl rfl (by decide) (by omega) (by decide) (pr_read hI (fun rv I1 L1 hm => ?_))
  refine aw_aload_n dL_law_468 rfl rfl ?_
  refine aw_aload_n dL_law_469 rfl rfl ?_
  refine aw_iload_n dL_law_470 rfl ?_
  refine aw_iconst (v := 1) dL_law_471 (by decide) ?_
  refine aw_iadd dL_law_472 ?_
  refine aw_sld (i + 1) hE dL_law_473 (nI_pl i 1) (by omega) (by omega) ?_
  refine aw_aload_n dL_law_474 rfl rfl ?_
  refine aw_iload_n dL_law_475 rfl ?_
  refine aw_iconst (v := 2) dL_law_476 (by decide) ?_
  refine aw_iadd dL_law_477 ?_
  refine aw_sld (i + 2) hE dL_law_478 (nI_pl i 2) (by omega) (by omega) ?_
  refine aw_callV (ci := 6) (d' := 60) (kc' := 0) (ks' := 0) (rest := [.int rv]) (As := [.int (xs (i + 1)), .int (xs (i + 2))]) dL_law_479 cw_L_60 ⟨_, _, rfl⟩ hM.1.1 hM.1.2 rfl rfl (by decide) (by omega) (by simp [Value.category]) (hm _ (fun I2 L2 Z2 g2 => ?_))
  exact aw_icmp_eq (tgt := 1113) dL_law_482 (by decide) (fun _ => H _ _ _ g2) (fun w => absurd rfl w)
theorem law_11 (hE : EXT E N xs) (hI : GI I Z) (hG : GZ Z) (hM : MZ Z) (hN : N ≤ 3072) (hi : i + 6 ≤ N) (hc : cells + 2 ≤ room_1.cells) (hs : slots + 163 ≤ room_1.slots) (H : ∀ I2 L2 Z2, GI I2 Z2 → AW E yL_law cL_law 4 (some .boolean) room_1 Q (cells + 0) (slots + 0) 1113 [some (.retAddr 50), some (.ref 0), some (.ref 48), some (.int (nI i))] [] I2 L2 Z2) : AW E yL_law cL_law 4 (some .boolean) room_1 Q cells slots 487 [some (.retAddr 50), some (.ref 0), some (.ref 48), some (.int (nI i))] [] I L Z := by
  refine aw_aload_n dL_law_487 rfl rfl ?_
  refine aw_aload_n dL_law_488 rfl rfl ?_
  refine aw_iload_n dL_law_489 rfl ?_
  refine aw_iconst (v := 1) dL_law_490 (by decide) ?_
  refine aw_iadd dL_law_491 ?_
  refine aw_sld (i + 1) hE dL_law_492 (nI_pl i 1) (by omega) (by omega) ?_
  refine aw_aload_n dL_law_493 rfl rfl ?_
  refine aw_iload_n dL_law_494 rfl ?_
  refine aw_iconst (v := 2) dL_law_495 (by decide) ?_
  refine aw_iadd dL_law_496 ?_
  refine aw_sld (i + 2) hE dL_law_497 (nI_pl i 2) (by omega) (by omega) ?_
  refine aw_callV (ci := 5) (d' := 60) (kc' := 0) (ks' := 0) (As := [.int (xs (i + 1)), .int (xs (i + 2))]) dL_law_498 cw_L_61 ⟨_, _, rfl⟩ hG.1.1 hG.1.2 rfl rfl (by decide) (by omega) (by decide) (pr_follows hI (fun rv I1 L1 hm => ?_))
  refine aw_aload_n dL_law_501 rfl rfl ?_
  refine aw_aload_n dL_law_502 rfl rfl ?_
  refine aw_iload_n dL_law_503 rfl ?_
  refine aw_iconst (v := 1) dL_law_504 (by decide) ?_
  refine aw_iadd dL_law_505 ?_
  refine aw_sld (i + 1) hE dL_law_506 (nI_pl i 1) (by omega) (by omega) ?_
  refine aw_aload_n dL_law_507 rfl rfl ?_
  refine aw_iload_n dL_law_508 rfl ?_
  refine aw_iconst (v := 2) dL_law_509 (by decide) ?_
  refine aw_iadd dL_law_510 ?_
  refine aw_sld (i + 2) hE dL_law_511 (nI_pl i 2) (by omega) (by omega) ?_
  refine aw_callV (ci := 6) (d' := 60) (kc' := 0) (ks' := 0) (rest := [.int rv]) (As := [.int (xs (i + 1)), .int (xs (i + 2))]) dL_law_512 cw_L_64 ⟨_, _, rfl⟩ hM.1.1 hM.1.2 rfl rfl (by decide) (by omega) (by simp [Value.category]) (hm _ (fun I2 L2 Z2 g2 => ?_))
  exact aw_icmp_eq (tgt := 1113) dL_law_515 (by decide) (fun _ => H _ _ _ g2) (fun w => absurd rfl w)
theorem law_12 (hE : EXT E N xs) (hI : GI I Z) (hG : GZ Z) (hM : MZ Z) (hN : N ≤ 3072) (hi : i + 6 ≤ N) (hc : cells + 2 ≤ room_1.cells) (hs : slots + 163 ≤ room_1.slots) (H : ∀ I2 L2 Z2, GI I2 Z2 → AW E yL_law cL_law 4 (some .boolean) room_1 Q (cells + 0) (slots + 0) 1113 [some (.retAddr 50), some (.ref 0), some (.ref 48), some (.int (nI i))] [] I2 L2 Z2) : AW E yL_law cL_law 4 (some .boolean) room_1 Q cells slots 520 [some (.retAddr 50), some (.ref 0), some (.ref 48), some (.int (nI i))] [] I L Z := by
  refine aw_aload_n dL_law_520 rfl rfl ?_
  refine aw_aload_n dL_law_521 rfl rfl ?_
  refine aw_iload_n dL_law_522 rfl ?_
  refine aw_iconst (v := 1) dL_law_523 (by decide) ?_
  refine aw_iadd dL_law_524 ?_
  refine aw_sld (i + 1) hE dL_law_525 (nI_pl i 1) (by omega) (by omega) ?_
  refine aw_callV (ci := 5) (d' := 60) (kc' := 0) (ks' := 0) (As := [.int (xs (i + 1))]) dL_law_526 cw_L_65 ⟨_, _, rfl⟩ hG.1.1 hG.1.2 rfl rfl (by decide) (by omega) (by decide) (pr_best hI (fun rv I1 L1 hm => ?_))
  refine aw_aload_n dL_law_529 rfl rfl ?_
  refine aw_aload_n dL_law_530 rfl rfl ?_
  refine aw_iload_n dL_law_531 rfl ?_
  refine aw_iconst (v := 1) dL_law_532 (by decide) ?_
  refine aw_iadd dL_law_533 ?_
  refine aw_sld (i + 1) hE dL_law_534 (nI_pl i 1) (by omega) (by omega) ?_
  refine aw_callV (ci := 6) (d' := 60) (kc' := 0) (ks' := 0) (rest := [.int rv]) (As := [.int (xs (i + 1))]) dL_law_535 cw_L_68 ⟨_, _, rfl⟩ hM.1.1 hM.1.2 rfl rfl (by decide) (by omega) (by simp [Value.category]) (hm _ (fun I2 L2 Z2 g2 => ?_))
  exact aw_icmp_eq (tgt := 1113) dL_law_538 (by decide) (fun _ => H _ _ _ g2) (fun w => absurd rfl w)
theorem law_13 (hE : EXT E N xs) (hI : GI I Z) (hG : GZ Z) (hM : MZ Z) (hN : N ≤ 3072) (hi : i + 6 ≤ N) (hc : cells + 2 ≤ room_1.cells) (hs : slots + 163 ≤ room_1.slots) (H : ∀ I2 L2 Z2, GI I2 Z2 → AW E yL_law cL_law 4 (some .boolean) room_1 Q (cells + 0) (slots + 0) 1113 [some (.retAddr 50), some (.ref 0), some (.ref 48), some (.int (nI i))] [] I2 L2 Z2) : AW E yL_law cL_law 4 (some .boolean) room_1 Q cells slots 543 [some (.retAddr 50), some (.ref 0), some (.ref 48), some (.int (nI i))] [] I L Z := by
  refine aw_aload_n dL_law_543 rfl rfl ?_
  refine aw_aload_n dL_law_544 rfl rfl ?_
  refine aw_iload_n dL_law_545 rfl ?_
  refine aw_iconst (v := 1) dL_law_546 (by decide) ?_
  refine aw_iadd dL_law_547 ?_
  refine aw_sld (i + 1) hE dL_law_548 (nI_pl i 1) (by omega) (by omega) ?_
  refine aw_aload_n dL_law_549 rfl rfl ?_
  refine aw_iload_n dL_law_550 rfl ?_
  refine aw_iconst (v := 2) dL_law_551 (by decide) ?_
  refine aw_iadd dL_law_552 ?_
  refine aw_sld (i + 2) hE dL_law_553 (nI_pl i 2) (by omega) (by omega) ?_
  refine aw_callV (ci := 5) (d' := 60) (kc' := 0) (ks' := 0) (As := [.int (xs (i + 1)), .int (xs (i + 2))]) dL_law_554 cw_L_69 ⟨_, _, rfl⟩ hG.1.1 hG.1.2 rfl rfl (by decide) (by omega) (by decide) (pr_why hI (fun rv I1 L1 hm => ?_))
  refine aw_aload_n dL_law_557 rfl rfl ?_
  refine aw_aload_n dL_law_558 rfl rfl ?_
  refine aw_iload_n dL_law_559 rfl ?_
  refine aw_iconst (v := 1) dL_law_560 (by decide) ?_
  refine aw_iadd dL_law_561 ?_
  refine aw_sld (i + 1) hE dL_law_562 (nI_pl i 1) (by omega) (by omega) ?_
  refine aw_aload_n dL_law_563 rfl rfl ?_
  refine aw_iload_n dL_law_564 rfl ?_
  refine aw_iconst (v := 2) dL_law_565 (by decide) ?_
  refine aw_iadd dL_law_566 ?_
  refine aw_sld (i + 2) hE dL_law_567 (nI_pl i 2) (by omega) (by omega) ?_
  refine aw_callV (ci := 6) (d' := 60) (kc' := 0) (ks' := 0) (rest := [.int rv]) (As := [.int (xs (i + 1)), .int (xs (i + 2))]) dL_law_568 cw_L_72 ⟨_, _, rfl⟩ hM.1.1 hM.1.2 rfl rfl (by decide) (by omega) (by simp [Value.category]) (hm _ (fun I2 L2 Z2 g2 => ?_))
  exact aw_icmp_eq (tgt := 1113) dL_law_571 (by decide) (fun _ => H _ _ _ g2) (fun w => absurd rfl w)
theorem law_14 (hE : EXT E N xs) (hI : GI I Z) (hG : GZ Z) (hM : MZ Z) (hN : N ≤ 3072) (hi : i + 6 ≤ N) (hc : cells + 2 ≤ room_1.cells) (hs : slots + 163 ≤ room_1.slots) (H : ∀ I2 L2 Z2, GI I2 Z2 → AW E yL_law cL_law 4 (some .boolean) room_1 Q (cells + 0) (slots + 0) 1113 [some (.retAddr 50), some (.ref 0), some (.ref 48), some (.int (nI i))] [] I2 L2 Z2) : AW E yL_law cL_law 4 (some .boolean) room_1 Q cells slots 576 [some (.retAddr 50), some (.ref 0), some (.ref 48), some (.int (nI i))] [] I L Z := by
  refine aw_aload_n dL_law_576 rfl rfl ?_
  refine aw_aload_n dL_law_577 rfl rfl ?_
  refine aw_iload_n dL_law_578 rfl ?_
  refine aw_iconst (v := 1) dL_law_579 (by decide) ?_
  refine aw_iadd dL_law_580 ?_
  refine aw_sld (i + 1) hE dL_law_581 (nI_pl i 1) (by omega) (by omega) ?_
  refine aw_aload_n dL_law_582 rfl rfl ?_
  refine aw_iload_n dL_law_583 rfl ?_
  refine aw_iconst (v := 2) dL_law_584 (by decide) ?_
  refine aw_iadd dL_law_585 ?_
  refine aw_sld (i + 2) hE dL_law_586 (nI_pl i 2) (by omega) (by omega) ?_
  refine aw_callV (ci := 5) (d' := 60) (kc' := 0) (ks' := 0) (As := [.int (xs (i + 1)), .int (xs (i + 2))]) dL_law_587 cw_L_73 ⟨_, _, rfl⟩ hG.1.1 hG.1.2 rfl rfl (by decide) (by omega) (by decide) (pr_next hI (fun rv I1 L1 hm => ?_))
  refine aw_aload_n dL_law_590 rfl rfl ?_
  refine aw_aload_n dL_law_591 rfl rfl ?_
  refine aw_iload_n dL_law_592 rfl ?_
  refine aw_iconst (v := 1) dL_law_593 (by decide) ?_
  refine aw_iadd dL_law_594 ?_
  refine aw_sld (i + 1) hE dL_law_595 (nI_pl i 1) (by omega) (by omega) ?_
  refine aw_aload_n dL_law_596 rfl rfl ?_
  refine aw_iload_n dL_law_597 rfl ?_
  refine aw_iconst (v := 2) dL_law_598 (by decide) ?_
  refine aw_iadd dL_law_599 ?_
  refine aw_sld (i + 2) hE dL_law_600 (nI_pl i 2) (by omega) (by omega) ?_
  refine aw_callV (ci := 6) (d' := 60) (kc' := 0) (ks' := 0) (rest := [.int rv]) (As := [.int (xs (i + 1)), .int (xs (i + 2))]) dL_law_601 cw_L_76 ⟨_, _, rfl⟩ hM.1.1 hM.1.2 rfl rfl (by decide) (by omega) (by simp [Value.category]) (hm _ (fun I2 L2 Z2 g2 => ?_))
  exact aw_icmp_eq (tgt := 1113) dL_law_604 (by decide) (fun _ => H _ _ _ g2) (fun w => absurd rfl w)
theorem law_15 (hE : EXT E N xs) (hI : GI I Z) (hG : GZ Z) (hM : MZ Z) (hN : N ≤ 3072) (hi : i + 6 ≤ N) (hc : cells + 2 ≤ room_1.cells) (hs : slots + 163 ≤ room_1.slots) (H : ∀ I2 L2 Z2, GI I2 Z2 → AW E yL_law cL_law 4 (some .boolean) room_1 Q (cells + 0) (slots + 0) 1113 [some (.retAddr 50), some (.ref 0), some (.ref 48), some (.int (nI i))] [] I2 L2 Z2) : AW E yL_law cL_law 4 (some .boolean) room_1 Q cells slots 609 [some (.retAddr 50), some (.ref 0), some (.ref 48), some (.int (nI i))] [] I L Z := by
  refine aw_aload_n dL_law_609 rfl rfl ?_
  refine aw_aload_n dL_law_610 rfl rfl ?_
  refine aw_iload_n dL_law_611 rfl ?_
  refine aw_iconst (v := 1) dL_law_612 (by decide) ?_
  refine aw_iadd dL_law_613 ?_
  refine aw_sld (i + 1) hE dL_law_614 (nI_pl i 1) (by omega) (by omega) ?_
  refine aw_aload_n dL_law_615 rfl rfl ?_
  refine aw_iload_n dL_law_616 rfl ?_
  refine aw_iconst (v := 2) dL_law_617 (by decide) ?_
  refine aw_iadd dL_law_618 ?_
  refine aw_sld (i + 2) hE dL_law_619 (nI_pl i 2) (by omega) (by omega) ?_
  refine aw_callV (ci := 5) (d' := 60) (kc' := 0) (ks' := 0) (As := [.int (xs (i + 1)), .int (xs (i + 2))]) dL_law_620 cw_L_77 ⟨_, _, rfl⟩ hG.1.1 hG.1.2 rfl rfl (by decide) (by omega) (by decide) (pr_alike hI (fun rv I1 L1 hm => ?_))
  refine aw_aload_n dL_law_623 rfl rfl ?_
  refine aw_aload_n dL_law_624 rfl rfl ?_
  refine aw_iload_n dL_law_625 rfl ?_
  refine aw_iconst (v := 1) dL_law_626 (by decide) ?_
  refine aw_iadd dL_law_627 ?_
  refine aw_sld (i + 1) hE dL_law_628 (nI_pl i 1) (by omega) (by omega) ?_
  refine aw_aload_n dL_law_629 rfl rfl ?_
  refine aw_iload_n dL_law_630 rfl ?_
  refine aw_iconst (v := 2) dL_law_631 (by decide) ?_
  refine aw_iadd dL_law_632 ?_
  refine aw_sld (i + 2) hE dL_law_633 (nI_pl i 2) (by omega) (by omega) ?_
  refine aw_callV (ci := 6) (d' := 60) (kc' := 0) (ks' := 0) (rest := [.int rv]) (As := [.int (xs (i + 1)), .int (xs (i + 2))]) dL_law_634 cw_L_80 ⟨_, _, rfl⟩ hM.1.1 hM.1.2 rfl rfl (by decide) (by omega) (by simp [Value.category]) (hm _ (fun I2 L2 Z2 g2 => ?_))
  exact aw_icmp_eq (tgt := 1113) dL_law_637 (by decide) (fun _ => H _ _ _ g2) (fun w => absurd rfl w)
theorem law_16 (hE : EXT E N xs) (hI : GI I Z) (hG : GZ Z) (hM : MZ Z) (hN : N ≤ 3072) (hi : i + 6 ≤ N) (hc : cells + 2 ≤ room_1.cells) (hs : slots + 163 ≤ room_1.slots) (H : ∀ I2 L2 Z2, GI I2 Z2 → AW E yL_law cL_law 4 (some .boolean) room_1 Q (cells + 0) (slots + 0) 1113 [some (.retAddr 50), some (.ref 0), some (.ref 48), some (.int (nI i))] [] I2 L2 Z2) : AW E yL_law cL_law 4 (some .boolean) room_1 Q cells slots 642 [some (.retAddr 50), some (.ref 0), some (.ref 48), some (.int (nI i))] [] I L Z := by
  refine aw_aload_n dL_law_642 rfl rfl ?_
  refine aw_aload_n dL_law_643 rfl rfl ?_
  refine aw_iload_n dL_law_644 rfl ?_
  refine aw_iconst (v := 1) dL_law_645 (by decide) ?_
  refine aw_iadd dL_law_646 ?_
  refine aw_sld (i + 1) hE dL_law_647 (nI_pl i 1) (by omega) (by omega) ?_
  refine aw_callV (ci := 5) (d' := 60) (kc' := 0) (ks' := 0) (As := [.int (xs (i + 1))]) dL_law_648 cw_L_81 ⟨_, _, rfl⟩ hG.1.1 hG.1.2 rfl rfl (by decide) (by omega) (by decide) (pr_share hI (fun rv I1 L1 hm => ?_))
  refine aw_aload_n dL_law_651 rfl rfl ?_
  refine aw_aload_n dL_law_652 rfl rfl ?_
  refine aw_iload_n dL_law_653 rfl ?_
  refine aw_iconst (v := 1) dL_law_654 (by decide) ?_
  refine aw_iadd dL_law_655 ?_
  refine aw_sld (i + 1) hE dL_law_656 (nI_pl i 1) (by omega) (by omega) ?_
  refine aw_callV (ci := 6) (d' := 60) (kc' := 0) (ks' := 0) (rest := [.long rv]) (As := [.int (xs (i + 1))]) dL_law_657 cw_L_85 ⟨_, _, rfl⟩ hM.1.1 hM.1.2 rfl rfl (by decide) (by omega) (by simp [Value.category]) (hm _ (fun I2 L2 Z2 g2 => ?_))
  refine aw_lcmp dL_law_660 ?_
  exact aw_if_eq (tgt := 1113) dL_law_661 (by decide) (fun _ => H _ _ _ g2) (fun w => absurd (lc_s _) w)
theorem law_17 (hE : EXT E N xs) (hI : GI I Z) (hG : GZ Z) (hM : MZ Z) (hN : N ≤ 3072) (hi : i + 6 ≤ N) (hc : cells + 2 ≤ room_1.cells) (hs : slots + 163 ≤ room_1.slots) (H : ∀ I2 L2 Z2, GI I2 Z2 → AW E yL_law cL_law 4 (some .boolean) room_1 Q (cells + 0) (slots + 0) 1113 [some (.retAddr 50), some (.ref 0), some (.ref 48), some (.int (nI i))] [] I2 L2 Z2) : AW E yL_law cL_law 4 (some .boolean) room_1 Q cells slots 666 [some (.retAddr 50), some (.ref 0), some (.ref 48), some (.int (nI i))] [] I L Z := by
  refine aw_aload_n dL_law_666 rfl rfl ?_
  refine aw_aload_n dL_law_667 rfl rfl ?_
  refine aw_iload_n dL_law_668 rfl ?_
  refine aw_iconst (v := 1) dL_law_669 (by decide) ?_
  refine aw_iadd dL_law_670 ?_
  refine aw_sld (i + 1) hE dL_law_671 (nI_pl i 1) (by omega) (by omega) ?_
  refine aw_aload_n dL_law_672 rfl rfl ?_
  refine aw_iload_n dL_law_673 rfl ?_
  refine aw_iconst (v := 2) dL_law_674 (by decide) ?_
  refine aw_iadd dL_law_675 ?_
  refine aw_sld (i + 2) hE dL_law_676 (nI_pl i 2) (by omega) (by omega) ?_
  refine aw_aload_n dL_law_677 rfl rfl ?_
  refine aw_iload_n dL_law_678 rfl ?_
  refine aw_iconst (v := 3) dL_law_679 (by decide) ?_
  refine aw_iadd dL_law_680 ?_
  refine aw_sld (i + 3) hE dL_law_681 (nI_pl i 3) (by omega) (by omega) ?_
  refine aw_callV (ci := 5) (d' := 60) (kc' := 0) (ks' := 0) (As := [.int (xs (i + 1)), .int (xs (i + 2)), .int (xs (i + 3))]) dL_law_682 cw_L_86 ⟨_, _, rfl⟩ hG.1.1 hG.1.2 rfl rfl (by decide) (by omega) (by decide) (pr_tells hI (fun rv I1 L1 hm => ?_))
  refine aw_aload_n dL_law_685 rfl rfl ?_
  refine aw_aload_n dL_law_686 rfl rfl ?_
  refine aw_iload_n dL_law_687 rfl ?_
  refine aw_iconst (v := 1) dL_law_688 (by decide) ?_
  refine aw_iadd dL_law_689 ?_
  refine aw_sld (i + 1) hE dL_law_690 (nI_pl i 1) (by omega) (by omega) ?_
  refine aw_aload_n dL_law_691 rfl rfl ?_
  refine aw_iload_n dL_law_692 rfl ?_
  refine aw_iconst (v := 2) dL_law_693 (by decide) ?_
  refine aw_iadd dL_law_694 ?_
  refine aw_sld (i + 2) hE dL_law_695 (nI_pl i 2) (by omega) (by omega) ?_
  refine aw_aload_n dL_law_696 rfl rfl ?_
  refine aw_iload_n dL_law_697 rfl ?_
  refine aw_iconst (v := 3) dL_law_698 (by decide) ?_
  refine aw_iadd dL_law_699 ?_
  refine aw_sld (i + 3) hE dL_law_700 (nI_pl i 3) (by omega) (by omega) ?_
  refine aw_callV (ci := 6) (d' := 60) (kc' := 0) (ks' := 0) (rest := [.int rv]) (As := [.int (xs (i + 1)), .int (xs (i + 2)), .int (xs (i + 3))]) dL_law_701 cw_L_89 ⟨_, _, rfl⟩ hM.1.1 hM.1.2 rfl rfl (by decide) (by omega) (by simp [Value.category]) (hm _ (fun I2 L2 Z2 g2 => ?_))
  exact aw_icmp_eq (tgt := 1113) dL_law_704 (by decide) (fun _ => H _ _ _ g2) (fun w => absurd rfl w)
theorem law_18 (hE : EXT E N xs) (hI : GI I Z) (hG : GZ Z) (hM : MZ Z) (hN : N ≤ 3072) (hi : i + 6 ≤ N) (hc : cells + 2 ≤ room_1.cells) (hs : slots + 163 ≤ room_1.slots) (H : ∀ I2 L2 Z2, GI I2 Z2 → AW E yL_law cL_law 4 (some .boolean) room_1 Q (cells + 0) (slots + 0) 1113 [some (.retAddr 50), some (.ref 0), some (.ref 48), some (.int (nI i))] [] I2 L2 Z2) : AW E yL_law cL_law 4 (some .boolean) room_1 Q cells slots 709 [some (.retAddr 50), some (.ref 0), some (.ref 48), some (.int (nI i))] [] I L Z := by
  refine aw_aload_n dL_law_709 rfl rfl ?_
  refine aw_aload_n dL_law_710 rfl rfl ?_
  refine aw_iload_n dL_law_711 rfl ?_
  refine aw_iconst (v := 1) dL_law_712 (by decide) ?_
  refine aw_iadd dL_law_713 ?_
  refine aw_sld (i + 1) hE dL_law_714 (nI_pl i 1) (by omega) (by omega) ?_
  refine aw_aload_n dL_law_715 rfl rfl ?_
  refine aw_iload_n dL_law_716 rfl ?_
  refine aw_iconst (v := 2) dL_law_717 (by decide) ?_
  refine aw_iadd dL_law_718 ?_
  refine aw_sld (i + 2) hE dL_law_719 (nI_pl i 2) (by omega) (by omega) ?_
  refine aw_callV (ci := 5) (d' := 60) (kc' := 0) (ks' := 0) (As := [.int (xs (i + 1)), .int (xs (i + 2))]) dL_law_720 cw_L_90 ⟨_, _, rfl⟩ hG.1.1 hG.1.2 rfl rfl (by decide) (by omega) (by decide) (pr_film hI (fun rv I1 L1 hm => ?_))
  refine aw_aload_n dL_law_723 rfl rfl ?_
  refine aw_aload_n dL_law_724 rfl rfl ?_
  refine aw_iload_n dL_law_725 rfl ?_
  refine aw_iconst (v := 1) dL_law_726 (by decide) ?_
  refine aw_iadd dL_law_727 ?_
  refine aw_sld (i + 1) hE dL_law_728 (nI_pl i 1) (by omega) (by omega) ?_
  refine aw_aload_n dL_law_729 rfl rfl ?_
  refine aw_iload_n dL_law_730 rfl ?_
  refine aw_iconst (v := 2) dL_law_731 (by decide) ?_
  refine aw_iadd dL_law_732 ?_
  refine aw_sld (i + 2) hE dL_law_733 (nI_pl i 2) (by omega) (by omega) ?_
  refine aw_callV (ci := 6) (d' := 60) (kc' := 0) (ks' := 0) (rest := [.int rv]) (As := [.int (xs (i + 1)), .int (xs (i + 2))]) dL_law_734 cw_L_93 ⟨_, _, rfl⟩ hM.1.1 hM.1.2 rfl rfl (by decide) (by omega) (by simp [Value.category]) (hm _ (fun I2 L2 Z2 g2 => ?_))
  exact aw_icmp_eq (tgt := 1113) dL_law_737 (by decide) (fun _ => H _ _ _ g2) (fun w => absurd rfl w)
theorem law_19 (hE : EXT E N xs) (hI : GI I Z) (hG : GZ Z) (hM : MZ Z) (hN : N ≤ 3072) (hi : i + 6 ≤ N) (hc : cells + 2 ≤ room_1.cells) (hs : slots + 163 ≤ room_1.slots) (H : ∀ I2 L2 Z2, GI I2 Z2 → AW E yL_law cL_law 4 (some .boolean) room_1 Q (cells + 0) (slots + 0) 1113 [some (.retAddr 50), some (.ref 0), some (.ref 48), some (.int (nI i))] [] I2 L2 Z2) : AW E yL_law cL_law 4 (some .boolean) room_1 Q cells slots 742 [some (.retAddr 50), some (.ref 0), some (.ref 48), some (.int (nI i))] [] I L Z := by
  refine aw_aload_n dL_law_742 rfl rfl ?_
  refine aw_aload_n dL_law_743 rfl rfl ?_
  refine aw_iload_n dL_law_744 rfl ?_
  refine aw_iconst (v := 1) dL_law_745 (by decide) ?_
  refine aw_iadd dL_law_746 ?_
  refine aw_sld (i + 1) hE dL_law_747 (nI_pl i 1) (by omega) (by omega) ?_
  refine aw_aload_n dL_law_748 rfl rfl ?_
  refine aw_iload_n dL_law_749 rfl ?_
  refine aw_iconst (v := 2) dL_law_750 (by decide) ?_
  refine aw_iadd dL_law_751 ?_
  refine aw_sld (i + 2) hE dL_law_752 (nI_pl i 2) (by omega) (by omega) ?_
  refine aw_callV (ci := 5) (d' := 60) (kc' := 0) (ks' := 0) (As := [.int (xs (i + 1)), .int (xs (i + 2))]) dL_law_753 cw_L_94 ⟨_, _, rfl⟩ hG.1.1 hG.1.2 rfl rfl (by decide) (by omega) (by decide) (pr_drawn hI (fun rv I1 L1 hm => ?_))
  refine aw_aload_n dL_law_756 rfl rfl ?_
  refine aw_aload_n dL_law_757 rfl rfl ?_
  refine aw_iload_n dL_law_758 rfl ?_
  refine aw_iconst (v := 1) dL_law_759 (by decide) ?_
  refine aw_iadd dL_law_760 ?_
  refine aw_sld (i + 1) hE dL_law_761 (nI_pl i 1) (by omega) (by omega) ?_
  refine aw_aload_n dL_law_762 rfl rfl ?_
  refine aw_iload_n dL_law_763 rfl ?_
  refine aw_iconst (v := 2) dL_law_764 (by decide) ?_
  refine aw_iadd dL_law_765 ?_
  refine aw_sld (i + 2) hE dL_law_766 (nI_pl i 2) (by omega) (by omega) ?_
  refine aw_callV (ci := 6) (d' := 60) (kc' := 0) (ks' := 0) (rest := [.int rv]) (As := [.int (xs (i + 1)), .int (xs (i + 2))]) dL_law_767 cw_L_97 ⟨_, _, rfl⟩ hM.1.1 hM.1.2 rfl rfl (by decide) (by omega) (by simp [Value.category]) (hm _ (fun I2 L2 Z2 g2 => ?_))
  exact aw_icmp_eq (tgt := 1113) dL_law_770 (by decide) (fun _ => H _ _ _ g2) (fun w => absurd rfl w)
theorem law_20 (hE : EXT E N xs) (hI : GI I Z) (hG : GZ Z) (hM : MZ Z) (hN : N ≤ 3072) (hi : i + 6 ≤ N) (hc : cells + 2 ≤ room_1.cells) (hs : slots + 163 ≤ room_1.slots) (H : ∀ I2 L2 Z2, GI I2 Z2 → AW E yL_law cL_law 4 (some .boolean) room_1 Q (cells + 0) (slots + 0) 1113 [some (.retAddr 50), some (.ref 0), some (.ref 48), some (.int (nI i))] [] I2 L2 Z2) : AW E yL_law cL_law 4 (some .boolean) room_1 Q cells slots 775 [some (.retAddr 50), some (.ref 0), some (.ref 48), some (.int (nI i))] [] I L Z := by
  refine aw_aload_n dL_law_775 rfl rfl ?_
  refine aw_aload_n dL_law_776 rfl rfl ?_
  refine aw_iload_n dL_law_777 rfl ?_
  refine aw_iconst (v := 1) dL_law_778 (by decide) ?_
  refine aw_iadd dL_law_779 ?_
  refine aw_sld (i + 1) hE dL_law_780 (nI_pl i 1) (by omega) (by omega) ?_
  refine aw_aload_n dL_law_781 rfl rfl ?_
  refine aw_iload_n dL_law_782 rfl ?_
  refine aw_iconst (v := 2) dL_law_783 (by decide) ?_
  refine aw_iadd dL_law_784 ?_
  refine aw_sld (i + 2) hE dL_law_785 (nI_pl i 2) (by omega) (by omega) ?_
  refine aw_aload_n dL_law_786 rfl rfl ?_
  refine aw_iload_n dL_law_787 rfl ?_
  refine aw_iconst (v := 3) dL_law_788 (by decide) ?_
  refine aw_iadd dL_law_789 ?_
  refine aw_sld (i + 3) hE dL_law_790 (nI_pl i 3) (by omega) (by omega) ?_
  refine aw_aload_n dL_law_791 rfl rfl ?_
  refine aw_iload_n dL_law_792 rfl ?_
  refine aw_iconst (v := 4) dL_law_793 (by decide) ?_
  refine aw_iadd dL_law_794 ?_
  refine aw_sld (i + 4) hE dL_law_795 (nI_pl i 4) (by omega) (by omega) ?_
  refine aw_callV (ci := 5) (d' := 60) (kc' := 0) (ks' := 0) (As := [.int (xs (i + 1)), .int (xs (i + 2)), .int (xs (i + 3)), .int (xs (i + 4))]) dL_law_796 cw_L_98 ⟨_, _, rfl⟩ hG.1.1 hG.1.2 rfl rfl (by decide) (by omega) (by decide) (pr_chance hI (fun rv I1 L1 hm => ?_))
  refine aw_aload_n dL_law_799 rfl rfl ?_
  refine aw_aload_n dL_law_800 rfl rfl ?_
  refine aw_iload_n dL_law_801 rfl ?_
  refine aw_iconst (v := 1) dL_law_802 (by decide) ?_
  refine aw_iadd dL_law_803 ?_
  refine aw_sld (i + 1) hE dL_law_804 (nI_pl i 1) (by omega) (by omega) ?_
  refine aw_aload_n dL_law_805 rfl rfl ?_
  refine aw_iload_n dL_law_806 rfl ?_
  refine aw_iconst (v := 2) dL_law_807 (by decide) ?_
  refine aw_iadd dL_law_808 ?_
  refine aw_sld (i + 2) hE dL_law_809 (nI_pl i 2) (by omega) (by omega) ?_
  refine aw_aload_n dL_law_810 rfl rfl ?_
  refine aw_iload_n dL_law_811 rfl ?_
  refine aw_iconst (v := 3) dL_law_812 (by decide) ?_
  refine aw_iadd dL_law_813 ?_
  refine aw_sld (i + 3) hE dL_law_814 (nI_pl i 3) (by omega) (by omega) ?_
  refine aw_aload_n dL_law_815 rfl rfl ?_
  refine aw_iload_n dL_law_816 rfl ?_
  refine aw_iconst (v := 4) dL_law_817 (by decide) ?_
  refine aw_iadd dL_law_818 ?_
  refine aw_sld (i + 4) hE dL_law_819 (nI_pl i 4) (by omega) (by omega) ?_
  refine aw_callV (ci := 6) (d' := 60) (kc' := 0) (ks' := 0) (rest := [.long rv]) (As := [.int (xs (i + 1)), .int (xs (i + 2)), .int (xs (i + 3)), .int (xs (i + 4))]) dL_law_820 cw_L_102 ⟨_, _, rfl⟩ hM.1.1 hM.1.2 rfl rfl (by decide) (by omega) (by simp [Value.category]) (hm _ (fun I2 L2 Z2 g2 => ?_))
  refine aw_lcmp dL_law_823 ?_
  exact aw_if_eq (tgt := 1113) dL_law_824 (by decide) (fun _ => H _ _ _ g2) (fun w => absurd (lc_s _) w)
theorem law_21 (hE : EXT E N xs) (hI : GI I Z) (hG : GZ Z) (hM : MZ Z) (hN : N ≤ 3072) (hi : i + 6 ≤ N) (hc : cells + 2 ≤ room_1.cells) (hs : slots + 163 ≤ room_1.slots) (H : ∀ I2 L2 Z2, GI I2 Z2 → AW E yL_law cL_law 4 (some .boolean) room_1 Q (cells + 0) (slots + 0) 1113 [some (.retAddr 50), some (.ref 0), some (.ref 48), some (.int (nI i))] [] I2 L2 Z2) : AW E yL_law cL_law 4 (some .boolean) room_1 Q cells slots 829 [some (.retAddr 50), some (.ref 0), some (.ref 48), some (.int (nI i))] [] I L Z := by
  refine aw_aload_n dL_law_829 rfl rfl ?_
  refine aw_callV (ci := 5) (d' := 60) (kc' := 0) (ks' := 0) (As := []) dL_law_830 cw_L_103 ⟨_, _, rfl⟩ hG.1.1 hG.1.2 rfl rfl (by decide) (by omega) (by decide) (pr_image hI (fun rv I1 L1 hm => ?_))
  refine aw_aload_n dL_law_833 rfl rfl ?_
  refine aw_callV (ci := 6) (d' := 60) (kc' := 0) (ks' := 0) (rest := [.int rv]) (As := []) dL_law_834 cw_L_106 ⟨_, _, rfl⟩ hM.1.1 hM.1.2 rfl rfl (by decide) (by omega) (by simp [Value.category]) (hm _ (fun I2 L2 Z2 g2 => ?_))
  exact aw_icmp_eq (tgt := 1113) dL_law_837 (by decide) (fun _ => H _ _ _ g2) (fun w => absurd rfl w)
theorem law_22 (hE : EXT E N xs) (hI : GI I Z) (hG : GZ Z) (hM : MZ Z) (hN : N ≤ 3072) (hi : i + 6 ≤ N) (hc : cells + 2 ≤ room_1.cells) (hs : slots + 163 ≤ room_1.slots) (H : ∀ I2 L2 Z2, GI I2 Z2 → AW E yL_law cL_law 4 (some .boolean) room_1 Q (cells + 0) (slots + 0) 1113 [some (.retAddr 50), some (.ref 0), some (.ref 48), some (.int (nI i))] [] I2 L2 Z2) : AW E yL_law cL_law 4 (some .boolean) room_1 Q cells slots 842 [some (.retAddr 50), some (.ref 0), some (.ref 48), some (.int (nI i))] [] I L Z := by
  refine aw_aload_n dL_law_842 rfl rfl ?_
  refine aw_callV (ci := 5) (d' := 60) (kc' := 0) (ks' := 0) (As := []) dL_law_843 cw_L_107 ⟨_, _, rfl⟩ hG.1.1 hG.1.2 rfl rfl (by decide) (by omega) (by decide) (pr_back hI (fun rv I1 L1 hm => ?_))
  refine aw_aload_n dL_law_846 rfl rfl ?_
  refine aw_callV (ci := 6) (d' := 60) (kc' := 0) (ks' := 0) (rest := [.int rv]) (As := []) dL_law_847 cw_L_110 ⟨_, _, rfl⟩ hM.1.1 hM.1.2 rfl rfl (by decide) (by omega) (by simp [Value.category]) (hm _ (fun I2 L2 Z2 g2 => ?_))
  exact aw_icmp_eq (tgt := 1113) dL_law_850 (by decide) (fun _ => H _ _ _ g2) (fun w => absurd rfl w)
theorem law_23 (hE : EXT E N xs) (hI : GI I Z) (hG : GZ Z) (hM : MZ Z) (hN : N ≤ 3072) (hi : i + 6 ≤ N) (hc : cells + 2 ≤ room_1.cells) (hs : slots + 163 ≤ room_1.slots) (H : ∀ I2 L2 Z2, GI I2 Z2 → AW E yL_law cL_law 4 (some .boolean) room_1 Q (cells + 0) (slots + 0) 1113 [some (.retAddr 50), some (.ref 0), some (.ref 48), some (.int (nI i))] [] I2 L2 Z2) : AW E yL_law cL_law 4 (some .boolean) room_1 Q cells slots 855 [some (.retAddr 50), some (.ref 0), some (.ref 48), some (.int (nI i))] [] I L Z := by
  refine aw_aload_n dL_law_855 rfl rfl ?_
  refine aw_aload_n dL_law_856 rfl rfl ?_
  refine aw_iload_n dL_law_857 rfl ?_
  refine aw_iconst (v := 1) dL_law_858 (by decide) ?_
  refine aw_iadd dL_law_859 ?_
  refine aw_sld (i + 1) hE dL_law_860 (nI_pl i 1) (by omega) (by omega) ?_
  refine aw_callV (ci := 5) (d' := 60) (kc' := 0) (ks' := 0) (As := [.int (xs (i + 1))]) dL_law_861 cw_L_111 ⟨_, _, rfl⟩ hG.1.1 hG.1.2 rfl rfl (by decide) (by omega) (by decide) (pr_count hI (fun rv I1 L1 hm => ?_))
  refine aw_aload_n dL_law_864 rfl rfl ?_
  refine aw_aload_n dL_law_865 rfl rfl ?_
  refine aw_iload_n dL_law_866 rfl ?_
  refine aw_iconst (v := 1) dL_law_867 (by decide) ?_
  refine aw_iadd dL_law_868 ?_
  refine aw_sld (i + 1) hE dL_law_869 (nI_pl i 1) (by omega) (by omega) ?_
  refine aw_callV (ci := 6) (d' := 60) (kc' := 0) (ks' := 0) (rest := [.int rv]) (As := [.int (xs (i + 1))]) dL_law_870 cw_L_114 ⟨_, _, rfl⟩ hM.1.1 hM.1.2 rfl rfl (by decide) (by omega) (by simp [Value.category]) (hm _ (fun I2 L2 Z2 g2 => ?_))
  exact aw_icmp_eq (tgt := 1113) dL_law_873 (by decide) (fun _ => H _ _ _ g2) (fun w => absurd rfl w)
theorem law_24 (hE : EXT E N xs) (hI : GI I Z) (hG : GZ Z) (hM : MZ Z) (hN : N ≤ 3072) (hi : i + 6 ≤ N) (hc : cells + 2 ≤ room_1.cells) (hs : slots + 163 ≤ room_1.slots) (H : ∀ I2 L2 Z2, GI I2 Z2 → AW E yL_law cL_law 4 (some .boolean) room_1 Q (cells + 0) (slots + 0) 1113 [some (.retAddr 50), some (.ref 0), some (.ref 48), some (.int (nI i))] [] I2 L2 Z2) : AW E yL_law cL_law 4 (some .boolean) room_1 Q cells slots 878 [some (.retAddr 50), some (.ref 0), some (.ref 48), some (.int (nI i))] [] I L Z := by
  refine aw_aload_n dL_law_878 rfl rfl ?_
  refine aw_aload_n dL_law_879 rfl rfl ?_
  refine aw_iload_n dL_law_880 rfl ?_
  refine aw_iconst (v := 1) dL_law_881 (by decide) ?_
  refine aw_iadd dL_law_882 ?_
  refine aw_sld (i + 1) hE dL_law_883 (nI_pl i 1) (by omega) (by omega) ?_
  refine aw_aload_n dL_law_884 rfl rfl ?_
  refine aw_iload_n dL_law_885 rfl ?_
  refine aw_iconst (v := 2) dL_law_886 (by decide) ?_
  refine aw_iadd dL_law_887 ?_
  refine aw_sld (i + 2) hE dL_law_888 (nI_pl i 2) (by omega) (by omega) ?_
  refine aw_aload_n dL_law_889 rfl rfl ?_
  refine aw_iload_n dL_law_890 rfl ?_
  refine aw_iconst (v := 3) dL_law_891 (by decide) ?_
  refine aw_iadd dL_law_892 ?_
  refine aw_sld (i + 3) hE dL_law_893 (nI_pl i 3) (by omega) (by omega) ?_
  refine aw_callV (ci := 5) (d' := 60) (kc' := 0) (ks' := 0) (As := [.int (xs (i + 1)), .int (xs (i + 2)), .int (xs (i + 3))]) dL_law_894 cw_L_115 ⟨_, _, rfl⟩ hG.1.1 hG.1.2 rfl rfl (by decide) (by omega) (by decide) (pr_sheet hI (fun rv I1 L1 hm => ?_))
  refine aw_aload_n dL_law_897 rfl rfl ?_
  refine aw_aload_n dL_law_898 rfl rfl ?_
  refine aw_iload_n dL_law_899 rfl ?_
  refine aw_iconst (v := 1) dL_law_900 (by decide) ?_
  refine aw_iadd dL_law_901 ?_
  refine aw_sld (i + 1) hE dL_law_902 (nI_pl i 1) (by omega) (by omega) ?_
  refine aw_aload_n dL_law_903 rfl rfl ?_
  refine aw_iload_n dL_law_904 rfl ?_
  refine aw_iconst (v := 2) dL_law_905 (by decide) ?_
  refine aw_iadd dL_law_906 ?_
  refine aw_sld (i + 2) hE dL_law_907 (nI_pl i 2) (by omega) (by omega) ?_
  refine aw_aload_n dL_law_908 rfl rfl ?_
  refine aw_iload_n dL_law_909 rfl ?_
  refine aw_iconst (v := 3) dL_law_910 (by decide) ?_
  refine aw_iadd dL_law_911 ?_
  refine aw_sld (i + 3) hE dL_law_912 (nI_pl i 3) (by omega) (by omega) ?_
  refine aw_callV (ci := 6) (d' := 60) (kc' := 0) (ks' := 0) (rest := [.int rv]) (As := [.int (xs (i + 1)), .int (xs (i + 2)), .int (xs (i + 3))]) dL_law_913 cw_L_118 ⟨_, _, rfl⟩ hM.1.1 hM.1.2 rfl rfl (by decide) (by omega) (by simp [Value.category]) (hm _ (fun I2 L2 Z2 g2 => ?_))
  exact aw_icmp_eq (tgt := 1113) dL_law_916 (by decide) (fun _ => H _ _ _ g2) (fun w => absurd rfl w)
theorem law_25 (hE : EXT E N xs) (hI : GI I Z) (hG : GZ Z) (hM : MZ Z) (hN : N ≤ 3072) (hi : i + 6 ≤ N) (hc : cells + 2 ≤ room_1.cells) (hs : slots + 163 ≤ room_1.slots) (H : ∀ I2 L2 Z2, GI I2 Z2 → AW E yL_law cL_law 4 (some .boolean) room_1 Q (cells + 0) (slots + 0) 1113 [some (.retAddr 50), some (.ref 0), some (.ref 48), some (.int (nI i))] [] I2 L2 Z2) : AW E yL_law cL_law 4 (some .boolean) room_1 Q cells slots 921 [some (.retAddr 50), some (.ref 0), some (.ref 48), some (.int (nI i))] [] I L Z := by
  refine aw_aload_n dL_law_921 rfl rfl ?_
  refine aw_aload_n dL_law_922 rfl rfl ?_
  refine aw_iload_n dL_law_923 rfl ?_
  refine aw_iconst (v := 1) dL_law_924 (by decide) ?_
  refine aw_iadd dL_law_925 ?_
  refine aw_sld (i + 1) hE dL_law_926 (nI_pl i 1) (by omega) (by omega) ?_
  refine aw_aload_n dL_law_927 rfl rfl ?_
  refine aw_iload_n dL_law_928 rfl ?_
  refine aw_iconst (v := 2) dL_law_929 (by decide) ?_
  refine aw_iadd dL_law_930 ?_
  refine aw_sld (i + 2) hE dL_law_931 (nI_pl i 2) (by omega) (by omega) ?_
  refine aw_aload_n dL_law_932 rfl rfl ?_
  refine aw_iload_n dL_law_933 rfl ?_
  refine aw_iconst (v := 3) dL_law_934 (by decide) ?_
  refine aw_iadd dL_law_935 ?_
  refine aw_sld (i + 3) hE dL_law_936 (nI_pl i 3) (by omega) (by omega) ?_
  refine aw_callV (ci := 5) (d' := 60) (kc' := 0) (ks' := 0) (As := [.int (xs (i + 1)), .int (xs (i + 2)), .int (xs (i + 3))]) dL_law_937 cw_L_119 ⟨_, _, rfl⟩ hG.1.1 hG.1.2 rfl rfl (by decide) (by omega) (by decide) (pr_cell hI (fun rv I1 L1 hm => ?_))
  refine aw_aload_n dL_law_940 rfl rfl ?_
  refine aw_aload_n dL_law_941 rfl rfl ?_
  refine aw_iload_n dL_law_942 rfl ?_
  refine aw_iconst (v := 1) dL_law_943 (by decide) ?_
  refine aw_iadd dL_law_944 ?_
  refine aw_sld (i + 1) hE dL_law_945 (nI_pl i 1) (by omega) (by omega) ?_
  refine aw_aload_n dL_law_946 rfl rfl ?_
  refine aw_iload_n dL_law_947 rfl ?_
  refine aw_iconst (v := 2) dL_law_948 (by decide) ?_
  refine aw_iadd dL_law_949 ?_
  refine aw_sld (i + 2) hE dL_law_950 (nI_pl i 2) (by omega) (by omega) ?_
  refine aw_aload_n dL_law_951 rfl rfl ?_
  refine aw_iload_n dL_law_952 rfl ?_
  refine aw_iconst (v := 3) dL_law_953 (by decide) ?_
  refine aw_iadd dL_law_954 ?_
  refine aw_sld (i + 3) hE dL_law_955 (nI_pl i 3) (by omega) (by omega) ?_
  refine aw_callV (ci := 6) (d' := 60) (kc' := 0) (ks' := 0) (rest := [.int rv]) (As := [.int (xs (i + 1)), .int (xs (i + 2)), .int (xs (i + 3))]) dL_law_956 cw_L_122 ⟨_, _, rfl⟩ hM.1.1 hM.1.2 rfl rfl (by decide) (by omega) (by simp [Value.category]) (hm _ (fun I2 L2 Z2 g2 => ?_))
  exact aw_icmp_eq (tgt := 1113) dL_law_959 (by decide) (fun _ => H _ _ _ g2) (fun w => absurd rfl w)
theorem law_26 (hE : EXT E N xs) (hI : GI I Z) (hG : GZ Z) (hM : MZ Z) (hN : N ≤ 3072) (hi : i + 6 ≤ N) (hc : cells + 2 ≤ room_1.cells) (hs : slots + 163 ≤ room_1.slots) (H : ∀ I2 L2 Z2, GI I2 Z2 → AW E yL_law cL_law 4 (some .boolean) room_1 Q (cells + 0) (slots + 0) 1113 [some (.retAddr 50), some (.ref 0), some (.ref 48), some (.int (nI i))] [] I2 L2 Z2) : AW E yL_law cL_law 4 (some .boolean) room_1 Q cells slots 964 [some (.retAddr 50), some (.ref 0), some (.ref 48), some (.int (nI i))] [] I L Z := by
  refine aw_aload_n dL_law_964 rfl rfl ?_
  refine aw_aload_n dL_law_965 rfl rfl ?_
  refine aw_iload_n dL_law_966 rfl ?_
  refine aw_iconst (v := 1) dL_law_967 (by decide) ?_
  refine aw_iadd dL_law_968 ?_
  refine aw_sld (i + 1) hE dL_law_969 (nI_pl i 1) (by omega) (by omega) ?_
  refine aw_aload_n dL_law_970 rfl rfl ?_
  refine aw_iload_n dL_law_971 rfl ?_
  refine aw_iconst (v := 2) dL_law_972 (by decide) ?_
  refine aw_iadd dL_law_973 ?_
  refine aw_sld (i + 2) hE dL_law_974 (nI_pl i 2) (by omega) (by omega) ?_
  refine aw_aload_n dL_law_975 rfl rfl ?_
  refine aw_iload_n dL_law_976 rfl ?_
  refine aw_iconst (v := 3) dL_law_977 (by decide) ?_
  refine aw_iadd dL_law_978 ?_
  refine aw_sld (i + 3) hE dL_law_979 (nI_pl i 3) (by omega) (by omega) ?_
  refine aw_aload_n dL_law_980 rfl rfl ?_
  refine aw_iload_n dL_law_981 rfl ?_
  refine aw_iconst (v := 4) dL_law_982 (by decide) ?_
  refine aw_iadd dL_law_983 ?_
  refine aw_sld (i + 4) hE dL_law_984 (nI_pl i 4) (by omega) (by omega) ?_
  refine aw_aload_n dL_law_985 rfl rfl ?_
  refine aw_iload_n dL_law_986 rfl ?_
  refine aw_iconst (v := 5) dL_law_987 (by decide) ?_
  refine aw_iadd dL_law_988 ?_
  refine aw_sld (i + 5) hE dL_law_989 (nI_pl i 5) (by omega) (by omega) ?_
  refine aw_callV (ci := 5) (d' := 60) (kc' := 0) (ks' := 0) (As := [.int (xs (i + 1)), .int (xs (i + 2)), .int (xs (i + 3)), .int (xs (i + 4)), .int (xs (i + 5))]) dL_law_990 cw_L_123 ⟨_, _, rfl⟩ hG.1.1 hG.1.2 rfl rfl (by decide) (by omega) (by decide) (pr_copy hI (fun rv I1 L1 hm => ?_))
  refine aw_aload_n dL_law_993 rfl rfl ?_
  refine aw_aload_n dL_law_994 rfl rfl ?_
  refine aw_iload_n dL_law_995 rfl ?_
  refine aw_iconst (v := 1) dL_law_996 (by decide) ?_
  refine aw_iadd dL_law_997 ?_
  refine aw_sld (i + 1) hE dL_law_998 (nI_pl i 1) (by omega) (by omega) ?_
  refine aw_aload_n dL_law_999 rfl rfl ?_
  refine aw_iload_n dL_law_1000 rfl ?_
  refine aw_iconst (v := 2) dL_law_1001 (by decide) ?_
  refine aw_iadd dL_law_1002 ?_
  refine aw_sld (i + 2) hE dL_law_1003 (nI_pl i 2) (by omega) (by omega) ?_
  refine aw_aload_n dL_law_1004 rfl rfl ?_
  refine aw_iload_n dL_law_1005 rfl ?_
  refine aw_iconst (v := 3) dL_law_1006 (by decide) ?_
  refine aw_iadd dL_law_1007 ?_
  refine aw_sld (i + 3) hE dL_law_1008 (nI_pl i 3) (by omega) (by omega) ?_
  refine aw_aload_n dL_law_1009 rfl rfl ?_
  refine aw_iload_n dL_law_1010 rfl ?_
  refine aw_iconst (v := 4) dL_law_1011 (by decide) ?_
  refine aw_iadd dL_law_1012 ?_
  refine aw_sld (i + 4) hE dL_law_1013 (nI_pl i 4) (by omega) (by omega) ?_
  refine aw_aload_n dL_law_1014 rfl rfl ?_
  refine aw_iload_n dL_law_1015 rfl ?_
  refine aw_iconst (v := 5) dL_law_1016 (by decide) ?_
  refine aw_iadd dL_law_1017 ?_
  refine aw_sld (i + 5) hE dL_law_1018 (nI_pl i 5) (by omega) (by omega) ?_
  refine aw_callV (ci := 6) (d' := 60) (kc' := 0) (ks' := 0) (rest := [.int rv]) (As := [.int (xs (i + 1)), .int (xs (i + 2)), .int (xs (i + 3)), .int (xs (i + 4)), .int (xs (i + 5))]) dL_law_1019 cw_L_127 ⟨_, _, rfl⟩ hM.1.1 hM.1.2 rfl rfl (by decide) (by omega) (by simp [Value.category]) (hm _ (fun I2 L2 Z2 g2 => ?_))
  exact aw_icmp_eq (tgt := 1113) dL_law_1022 (by decide) (fun _ => H _ _ _ g2) (fun w => absurd rfl w)
theorem law_27 (hE : EXT E N xs) (hI : GI I Z) (hG : GZ Z) (hM : MZ Z) (hN : N ≤ 3072) (hi : i + 6 ≤ N) (hc : cells + 2 ≤ room_1.cells) (hs : slots + 163 ≤ room_1.slots) (H : ∀ I2 L2 Z2, GI I2 Z2 → AW E yL_law cL_law 4 (some .boolean) room_1 Q (cells + 0) (slots + 0) 1113 [some (.retAddr 50), some (.ref 0), some (.ref 48), some (.int (nI i))] [] I2 L2 Z2) : AW E yL_law cL_law 4 (some .boolean) room_1 Q cells slots 1027 [some (.retAddr 50), some (.ref 0), some (.ref 48), some (.int (nI i))] [] I L Z := by
  refine aw_aload_n dL_law_1027 rfl rfl ?_
  refine aw_aload_n dL_law_1028 rfl rfl ?_
  refine aw_iload_n dL_law_1029 rfl ?_
  refine aw_iconst (v := 1) dL_law_1030 (by decide) ?_
  refine aw_iadd dL_law_1031 ?_
  refine aw_sld (i + 1) hE dL_law_1032 (nI_pl i 1) (by omega) (by omega) ?_
  refine aw_aload_n dL_law_1033 rfl rfl ?_
  refine aw_iload_n dL_law_1034 rfl ?_
  refine aw_iconst (v := 2) dL_law_1035 (by decide) ?_
  refine aw_iadd dL_law_1036 ?_
  refine aw_sld (i + 2) hE dL_law_1037 (nI_pl i 2) (by omega) (by omega) ?_
  refine aw_aload_n dL_law_1038 rfl rfl ?_
  refine aw_iload_n dL_law_1039 rfl ?_
  refine aw_iconst (v := 3) dL_law_1040 (by decide) ?_
  refine aw_iadd dL_law_1041 ?_
  refine aw_sld (i + 3) hE dL_law_1042 (nI_pl i 3) (by omega) (by omega) ?_
  refine aw_aload_n dL_law_1043 rfl rfl ?_
  refine aw_iload_n dL_law_1044 rfl ?_
  refine aw_iconst (v := 4) dL_law_1045 (by decide) ?_
  refine aw_iadd dL_law_1046 ?_
  refine aw_sld (i + 4) hE dL_law_1047 (nI_pl i 4) (by omega) (by omega) ?_
  refine aw_callV (ci := 5) (d' := 60) (kc' := 0) (ks' := 0) (As := [.int (xs (i + 1)), .int (xs (i + 2)), .int (xs (i + 3)), .int (xs (i + 4))]) dL_law_1048 cw_L_128 ⟨_, _, rfl⟩ hG.1.1 hG.1.2 rfl rfl (by decide) (by omega) (by decide) (pr_house hI (fun rv I1 L1 hm => ?_))
  refine aw_aload_n dL_law_1051 rfl rfl ?_
  refine aw_aload_n dL_law_1052 rfl rfl ?_
  refine aw_iload_n dL_law_1053 rfl ?_
  refine aw_iconst (v := 1) dL_law_1054 (by decide) ?_
  refine aw_iadd dL_law_1055 ?_
  refine aw_sld (i + 1) hE dL_law_1056 (nI_pl i 1) (by omega) (by omega) ?_
  refine aw_aload_n dL_law_1057 rfl rfl ?_
  refine aw_iload_n dL_law_1058 rfl ?_
  refine aw_iconst (v := 2) dL_law_1059 (by decide) ?_
  refine aw_iadd dL_law_1060 ?_
  refine aw_sld (i + 2) hE dL_law_1061 (nI_pl i 2) (by omega) (by omega) ?_
  refine aw_aload_n dL_law_1062 rfl rfl ?_
  refine aw_iload_n dL_law_1063 rfl ?_
  refine aw_iconst (v := 3) dL_law_1064 (by decide) ?_
  refine aw_iadd dL_law_1065 ?_
  refine aw_sld (i + 3) hE dL_law_1066 (nI_pl i 3) (by omega) (by omega) ?_
  refine aw_aload_n dL_law_1067 rfl rfl ?_
  refine aw_iload_n dL_law_1068 rfl ?_
  refine aw_iconst (v := 4) dL_law_1069 (by decide) ?_
  refine aw_iadd dL_law_1070 ?_
  refine aw_sld (i + 4) hE dL_law_1071 (nI_pl i 4) (by omega) (by omega) ?_
  refine aw_callV (ci := 6) (d' := 60) (kc' := 0) (ks' := 0) (rest := [.int rv]) (As := [.int (xs (i + 1)), .int (xs (i + 2)), .int (xs (i + 3)), .int (xs (i + 4))]) dL_law_1072 cw_L_132 ⟨_, _, rfl⟩ hM.1.1 hM.1.2 rfl rfl (by decide) (by omega) (by simp [Value.category]) (hm _ (fun I2 L2 Z2 g2 => ?_))
  exact aw_icmp_eq (tgt := 1113) dL_law_1075 (by decide) (fun _ => H _ _ _ g2) (fun w => absurd rfl w)
theorem law_28 (hE : EXT E N xs) (hI : GI I Z) (hG : GZ Z) (hM : MZ Z) (hN : N ≤ 3072) (hi : i + 6 ≤ N) (hc : cells + 2 ≤ room_1.cells) (hs : slots + 163 ≤ room_1.slots) (H : ∀ I2 L2 Z2, GI I2 Z2 → AW E yL_law cL_law 4 (some .boolean) room_1 Q (cells + 0) (slots + 0) 1113 [some (.retAddr 50), some (.ref 0), some (.ref 48), some (.int (nI i))] [] I2 L2 Z2) : AW E yL_law cL_law 4 (some .boolean) room_1 Q cells slots 1080 [some (.retAddr 50), some (.ref 0), some (.ref 48), some (.int (nI i))] [] I L Z := by
  refine aw_aload_n dL_law_1080 rfl rfl ?_
  refine aw_aload_n dL_law_1081 rfl rfl ?_
  refine aw_iload_n dL_law_1082 rfl ?_
  refine aw_iconst (v := 1) dL_law_1083 (by decide) ?_
  refine aw_iadd dL_law_1084 ?_
  refine aw_sld (i + 1) hE dL_law_1085 (nI_pl i 1) (by omega) (by omega) ?_
  refine aw_aload_n dL_law_1086 rfl rfl ?_
  refine aw_iload_n dL_law_1087 rfl ?_
  refine aw_iconst (v := 2) dL_law_1088 (by decide) ?_
  refine aw_iadd dL_law_1089 ?_
  refine aw_sld (i + 2) hE dL_law_1090 (nI_pl i 2) (by omega) (by omega) ?_
  refine aw_callV (ci := 5) (d' := 60) (kc' := 0) (ks' := 0) (As := [.int (xs (i + 1)), .int (xs (i + 2))]) dL_law_1091 cw_L_133 ⟨_, _, rfl⟩ hG.1.1 hG.1.2 rfl rfl (by decide) (by omega) (by decide) (pr_taken hE hI (fun rv I1 L1 hm => ?_))
  refine aw_aload_n dL_law_1094 rfl rfl ?_
  refine aw_aload_n dL_law_1095 rfl rfl ?_
  refine aw_iload_n dL_law_1096 rfl ?_
  refine aw_iconst (v := 1) dL_law_1097 (by decide) ?_
  refine aw_iadd dL_law_1098 ?_
  refine aw_sld (i + 1) hE dL_law_1099 (nI_pl i 1) (by omega) (by omega) ?_
  refine aw_aload_n dL_law_1100 rfl rfl ?_
  refine aw_iload_n dL_law_1101 rfl ?_
  refine aw_iconst (v := 2) dL_law_1102 (by decide) ?_
  refine aw_iadd dL_law_1103 ?_
  refine aw_sld (i + 2) hE dL_law_1104 (nI_pl i 2) (by omega) (by omega) ?_
  refine aw_callV (ci := 6) (d' := 60) (kc' := 0) (ks' := 0) (rest := [.int rv]) (As := [.int (xs (i + 1)), .int (xs (i + 2))]) dL_law_1105 cw_L_136 ⟨_, _, rfl⟩ hM.1.1 hM.1.2 rfl rfl (by decide) (by omega) (by simp [Value.category]) (hm _ (fun I2 L2 Z2 g2 => ?_))
  exact aw_icmp_eq (tgt := 1113) dL_law_1108 (by decide) (fun _ => H _ _ _ g2) (fun w => absurd rfl w)
theorem GI.gz (h : GI I Z) : GZ Z ∧ MZ Z := by
  obtain ⟨n, m, r, ru, N, k, tA, qA, mA, aA, bA, WA, h⟩ := h
  exact ⟨h.1.1, h.1.2.1⟩

theorem law_loop (hE : EXT E N xs) (hN : N ≤ 3072) (hQ : ∀ I2 L2 Z2, Q (some (.int 1)) I2 L2 Z2) : ∀ (k i cells slots : Nat) (I : Mi) (L : Ml) (Z : Mz), N < i + 6 * k + 6 → i ≤ 6000 → cells + 2 * k ≤ room_1.cells → slots + 163 * k ≤ room_1.slots → GI I Z → AW E yL_law cL_law 4 (some .boolean) room_1 Q cells slots 18 [some (.retAddr 50), some (.ref 0), some (.ref 48), some (.int (nI i))] [] I L Z := by
  intro k
  induction k with
  | zero =>
    intro i cells slots I L Z hk hi hc hs hI
    refine aw_iload_n dL_law_18 rfl ?_
    refine aw_aload_n dL_law_19 rfl rfl ?_
    refine aw_slen hE dL_law_20 ?_
    refine aw_bipush (v := 6) dL_law_21 (by decide) ?_
    refine aw_isub dL_law_23 ?_
    refine aw_icmp_gt (tgt := 1119) dL_law_24 (by decide) (fun _ => ?_) (fun w => absurd ((lw_gt (by omega) (by omega)).mpr (by omega)) w)
    refine aw_iconst (v := 1) dL_law_1119 (by decide) ?_
    exact aw_ireturn (ty := .boolean) dL_law_1120 rfl (by decide) (hQ _ _ _)
  | succ k ih =>
    intro i cells slots I L Z hk hi hc hs hI
    refine aw_iload_n dL_law_18 rfl ?_
    refine aw_aload_n dL_law_19 rfl rfl ?_
    refine aw_slen hE dL_law_20 ?_
    refine aw_bipush (v := 6) dL_law_21 (by decide) ?_
    refine aw_isub dL_law_23 ?_
    refine aw_icmp_gt (tgt := 1119) dL_law_24 (by decide) (fun _ => ?_) (fun w => ?_)
    · refine aw_iconst (v := 1) dL_law_1119 (by decide) ?_
      exact aw_ireturn (ty := .boolean) dL_law_1120 rfl (by decide) (hQ _ _ _)
    have hin : i + 6 ≤ N := by
      have := mt (lw_gt (N := N) (i := i) (by omega) (by omega)).mpr w
      omega
    obtain ⟨hG, hM⟩ := hI.gz
    refine aw_aload_n dL_law_27 rfl rfl ?_
    refine aw_iload_n dL_law_28 rfl ?_
    refine aw_sld i hE dL_law_29 rfl (by omega) (by omega) ?_
    refine aw_bipush (v := 31) dL_law_30 (by decide) ?_
    refine aw_iand dL_law_32 ?_
    have go : ∀ (c2 s2 : Nat) (I2 : Mi) (L2 : Ml) (Z2 : Mz), c2 + 2 * k ≤ room_1.cells → s2 + 163 * k ≤ room_1.slots → GI I2 Z2 → AW E yL_law cL_law 4 (some .boolean) room_1 Q c2 s2 1113 [some (.retAddr 50), some (.ref 0), some (.ref 48), some (.int (nI i))] [] I2 L2 Z2 := fun c2 s2 I2 L2 Z2 g1 g2 g3 => by
      refine aw_iinc (v := nI (i + 6)) (ls' := [_, _, _, _]) dL_law_1113 rfl (nI_pl i 6) (by decide) rfl rfl ?_
      refine aw_goto (tgt := 18) dL_law_1116 (by decide) ?_
      exact ih (i + 6) c2 s2 I2 L2 Z2 (by omega) (by omega) g1 g2 g3
    obtain ⟨q, hq, eq⟩ := and31 (xs i)
    rw [eq]
    match q, hq with
    | 0, _ =>
      refine aw_tableIn (off := 131) (tgt := 164) dL_law_33 (by decide) (by decide) rfl (by decide) ?_
      exact law_0 hE hI hG hM hN (by omega) (by omega) (by omega) (fun I2 L2 Z2 g2 => go (cells + 0) (slots + 0) I2 L2 Z2 (by omega) (by omega) g2)
    | 1, _ =>
      refine aw_tableIn (off := 174) (tgt := 207) dL_law_33 (by decide) (by decide) rfl (by decide) ?_
      exact law_1 hE hI hG hM hN (by omega) (by omega) (by omega) (fun I2 L2 Z2 g2 => go (cells + 0) (slots + 0) I2 L2 Z2 (by omega) (by omega) g2)
    | 2, _ =>
      refine aw_tableIn (off := 207) (tgt := 240) dL_law_33 (by decide) (by decide) rfl (by decide) ?_
      exact law_2 hE hI hG hM hN (by omega) (by omega) (by omega) (fun I2 L2 Z2 g2 => go (cells + 0) (slots + 0) I2 L2 Z2 (by omega) (by omega) g2)
    | 3, _ =>
      refine aw_tableIn (off := 240) (tgt := 273) dL_law_33 (by decide) (by decide) rfl (by decide) ?_
      exact law_3 hE hI hG hM hN (by omega) (by omega) (by omega) (fun I2 L2 Z2 g2 => go (cells + 0) (slots + 0) I2 L2 Z2 (by omega) (by omega) g2)
    | 4, _ =>
      refine aw_tableIn (off := 253) (tgt := 286) dL_law_33 (by decide) (by decide) rfl (by decide) ?_
      exact law_4 hE hI hG hM hN (by omega) (by omega) (by omega) (fun I2 L2 Z2 g2 => go (cells + 0) (slots + 0) I2 L2 Z2 (by omega) (by omega) g2)
    | 5, _ =>
      refine aw_tableIn (off := 286) (tgt := 319) dL_law_33 (by decide) (by decide) rfl (by decide) ?_
      exact law_5 hE hI hG hM hN (by omega) (by omega) (by omega) (fun I2 L2 Z2 g2 => go (cells + 0) (slots + 0) I2 L2 Z2 (by omega) (by omega) g2)
    | 6, _ =>
      refine aw_tableIn (off := 319) (tgt := 352) dL_law_33 (by decide) (by decide) rfl (by decide) ?_
      exact law_6 hE hI hG hM hN (by omega) (by omega) (by omega) (fun I2 L2 Z2 g2 => go (cells + 0) (slots + 0) I2 L2 Z2 (by omega) (by omega) g2)
    | 7, _ =>
      refine aw_tableIn (off := 362) (tgt := 395) dL_law_33 (by decide) (by decide) rfl (by decide) ?_
      exact law_7 hE hI hG hM hN (by omega) (by omega) (by omega) (fun I2 L2 Z2 g2 => go (cells + 0) (slots + 0) I2 L2 Z2 (by omega) (by omega) g2)
    | 8, _ =>
      refine aw_tableIn (off := 385) (tgt := 418) dL_law_33 (by decide) (by decide) rfl (by decide) ?_
      exact law_8 hE hI hG hM hN (by omega) (by omega) (by omega) (fun I2 L2 Z2 g2 => go (cells + 2) (slots + 163) I2 L2 Z2 (by omega) (by omega) g2)
    | 9, _ =>
      refine aw_tableIn (off := 398) (tgt := 431) dL_law_33 (by decide) (by decide) rfl (by decide) ?_
      exact law_9 hE hI hG hM hN (by omega) (by omega) (by omega) (fun I2 L2 Z2 g2 => go (cells + 0) (slots + 0) I2 L2 Z2 (by omega) (by omega) g2)
    | 10, _ =>
      refine aw_tableIn (off := 421) (tgt := 454) dL_law_33 (by decide) (by decide) rfl (by decide) ?_
      exact law_10 hE hI hG hM hN (by omega) (by omega) (by omega) (fun I2 L2 Z2 g2 => go (cells + 0) (slots + 0) I2 L2 Z2 (by omega) (by omega) g2)
    | 11, _ =>
      refine aw_tableIn (off := 454) (tgt := 487) dL_law_33 (by decide) (by decide) rfl (by decide) ?_
      exact law_11 hE hI hG hM hN (by omega) (by omega) (by omega) (fun I2 L2 Z2 g2 => go (cells + 0) (slots + 0) I2 L2 Z2 (by omega) (by omega) g2)
    | 12, _ =>
      refine aw_tableIn (off := 487) (tgt := 520) dL_law_33 (by decide) (by decide) rfl (by decide) ?_
      exact law_12 hE hI hG hM hN (by omega) (by omega) (by omega) (fun I2 L2 Z2 g2 => go (cells + 0) (slots + 0) I2 L2 Z2 (by omega) (by omega) g2)
    | 13, _ =>
      refine aw_tableIn (off := 510) (tgt := 543) dL_law_33 (by decide) (by decide) rfl (by decide) ?_
      exact law_13 hE hI hG hM hN (by omega) (by omega) (by omega) (fun I2 L2 Z2 g2 => go (cells + 0) (slots + 0) I2 L2 Z2 (by omega) (by omega) g2)
    | 14, _ =>
      refine aw_tableIn (off := 543) (tgt := 576) dL_law_33 (by decide) (by decide) rfl (by decide) ?_
      exact law_14 hE hI hG hM hN (by omega) (by omega) (by omega) (fun I2 L2 Z2 g2 => go (cells + 0) (slots + 0) I2 L2 Z2 (by omega) (by omega) g2)
    | 15, _ =>
      refine aw_tableIn (off := 576) (tgt := 609) dL_law_33 (by decide) (by decide) rfl (by decide) ?_
      exact law_15 hE hI hG hM hN (by omega) (by omega) (by omega) (fun I2 L2 Z2 g2 => go (cells + 0) (slots + 0) I2 L2 Z2 (by omega) (by omega) g2)
    | 16, _ =>
      refine aw_tableIn (off := 609) (tgt := 642) dL_law_33 (by decide) (by decide) rfl (by decide) ?_
      exact law_16 hE hI hG hM hN (by omega) (by omega) (by omega) (fun I2 L2 Z2 g2 => go (cells + 0) (slots + 0) I2 L2 Z2 (by omega) (by omega) g2)
    | 17, _ =>
      refine aw_tableIn (off := 633) (tgt := 666) dL_law_33 (by decide) (by decide) rfl (by decide) ?_
      exact law_17 hE hI hG hM hN (by omega) (by omega) (by omega) (fun I2 L2 Z2 g2 => go (cells + 0) (slots + 0) I2 L2 Z2 (by omega) (by omega) g2)
    | 18, _ =>
      refine aw_tableIn (off := 676) (tgt := 709) dL_law_33 (by decide) (by decide) rfl (by decide) ?_
      exact law_18 hE hI hG hM hN (by omega) (by omega) (by omega) (fun I2 L2 Z2 g2 => go (cells + 0) (slots + 0) I2 L2 Z2 (by omega) (by omega) g2)
    | 19, _ =>
      refine aw_tableIn (off := 709) (tgt := 742) dL_law_33 (by decide) (by decide) rfl (by decide) ?_
      exact law_19 hE hI hG hM hN (by omega) (by omega) (by omega) (fun I2 L2 Z2 g2 => go (cells + 0) (slots + 0) I2 L2 Z2 (by omega) (by omega) g2)
    | 20, _ =>
      refine aw_tableIn (off := 742) (tgt := 775) dL_law_33 (by decide) (by decide) rfl (by decide) ?_
      exact law_20 hE hI hG hM hN (by omega) (by omega) (by omega) (fun I2 L2 Z2 g2 => go (cells + 0) (slots + 0) I2 L2 Z2 (by omega) (by omega) g2)
    | 21, _ =>
      refine aw_tableIn (off := 796) (tgt := 829) dL_law_33 (by decide) (by decide) rfl (by decide) ?_
      exact law_21 hE hI hG hM hN (by omega) (by omega) (by omega) (fun I2 L2 Z2 g2 => go (cells + 0) (slots + 0) I2 L2 Z2 (by omega) (by omega) g2)
    | 22, _ =>
      refine aw_tableIn (off := 809) (tgt := 842) dL_law_33 (by decide) (by decide) rfl (by decide) ?_
      exact law_22 hE hI hG hM hN (by omega) (by omega) (by omega) (fun I2 L2 Z2 g2 => go (cells + 0) (slots + 0) I2 L2 Z2 (by omega) (by omega) g2)
    | 23, _ =>
      refine aw_tableIn (off := 822) (tgt := 855) dL_law_33 (by decide) (by decide) rfl (by decide) ?_
      exact law_23 hE hI hG hM hN (by omega) (by omega) (by omega) (fun I2 L2 Z2 g2 => go (cells + 0) (slots + 0) I2 L2 Z2 (by omega) (by omega) g2)
    | 24, _ =>
      refine aw_tableIn (off := 845) (tgt := 878) dL_law_33 (by decide) (by decide) rfl (by decide) ?_
      exact law_24 hE hI hG hM hN (by omega) (by omega) (by omega) (fun I2 L2 Z2 g2 => go (cells + 0) (slots + 0) I2 L2 Z2 (by omega) (by omega) g2)
    | 25, _ =>
      refine aw_tableIn (off := 888) (tgt := 921) dL_law_33 (by decide) (by decide) rfl (by decide) ?_
      exact law_25 hE hI hG hM hN (by omega) (by omega) (by omega) (fun I2 L2 Z2 g2 => go (cells + 0) (slots + 0) I2 L2 Z2 (by omega) (by omega) g2)
    | 26, _ =>
      refine aw_tableIn (off := 931) (tgt := 964) dL_law_33 (by decide) (by decide) rfl (by decide) ?_
      exact law_26 hE hI hG hM hN (by omega) (by omega) (by omega) (fun I2 L2 Z2 g2 => go (cells + 0) (slots + 0) I2 L2 Z2 (by omega) (by omega) g2)
    | 27, _ =>
      refine aw_tableIn (off := 994) (tgt := 1027) dL_law_33 (by decide) (by decide) rfl (by decide) ?_
      exact law_27 hE hI hG hM hN (by omega) (by omega) (by omega) (fun I2 L2 Z2 g2 => go (cells + 0) (slots + 0) I2 L2 Z2 (by omega) (by omega) g2)
    | 28, _ =>
      refine aw_tableIn (off := 1047) (tgt := 1080) dL_law_33 (by decide) (by decide) rfl (by decide) ?_
      exact law_28 hE hI hG hM hN (by omega) (by omega) (by omega) (fun I2 L2 Z2 g2 => go (cells + 0) (slots + 0) I2 L2 Z2 (by omega) (by omega) g2)
    | 29, _ =>
      refine aw_tableOut (tgt := 1113) dL_law_33 (by decide) (by decide) ?_
      exact go cells slots I L Z (by omega) (by omega) hI
    | 30, _ =>
      refine aw_tableOut (tgt := 1113) dL_law_33 (by decide) (by decide) ?_
      exact go cells slots I L Z (by omega) (by omega) hI
    | 31, _ =>
      refine aw_tableOut (tgt := 1113) dL_law_33 (by decide) (by decide) ?_
      exact go cells slots I L Z (by omega) (by omega) hI
    | q + 32, h => exact absurd h (by omega)
end LAW
