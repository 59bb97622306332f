/-! the law: its cases, its loop -/
def ML : r_M := (⟨RL, "law", "([I)Z"⟩, cL_law, 4, some .boolean)
theorem lg_cmp_self (x : Int64) : lg_cmp x x = 0 := by
  unfold lg_cmp
  simp
section Law
variable {h : Nat} {Post : Option Value → r_Sg → Prop} {pc : Nat} {L S : List Value} {σ : r_Sg} {N : Nat} {xs : Nat → Int32}
theorem g_sl {M : r_M} {i : Int32} (j : Nat) (d : decode M.2.1 pc = .ok (.iaload, 1)) (hi : i = nI j) (hj : j < N) (hN : N ≤ 2560) (k : G M h (some (N, xs)) Post (pc + 1) L (.int (xs j) :: S) σ) : G M h (some (N, xs)) Post pc L (.int i :: .ref 99 :: S) σ := by
  subst hi
  refine g_sld d (vp_in_nI hj (by omega)) ?_
  rw [nI_clamp (by omega)]
  exact k
theorem lw_0 {i B : Nat} (hI : Inv σ B) (hB : B + 64 < 2 ^ 30) (hi : i + 5 ≤ N) (hN : N ≤ 2560) (k : ∀ σ2, Inv σ2 (B + 64) → G ML 8 (some (N, xs)) Post 857 [.ref 99, .ref 0, .ref 19, .int (nI i)] [] σ2) : G ML 8 (some (N, xs)) Post 144 [.ref 99, .ref 0, .ref 19, .int (nI i)] [] σ := by
  obtain ⟨h1, h2, x, σ1, σ2, g1, g2, e1, e2, hI2⟩ := st_code hI (xs (i + 1)) (xs (i + 2))
  refine g_aload_n dL_law_144 rfl ?_
  refine g_aload_n dL_law_145 rfl ?_
  refine g_iload_n dL_law_146 rfl ?_
  refine g_iconst (v := 1) dL_law_147 (by decide) ?_
  refine g_iadd dL_law_148 ?_
  refine g_sl (i + 1) dL_law_149 (nI_add i 1) (by omega) hN ?_
  refine g_aload_n dL_law_150 rfl ?_
  refine g_iload_n dL_law_151 rfl ?_
  refine g_iconst (v := 2) dL_law_152 (by decide) ?_
  refine g_iadd dL_law_153 ?_
  refine g_sl (i + 2) dL_law_154 (nI_add i 2) (by omega) hN ?_
  refine g_V2 dL_law_155 vL_13 rfl (Nat.le_of_ble_eq_true rfl) (by omega) e1 ?_
  refine g_aload_n dL_law_158 rfl ?_
  refine g_aload_n dL_law_159 rfl ?_
  refine g_iload_n dL_law_160 rfl ?_
  refine g_iconst (v := 1) dL_law_161 (by decide) ?_
  refine g_iadd dL_law_162 ?_
  refine g_sl (i + 1) dL_law_163 (nI_add i 1) (by omega) hN ?_
  refine g_aload_n dL_law_164 rfl ?_
  refine g_iload_n dL_law_165 rfl ?_
  refine g_iconst (v := 2) dL_law_166 (by decide) ?_
  refine g_iadd dL_law_167 ?_
  refine g_sl (i + 2) dL_law_168 (nI_add i 2) (by omega) hN ?_
  refine g_V2 dL_law_169 vL_17 rfl (Nat.le_of_ble_eq_true rfl) (by omega) e2 ?_
  exact g_iceq (tgt := 857) dL_law_172 (by decide) (fun _ => k σ2 hI2) (fun z => absurd rfl z)
theorem lw_1 {i B : Nat} (hI : Inv σ B) (hB : B + 64 < 2 ^ 30) (hi : i + 5 ≤ N) (hN : N ≤ 2560) (k : ∀ σ2, Inv σ2 (B + 64) → G ML 8 (some (N, xs)) Post 857 [.ref 99, .ref 0, .ref 19, .int (nI i)] [] σ2) : G ML 8 (some (N, xs)) Post 177 [.ref 99, .ref 0, .ref 19, .int (nI i)] [] σ := by
  obtain ⟨h1, h2, x, σ1, σ2, g1, g2, e1, e2, hI2⟩ := st_column hI (xs (i + 1))
  refine g_aload_n dL_law_177 rfl ?_
  refine g_aload_n dL_law_178 rfl ?_
  refine g_iload_n dL_law_179 rfl ?_
  refine g_iconst (v := 1) dL_law_180 (by decide) ?_
  refine g_iadd dL_law_181 ?_
  refine g_sl (i + 1) dL_law_182 (nI_add i 1) (by omega) hN ?_
  refine g_V1 dL_law_183 vL_18 rfl (Nat.le_of_ble_eq_true rfl) (by omega) e1 ?_
  refine g_aload_n dL_law_186 rfl ?_
  refine g_aload_n dL_law_187 rfl ?_
  refine g_iload_n dL_law_188 rfl ?_
  refine g_iconst (v := 1) dL_law_189 (by decide) ?_
  refine g_iadd dL_law_190 ?_
  refine g_sl (i + 1) dL_law_191 (nI_add i 1) (by omega) hN ?_
  refine g_V1 dL_law_192 vL_22 rfl (Nat.le_of_ble_eq_true rfl) (by omega) e2 ?_
  exact g_iceq (tgt := 857) dL_law_195 (by decide) (fun _ => k σ2 hI2) (fun z => absurd rfl z)
theorem lw_2 {i B : Nat} (hI : Inv σ B) (hB : B + 64 < 2 ^ 30) (hi : i + 5 ≤ N) (hN : N ≤ 2560) (k : ∀ σ2, Inv σ2 (B + 64) → G ML 8 (some (N, xs)) Post 857 [.ref 99, .ref 0, .ref 19, .int (nI i)] [] σ2) : G ML 8 (some (N, xs)) Post 200 [.ref 99, .ref 0, .ref 19, .int (nI i)] [] σ := by
  obtain ⟨h1, h2, x, σ1, σ2, g1, g2, e1, e2, hI2⟩ := st_ones hI (xs (i + 1))
  refine g_aload_n dL_law_200 rfl ?_
  refine g_aload_n dL_law_201 rfl ?_
  refine g_iload_n dL_law_202 rfl ?_
  refine g_iconst (v := 1) dL_law_203 (by decide) ?_
  refine g_iadd dL_law_204 ?_
  refine g_sl (i + 1) dL_law_205 (nI_add i 1) (by omega) hN ?_
  refine g_V1 dL_law_206 vL_23 rfl (Nat.le_of_ble_eq_true rfl) (by omega) e1 ?_
  refine g_aload_n dL_law_209 rfl ?_
  refine g_aload_n dL_law_210 rfl ?_
  refine g_iload_n dL_law_211 rfl ?_
  refine g_iconst (v := 1) dL_law_212 (by decide) ?_
  refine g_iadd dL_law_213 ?_
  refine g_sl (i + 1) dL_law_214 (nI_add i 1) (by omega) hN ?_
  refine g_V1 dL_law_215 vL_26 rfl (Nat.le_of_ble_eq_true rfl) (by omega) e2 ?_
  exact g_iceq (tgt := 857) dL_law_218 (by decide) (fun _ => k σ2 hI2) (fun z => absurd rfl z)
theorem lw_3 {i B : Nat} (hI : Inv σ B) (hB : B + 64 < 2 ^ 30) (hi : i + 5 ≤ N) (hN : N ≤ 2560) (k : ∀ σ2, Inv σ2 (B + 64) → G ML 8 (some (N, xs)) Post 857 [.ref 99, .ref 0, .ref 19, .int (nI i)] [] σ2) : G ML 8 (some (N, xs)) Post 223 [.ref 99, .ref 0, .ref 19, .int (nI i)] [] σ := by
  obtain ⟨h1, h2, x, σ1, σ2, g1, g2, e1, e2, hI2⟩ := st_word hI (xs (i + 1))
  refine g_aload_n dL_law_223 rfl ?_
  refine g_aload_n dL_law_224 rfl ?_
  refine g_iload_n dL_law_225 rfl ?_
  refine g_iconst (v := 1) dL_law_226 (by decide) ?_
  refine g_iadd dL_law_227 ?_
  refine g_sl (i + 1) dL_law_228 (nI_add i 1) (by omega) hN ?_
  refine g_V1 dL_law_229 vL_27 rfl (Nat.le_of_ble_eq_true rfl) (by omega) e1 ?_
  refine g_aload_n dL_law_232 rfl ?_
  refine g_aload_n dL_law_233 rfl ?_
  refine g_iload_n dL_law_234 rfl ?_
  refine g_iconst (v := 1) dL_law_235 (by decide) ?_
  refine g_iadd dL_law_236 ?_
  refine g_sl (i + 1) dL_law_237 (nI_add i 1) (by omega) hN ?_
  refine g_V1 dL_law_238 vL_30 rfl (Nat.le_of_ble_eq_true rfl) (by omega) e2 ?_
  exact g_iceq (tgt := 857) dL_law_241 (by decide) (fun _ => k σ2 hI2) (fun z => absurd rfl z)
theorem lw_4 {i B : Nat} (hI : Inv σ B) (hB : B + 64 < 2 ^ 30) (hi : i + 5 ≤ N) (hN : N ≤ 2560) (k : ∀ σ2, Inv σ2 (B + 64) → G ML 8 (some (N, xs)) Post 857 [.ref 99, .ref 0, .ref 19, .int (nI i)] [] σ2) : G ML 8 (some (N, xs)) Post 246 [.ref 99, .ref 0, .ref 19, .int (nI i)] [] σ := by
  obtain ⟨h1, h2, x, σ1, σ2, g1, g2, e1, e2, hI2⟩ := st_syndrome hI (xs (i + 1))
  refine g_aload_n dL_law_246 rfl ?_
  refine g_aload_n dL_law_247 rfl ?_
  refine g_iload_n dL_law_248 rfl ?_
  refine g_iconst (v := 1) dL_law_249 (by decide) ?_
  refine g_iadd dL_law_250 ?_
  refine g_sl (i + 1) dL_law_251 (nI_add i 1) (by omega) hN ?_
  refine g_V1 dL_law_252 vL_31 rfl (Nat.le_of_ble_eq_true rfl) (by omega) e1 ?_
  refine g_aload_n dL_law_255 rfl ?_
  refine g_aload_n dL_law_256 rfl ?_
  refine g_iload_n dL_law_257 rfl ?_
  refine g_iconst (v := 1) dL_law_258 (by decide) ?_
  refine g_iadd dL_law_259 ?_
  refine g_sl (i + 1) dL_law_260 (nI_add i 1) (by omega) hN ?_
  refine g_V1 dL_law_261 vL_34 rfl (Nat.le_of_ble_eq_true rfl) (by omega) e2 ?_
  exact g_iceq (tgt := 857) dL_law_264 (by decide) (fun _ => k σ2 hI2) (fun z => absurd rfl z)
theorem lw_5 {i B : Nat} (hI : Inv σ B) (hB : B + 64 < 2 ^ 30) (hi : i + 5 ≤ N) (hN : N ≤ 2560) (k : ∀ σ2, Inv σ2 (B + 64) → G ML 8 (some (N, xs)) Post 857 [.ref 99, .ref 0, .ref 19, .int (nI i)] [] σ2) : G ML 8 (some (N, xs)) Post 269 [.ref 99, .ref 0, .ref 19, .int (nI i)] [] σ := by
  obtain ⟨h1, h2, x, σ1, σ2, g1, g2, e1, e2, hI2⟩ := st_mended hI (xs (i + 1))
  refine g_aload_n dL_law_269 rfl ?_
  refine g_aload_n dL_law_270 rfl ?_
  refine g_iload_n dL_law_271 rfl ?_
  refine g_iconst (v := 1) dL_law_272 (by decide) ?_
  refine g_iadd dL_law_273 ?_
  refine g_sl (i + 1) dL_law_274 (nI_add i 1) (by omega) hN ?_
  refine g_V1 dL_law_275 vL_35 rfl (Nat.le_of_ble_eq_true rfl) (by omega) e1 ?_
  refine g_aload_n dL_law_278 rfl ?_
  refine g_aload_n dL_law_279 rfl ?_
  refine g_iload_n dL_law_280 rfl ?_
  refine g_iconst (v := 1) dL_law_281 (by decide) ?_
  refine g_iadd dL_law_282 ?_
  refine g_sl (i + 1) dL_law_283 (nI_add i 1) (by omega) hN ?_
  refine g_V1 dL_law_284 vL_38 rfl (Nat.le_of_ble_eq_true rfl) (by omega) e2 ?_
  exact g_iceq (tgt := 857) dL_law_287 (by decide) (fun _ => k σ2 hI2) (fun z => absurd rfl z)
theorem lw_6 {i B : Nat} (hI : Inv σ B) (hB : B + 64 < 2 ^ 30) (hi : i + 5 ≤ N) (hN : N ≤ 2560) (k : ∀ σ2, Inv σ2 (B + 64) → G ML 8 (some (N, xs)) Post 857 [.ref 99, .ref 0, .ref 19, .int (nI i)] [] σ2) : G ML 8 (some (N, xs)) Post 292 [.ref 99, .ref 0, .ref 19, .int (nI i)] [] σ := by
  obtain ⟨h1, h2, x, σ1, σ2, g1, g2, e1, e2, hI2⟩ := st_write hI (xs (i + 1)) (xs (i + 2)) (xs (i + 3))
  refine g_aload_n dL_law_292 rfl ?_
  refine g_aload_n dL_law_293 rfl ?_
  refine g_iload_n dL_law_294 rfl ?_
  refine g_iconst (v := 1) dL_law_295 (by decide) ?_
  refine g_iadd dL_law_296 ?_
  refine g_sl (i + 1) dL_law_297 (nI_add i 1) (by omega) hN ?_
  refine g_aload_n dL_law_298 rfl ?_
  refine g_iload_n dL_law_299 rfl ?_
  refine g_iconst (v := 2) dL_law_300 (by decide) ?_
  refine g_iadd dL_law_301 ?_
  refine g_sl (i + 2) dL_law_302 (nI_add i 2) (by omega) hN ?_
  refine g_aload_n dL_law_303 rfl ?_
  refine g_iload_n dL_law_304 rfl ?_
  refine g_iconst (v := 3) dL_law_305 (by decide) ?_
  refine g_iadd dL_law_306 ?_
  refine g_sl (i + 3) dL_law_307 (nI_add i 3) (by omega) hN ?_
  refine g_V3 dL_law_308 vL_39 rfl (Nat.le_of_ble_eq_true rfl) (by omega) e1 ?_
  refine g_aload_n dL_law_311 rfl ?_
  refine g_aload_n dL_law_312 rfl ?_
  refine g_iload_n dL_law_313 rfl ?_
  refine g_iconst (v := 1) dL_law_314 (by decide) ?_
  refine g_iadd dL_law_315 ?_
  refine g_sl (i + 1) dL_law_316 (nI_add i 1) (by omega) hN ?_
  refine g_aload_n dL_law_317 rfl ?_
  refine g_iload_n dL_law_318 rfl ?_
  refine g_iconst (v := 2) dL_law_319 (by decide) ?_
  refine g_iadd dL_law_320 ?_
  refine g_sl (i + 2) dL_law_321 (nI_add i 2) (by omega) hN ?_
  refine g_aload_n dL_law_322 rfl ?_
  refine g_iload_n dL_law_323 rfl ?_
  refine g_iconst (v := 3) dL_law_324 (by decide) ?_
  refine g_iadd dL_law_325 ?_
  refine g_sl (i + 3) dL_law_326 (nI_add i 3) (by omega) hN ?_
  refine g_V3 dL_law_327 vL_43 rfl (Nat.le_of_ble_eq_true rfl) (by omega) e2 ?_
  exact g_iceq (tgt := 857) dL_law_330 (by decide) (fun _ => k σ2 hI2) (fun z => absurd rfl z)
theorem lw_7 {i B : Nat} (hI : Inv σ B) (hB : B + 64 < 2 ^ 30) (hi : i + 5 ≤ N) (hN : N ≤ 2560) (k : ∀ σ2, Inv σ2 (B + 64) → G ML 8 (some (N, xs)) Post 857 [.ref 99, .ref 0, .ref 19, .int (nI i)] [] σ2) : G ML 8 (some (N, xs)) Post 335 [.ref 99, .ref 0, .ref 19, .int (nI i)] [] σ := by
  obtain ⟨h1, h2, x, σ1, σ2, g1, g2, e1, e2, hI2⟩ := st_read hI hB (xs (i + 1)) (xs (i + 2))
  refine g_aload_n dL_law_335 rfl ?_
  refine g_aload_n dL_law_336 rfl ?_
  refine g_iload_n dL_law_337 rfl ?_
  refine g_iconst (v := 1) dL_law_338 (by decide) ?_
  refine g_iadd dL_law_339 ?_
  refine g_sl (i + 1) dL_law_340 (nI_add i 1) (by omega) hN ?_
  refine g_aload_n dL_law_341 rfl ?_
  refine g_iload_n dL_law_342 rfl ?_
  refine g_iconst (v := 2) dL_law_343 (by decide) ?_
  refine g_iadd dL_law_344 ?_
  refine g_sl (i + 2) dL_law_345 (nI_add i 2) (by omega) hN ?_
  refine g_V2 dL_law_346 vL_44 rfl (Nat.le_of_ble_eq_true rfl) (by omega) e1 ?_
  refine g_aload_n dL_law_349 rfl ?_
  refine g_aload_n dL_law_350 rfl ?_
  refine g_iload_n dL_law_351 rfl ?_
  refine g_iconst (v := 1) dL_law_352 (by decide) ?_
  refine g_iadd dL_law_353 ?_
  refine g_sl (i + 1) dL_law_354 (nI_add i 1) (by omega) hN ?_
  refine g_aload_n dL_law_355 rfl ?_
  refine g_iload_n dL_law_356 rfl ?_
  refine g_iconst (v := 2) dL_law_357 (by decide) ?_
  refine g_iadd dL_law_358 ?_
  refine g_sl (i + 2) dL_law_359 (nI_add i 2) (by omega) hN ?_
  refine g_V2 dL_law_360 vL_47 rfl (Nat.le_of_ble_eq_true rfl) (by omega) e2 ?_
  exact g_iceq (tgt := 857) dL_law_363 (by decide) (fun _ => k σ2 hI2) (fun z => absurd rfl z)
theorem lw_8 {i B : Nat} (hI : Inv σ B) (hB : B + 64 < 2 ^ 30) (hi : i + 5 ≤ N) (hN : N ≤ 2560) (k : ∀ σ2, Inv σ2 (B + 64) → G ML 8 (some (N, xs)) Post 857 [.ref 99, .ref 0, .ref 19, .int (nI i)] [] σ2) : G ML 8 (some (N, xs)) Post 368 [.ref 99, .ref 0, .ref 19, .int (nI i)] [] σ := by
  obtain ⟨h1, h2, x, σ1, σ2, g1, g2, e1, e2, hI2⟩ := st_raw hI (xs (i + 1)) (xs (i + 2))
  refine g_aload_n dL_law_368 rfl ?_
  refine g_aload_n dL_law_369 rfl ?_
  refine g_iload_n dL_law_370 rfl ?_
  refine g_iconst (v := 1) dL_law_371 (by decide) ?_
  refine g_iadd dL_law_372 ?_
  refine g_sl (i + 1) dL_law_373 (nI_add i 1) (by omega) hN ?_
  refine g_aload_n dL_law_374 rfl ?_
  refine g_iload_n dL_law_375 rfl ?_
  refine g_iconst (v := 2) dL_law_376 (by decide) ?_
  refine g_iadd dL_law_377 ?_
  refine g_sl (i + 2) dL_law_378 (nI_add i 2) (by omega) hN ?_
  refine g_V2 dL_law_379 vL_48 rfl (Nat.le_of_ble_eq_true rfl) (by omega) e1 ?_
  refine g_aload_n dL_law_382 rfl ?_
  refine g_aload_n dL_law_383 rfl ?_
  refine g_iload_n dL_law_384 rfl ?_
  refine g_iconst (v := 1) dL_law_385 (by decide) ?_
  refine g_iadd dL_law_386 ?_
  refine g_sl (i + 1) dL_law_387 (nI_add i 1) (by omega) hN ?_
  refine g_aload_n dL_law_388 rfl ?_
  refine g_iload_n dL_law_389 rfl ?_
  refine g_iconst (v := 2) dL_law_390 (by decide) ?_
  refine g_iadd dL_law_391 ?_
  refine g_sl (i + 2) dL_law_392 (nI_add i 2) (by omega) hN ?_
  refine g_V2 dL_law_393 vL_51 rfl (Nat.le_of_ble_eq_true rfl) (by omega) e2 ?_
  exact g_iceq (tgt := 857) dL_law_396 (by decide) (fun _ => k σ2 hI2) (fun z => absurd rfl z)
theorem lw_9 {i B : Nat} (hI : Inv σ B) (hB : B + 64 < 2 ^ 30) (hi : i + 5 ≤ N) (hN : N ≤ 2560) (k : ∀ σ2, Inv σ2 (B + 64) → G ML 8 (some (N, xs)) Post 857 [.ref 99, .ref 0, .ref 19, .int (nI i)] [] σ2) : G ML 8 (some (N, xs)) Post 401 [.ref 99, .ref 0, .ref 19, .int (nI i)] [] σ := by
  obtain ⟨h1, h2, x, σ1, σ2, g1, g2, e1, e2, hI2⟩ := st_flip hI (xs (i + 1)) (xs (i + 2)) (xs (i + 3))
  refine g_aload_n dL_law_401 rfl ?_
  refine g_aload_n dL_law_402 rfl ?_
  refine g_iload_n dL_law_403 rfl ?_
  refine g_iconst (v := 1) dL_law_404 (by decide) ?_
  refine g_iadd dL_law_405 ?_
  refine g_sl (i + 1) dL_law_406 (nI_add i 1) (by omega) hN ?_
  refine g_aload_n dL_law_407 rfl ?_
  refine g_iload_n dL_law_408 rfl ?_
  refine g_iconst (v := 2) dL_law_409 (by decide) ?_
  refine g_iadd dL_law_410 ?_
  refine g_sl (i + 2) dL_law_411 (nI_add i 2) (by omega) hN ?_
  refine g_aload_n dL_law_412 rfl ?_
  refine g_iload_n dL_law_413 rfl ?_
  refine g_iconst (v := 3) dL_law_414 (by decide) ?_
  refine g_iadd dL_law_415 ?_
  refine g_sl (i + 3) dL_law_416 (nI_add i 3) (by omega) hN ?_
  refine g_V3 dL_law_417 vL_52 rfl (Nat.le_of_ble_eq_true rfl) (by omega) e1 ?_
  refine g_aload_n dL_law_420 rfl ?_
  refine g_aload_n dL_law_421 rfl ?_
  refine g_iload_n dL_law_422 rfl ?_
  refine g_iconst (v := 1) dL_law_423 (by decide) ?_
  refine g_iadd dL_law_424 ?_
  refine g_sl (i + 1) dL_law_425 (nI_add i 1) (by omega) hN ?_
  refine g_aload_n dL_law_426 rfl ?_
  refine g_iload_n dL_law_427 rfl ?_
  refine g_iconst (v := 2) dL_law_428 (by decide) ?_
  refine g_iadd dL_law_429 ?_
  refine g_sl (i + 2) dL_law_430 (nI_add i 2) (by omega) hN ?_
  refine g_aload_n dL_law_431 rfl ?_
  refine g_iload_n dL_law_432 rfl ?_
  refine g_iconst (v := 3) dL_law_433 (by decide) ?_
  refine g_iadd dL_law_434 ?_
  refine g_sl (i + 3) dL_law_435 (nI_add i 3) (by omega) hN ?_
  refine g_V3 dL_law_436 vL_55 rfl (Nat.le_of_ble_eq_true rfl) (by omega) e2 ?_
  exact g_iceq (tgt := 857) dL_law_439 (by decide) (fun _ => k σ2 hI2) (fun z => absurd rfl z)
theorem lw_10 {i B : Nat} (hI : Inv σ B) (hB : B + 64 < 2 ^ 30) (hi : i + 5 ≤ N) (hN : N ≤ 2560) (k : ∀ σ2, Inv σ2 (B + 64) → G ML 8 (some (N, xs)) Post 857 [.ref 99, .ref 0, .ref 19, .int (nI i)] [] σ2) : G ML 8 (some (N, xs)) Post 444 [.ref 99, .ref 0, .ref 19, .int (nI i)] [] σ := by
  obtain ⟨h1, h2, x, σ1, σ2, g1, g2, e1, e2, hI2⟩ := st_stick hI (xs (i + 1)) (xs (i + 2)) (xs (i + 3)) (xs (i + 4))
  refine g_aload_n dL_law_444 rfl ?_
  refine g_aload_n dL_law_445 rfl ?_
  refine g_iload_n dL_law_446 rfl ?_
  refine g_iconst (v := 1) dL_law_447 (by decide) ?_
  refine g_iadd dL_law_448 ?_
  refine g_sl (i + 1) dL_law_449 (nI_add i 1) (by omega) hN ?_
  refine g_aload_n dL_law_450 rfl ?_
  refine g_iload_n dL_law_451 rfl ?_
  refine g_iconst (v := 2) dL_law_452 (by decide) ?_
  refine g_iadd dL_law_453 ?_
  refine g_sl (i + 2) dL_law_454 (nI_add i 2) (by omega) hN ?_
  refine g_aload_n dL_law_455 rfl ?_
  refine g_iload_n dL_law_456 rfl ?_
  refine g_iconst (v := 3) dL_law_457 (by decide) ?_
  refine g_iadd dL_law_458 ?_
  refine g_sl (i + 3) dL_law_459 (nI_add i 3) (by omega) hN ?_
  refine g_aload_n dL_law_460 rfl ?_
  refine g_iload_n dL_law_461 rfl ?_
  refine g_iconst (v := 4) dL_law_462 (by decide) ?_
  refine g_iadd dL_law_463 ?_
  refine g_sl (i + 4) dL_law_464 (nI_add i 4) (by omega) hN ?_
  refine g_V4 dL_law_465 vL_56 rfl (Nat.le_of_ble_eq_true rfl) (by omega) e1 ?_
  refine g_aload_n dL_law_468 rfl ?_
  refine g_aload_n dL_law_469 rfl ?_
  refine g_iload_n dL_law_470 rfl ?_
  refine g_iconst (v := 1) dL_law_471 (by decide) ?_
  refine g_iadd dL_law_472 ?_
  refine g_sl (i + 1) dL_law_473 (nI_add i 1) (by omega) hN ?_
  refine g_aload_n dL_law_474 rfl ?_
  refine g_iload_n dL_law_475 rfl ?_
  refine g_iconst (v := 2) dL_law_476 (by decide) ?_
  refine g_iadd dL_law_477 ?_
  refine g_sl (i + 2) dL_law_478 (nI_add i 2) (by omega) hN ?_
  refine g_aload_n dL_law_479 rfl ?_
  refine g_iload_n dL_law_480 rfl ?_
  refine g_iconst (v := 3) dL_law_481 (by decide) ?_
  refine g_iadd dL_law_482 ?_
  refine g_sl (i + 3) dL_law_483 (nI_add i 3) (by omega) hN ?_
  refine g_aload_n dL_law_484 rfl ?_
  refine g_iload_n dL_law_485 rfl ?_
  refine g_iconst (v := 4) dL_law_486 (by decide) ?_
  refine g_iadd dL_law_487 ?_
  refine g_sl (i + 4) dL_law_488 (nI_add i 4) (by omega) hN ?_
  refine g_V4 dL_law_489 vL_60 rfl (Nat.le_of_ble_eq_true rfl) (by omega) e2 ?_
  exact g_iceq (tgt := 857) dL_law_492 (by decide) (fun _ => k σ2 hI2) (fun z => absurd rfl z)
theorem lw_11 {i B : Nat} (hI : Inv σ B) (hB : B + 64 < 2 ^ 30) (hi : i + 5 ≤ N) (hN : N ≤ 2560) (k : ∀ σ2, Inv σ2 (B + 64) → G ML 8 (some (N, xs)) Post 857 [.ref 99, .ref 0, .ref 19, .int (nI i)] [] σ2) : G ML 8 (some (N, xs)) Post 497 [.ref 99, .ref 0, .ref 19, .int (nI i)] [] σ := by
  obtain ⟨h1, h2, x, σ1, σ2, g1, g2, e1, e2, hI2⟩ := st_scrub hI hB (xs (i + 1))
  refine g_aload_n dL_law_497 rfl ?_
  refine g_aload_n dL_law_498 rfl ?_
  refine g_iload_n dL_law_499 rfl ?_
  refine g_iconst (v := 1) dL_law_500 (by decide) ?_
  refine g_iadd dL_law_501 ?_
  refine g_sl (i + 1) dL_law_502 (nI_add i 1) (by omega) hN ?_
  refine g_V1 dL_law_503 vL_61 rfl (Nat.le_of_ble_eq_true rfl) (by omega) e1 ?_
  refine g_aload_n dL_law_506 rfl ?_
  refine g_aload_n dL_law_507 rfl ?_
  refine g_iload_n dL_law_508 rfl ?_
  refine g_iconst (v := 1) dL_law_509 (by decide) ?_
  refine g_iadd dL_law_510 ?_
  refine g_sl (i + 1) dL_law_511 (nI_add i 1) (by omega) hN ?_
  refine g_V1 dL_law_512 vL_64 rfl (Nat.le_of_ble_eq_true rfl) (by omega) e2 ?_
  exact g_iceq (tgt := 857) dL_law_515 (by decide) (fun _ => k σ2 hI2) (fun z => absurd rfl z)
theorem lw_12 {i B : Nat} (hI : Inv σ B) (hB : B + 64 < 2 ^ 30) (hi : i + 5 ≤ N) (hN : N ≤ 2560) (k : ∀ σ2, Inv σ2 (B + 64) → G ML 8 (some (N, xs)) Post 857 [.ref 99, .ref 0, .ref 19, .int (nI i)] [] σ2) : G ML 8 (some (N, xs)) Post 520 [.ref 99, .ref 0, .ref 19, .int (nI i)] [] σ := by
  obtain ⟨h1, h2, x, σ1, σ2, g1, g2, e1, e2, hI2⟩ := st_look hI (xs (i + 1))
  refine g_aload_n dL_law_520 rfl ?_
  refine g_aload_n dL_law_521 rfl ?_
  refine g_iload_n dL_law_522 rfl ?_
  refine g_iconst (v := 1) dL_law_523 (by decide) ?_
  refine g_iadd dL_law_524 ?_
  refine g_sl (i + 1) dL_law_525 (nI_add i 1) (by omega) hN ?_
  refine g_V1 dL_law_526 vL_65 rfl (Nat.le_of_ble_eq_true rfl) (by omega) e1 ?_
  refine g_aload_n dL_law_529 rfl ?_
  refine g_aload_n dL_law_530 rfl ?_
  refine g_iload_n dL_law_531 rfl ?_
  refine g_iconst (v := 1) dL_law_532 (by decide) ?_
  refine g_iadd dL_law_533 ?_
  refine g_sl (i + 1) dL_law_534 (nI_add i 1) (by omega) hN ?_
  refine g_V1 dL_law_535 vL_68 rfl (Nat.le_of_ble_eq_true rfl) (by omega) e2 ?_
  exact g_iceq (tgt := 857) dL_law_538 (by decide) (fun _ => k σ2 hI2) (fun z => absurd rfl z)
theorem lw_13 {i B : Nat} (hI : Inv σ B) (hB : B + 64 < 2 ^ 30) (hi : i + 5 ≤ N) (hN : N ≤ 2560) (k : ∀ σ2, Inv σ2 (B + 64) → G ML 8 (some (N, xs)) Post 857 [.ref 99, .ref 0, .ref 19, .int (nI i)] [] σ2) : G ML 8 (some (N, xs)) Post 543 [.ref 99, .ref 0, .ref 19, .int (nI i)] [] σ := by
  obtain ⟨h1, h2, x, σ1, σ2, g1, g2, e1, e2, hI2⟩ := st_fate hI (xs (i + 1)) (xs (i + 2)) (xs (i + 3))
  refine g_aload_n dL_law_543 rfl ?_
  refine g_aload_n dL_law_544 rfl ?_
  refine g_iload_n dL_law_545 rfl ?_
  refine g_iconst (v := 1) dL_law_546 (by decide) ?_
  refine g_iadd dL_law_547 ?_
  refine g_sl (i + 1) dL_law_548 (nI_add i 1) (by omega) hN ?_
  refine g_aload_n dL_law_549 rfl ?_
  refine g_iload_n dL_law_550 rfl ?_
  refine g_iconst (v := 2) dL_law_551 (by decide) ?_
  refine g_iadd dL_law_552 ?_
  refine g_sl (i + 2) dL_law_553 (nI_add i 2) (by omega) hN ?_
  refine g_aload_n dL_law_554 rfl ?_
  refine g_iload_n dL_law_555 rfl ?_
  refine g_iconst (v := 3) dL_law_556 (by decide) ?_
  refine g_iadd dL_law_557 ?_
  refine g_sl (i + 3) dL_law_558 (nI_add i 3) (by omega) hN ?_
  refine g_V3 dL_law_559 vL_69 rfl (Nat.le_of_ble_eq_true rfl) (by omega) e1 ?_
  refine g_aload_n dL_law_562 rfl ?_
  refine g_aload_n dL_law_563 rfl ?_
  refine g_iload_n dL_law_564 rfl ?_
  refine g_iconst (v := 1) dL_law_565 (by decide) ?_
  refine g_iadd dL_law_566 ?_
  refine g_sl (i + 1) dL_law_567 (nI_add i 1) (by omega) hN ?_
  refine g_aload_n dL_law_568 rfl ?_
  refine g_iload_n dL_law_569 rfl ?_
  refine g_iconst (v := 2) dL_law_570 (by decide) ?_
  refine g_iadd dL_law_571 ?_
  refine g_sl (i + 2) dL_law_572 (nI_add i 2) (by omega) hN ?_
  refine g_aload_n dL_law_573 rfl ?_
  refine g_iload_n dL_law_574 rfl ?_
  refine g_iconst (v := 3) dL_law_575 (by decide) ?_
  refine g_iadd dL_law_576 ?_
  refine g_sl (i + 3) dL_law_577 (nI_add i 3) (by omega) hN ?_
  refine g_V3 dL_law_578 vL_72 rfl (Nat.le_of_ble_eq_true rfl) (by omega) e2 ?_
  exact g_iceq (tgt := 857) dL_law_581 (by decide) (fun _ => k σ2 hI2) (fun z => absurd rfl z)
theorem lw_14 {i B : Nat} (hI : Inv σ B) (hB : B + 64 < 2 ^ 30) (hi : i + 5 ≤ N) (hN : N ≤ 2560) (k : ∀ σ2, Inv σ2 (B + 64) → G ML 8 (some (N, xs)) Post 857 [.ref 99, .ref 0, .ref 19, .int (nI i)] [] σ2) : G ML 8 (some (N, xs)) Post 586 [.ref 99, .ref 0, .ref 19, .int (nI i)] [] σ := by
  obtain ⟨h1, h2, x, σ1, σ2, g1, g2, e1, e2, hI2⟩ := st_marks hI (xs (i + 1)) (xs (i + 2)) (xs (i + 3))
  refine g_aload_n dL_law_586 rfl ?_
  refine g_aload_n dL_law_587 rfl ?_
  refine g_iload_n dL_law_588 rfl ?_
  refine g_iconst (v := 1) dL_law_589 (by decide) ?_
  refine g_iadd dL_law_590 ?_
  refine g_sl (i + 1) dL_law_591 (nI_add i 1) (by omega) hN ?_
  refine g_aload_n dL_law_592 rfl ?_
  refine g_iload_n dL_law_593 rfl ?_
  refine g_iconst (v := 2) dL_law_594 (by decide) ?_
  refine g_iadd dL_law_595 ?_
  refine g_sl (i + 2) dL_law_596 (nI_add i 2) (by omega) hN ?_
  refine g_aload_n dL_law_597 rfl ?_
  refine g_iload_n dL_law_598 rfl ?_
  refine g_iconst (v := 3) dL_law_599 (by decide) ?_
  refine g_iadd dL_law_600 ?_
  refine g_sl (i + 3) dL_law_601 (nI_add i 3) (by omega) hN ?_
  refine g_V3 dL_law_602 vL_73 rfl (Nat.le_of_ble_eq_true rfl) (by omega) e1 ?_
  refine g_aload_n dL_law_605 rfl ?_
  refine g_aload_n dL_law_606 rfl ?_
  refine g_iload_n dL_law_607 rfl ?_
  refine g_iconst (v := 1) dL_law_608 (by decide) ?_
  refine g_iadd dL_law_609 ?_
  refine g_sl (i + 1) dL_law_610 (nI_add i 1) (by omega) hN ?_
  refine g_aload_n dL_law_611 rfl ?_
  refine g_iload_n dL_law_612 rfl ?_
  refine g_iconst (v := 2) dL_law_613 (by decide) ?_
  refine g_iadd dL_law_614 ?_
  refine g_sl (i + 2) dL_law_615 (nI_add i 2) (by omega) hN ?_
  refine g_aload_n dL_law_616 rfl ?_
  refine g_iload_n dL_law_617 rfl ?_
  refine g_iconst (v := 3) dL_law_618 (by decide) ?_
  refine g_iadd dL_law_619 ?_
  refine g_sl (i + 3) dL_law_620 (nI_add i 3) (by omega) hN ?_
  refine g_V3 dL_law_621 vL_76 rfl (Nat.le_of_ble_eq_true rfl) (by omega) e2 ?_
  exact g_iceq (tgt := 857) dL_law_624 (by decide) (fun _ => k σ2 hI2) (fun z => absurd rfl z)
theorem lw_15 {i B : Nat} (hI : Inv σ B) (hB : B + 64 < 2 ^ 30) (hi : i + 5 ≤ N) (hN : N ≤ 2560) (k : ∀ σ2, Inv σ2 (B + 64) → G ML 8 (some (N, xs)) Post 857 [.ref 99, .ref 0, .ref 19, .int (nI i)] [] σ2) : G ML 8 (some (N, xs)) Post 629 [.ref 99, .ref 0, .ref 19, .int (nI i)] [] σ := by
  obtain ⟨h1, h2, x, σ1, σ2, g1, g2, e1, e2, hI2⟩ := st_frame hI (xs (i + 1))
  refine g_aload_n dL_law_629 rfl ?_
  refine g_aload_n dL_law_630 rfl ?_
  refine g_iload_n dL_law_631 rfl ?_
  refine g_iconst (v := 1) dL_law_632 (by decide) ?_
  refine g_iadd dL_law_633 ?_
  refine g_sl (i + 1) dL_law_634 (nI_add i 1) (by omega) hN ?_
  refine g_V1 dL_law_635 vL_77 rfl (Nat.le_of_ble_eq_true rfl) (by omega) e1 ?_
  refine g_aload_n dL_law_638 rfl ?_
  refine g_aload_n dL_law_639 rfl ?_
  refine g_iload_n dL_law_640 rfl ?_
  refine g_iconst (v := 1) dL_law_641 (by decide) ?_
  refine g_iadd dL_law_642 ?_
  refine g_sl (i + 1) dL_law_643 (nI_add i 1) (by omega) hN ?_
  refine g_V1 dL_law_644 vL_80 rfl (Nat.le_of_ble_eq_true rfl) (by omega) e2 ?_
  exact g_iceq (tgt := 857) dL_law_647 (by decide) (fun _ => k σ2 hI2) (fun z => absurd rfl z)
theorem lw_16 {i B : Nat} (hI : Inv σ B) (hB : B + 64 < 2 ^ 30) (hi : i + 5 ≤ N) (hN : N ≤ 2560) (k : ∀ σ2, Inv σ2 (B + 64) → G ML 8 (some (N, xs)) Post 857 [.ref 99, .ref 0, .ref 19, .int (nI i)] [] σ2) : G ML 8 (some (N, xs)) Post 652 [.ref 99, .ref 0, .ref 19, .int (nI i)] [] σ := by
  obtain ⟨h1, h2, x, σ1, σ2, g1, g2, e1, e2, hI2⟩ := st_place hI (xs (i + 1))
  refine g_aload_n dL_law_652 rfl ?_
  refine g_aload_n dL_law_653 rfl ?_
  refine g_iload_n dL_law_654 rfl ?_
  refine g_iconst (v := 1) dL_law_655 (by decide) ?_
  refine g_iadd dL_law_656 ?_
  refine g_sl (i + 1) dL_law_657 (nI_add i 1) (by omega) hN ?_
  refine g_V1 dL_law_658 vL_81 rfl (Nat.le_of_ble_eq_true rfl) (by omega) e1 ?_
  refine g_aload_n dL_law_661 rfl ?_
  refine g_aload_n dL_law_662 rfl ?_
  refine g_iload_n dL_law_663 rfl ?_
  refine g_iconst (v := 1) dL_law_664 (by decide) ?_
  refine g_iadd dL_law_665 ?_
  refine g_sl (i + 1) dL_law_666 (nI_add i 1) (by omega) hN ?_
  refine g_V1 dL_law_667 vL_84 rfl (Nat.le_of_ble_eq_true rfl) (by omega) e2 ?_
  exact g_iceq (tgt := 857) dL_law_670 (by decide) (fun _ => k σ2 hI2) (fun z => absurd rfl z)
theorem lw_17 {i B : Nat} (hI : Inv σ B) (hB : B + 64 < 2 ^ 30) (hi : i + 5 ≤ N) (hN : N ≤ 2560) (k : ∀ σ2, Inv σ2 (B + 64) → G ML 8 (some (N, xs)) Post 857 [.ref 99, .ref 0, .ref 19, .int (nI i)] [] σ2) : G ML 8 (some (N, xs)) Post 675 [.ref 99, .ref 0, .ref 19, .int (nI i)] [] σ := by
  obtain ⟨h1, h2, x, σ1, σ2, g1, g2, e1, e2, hI2⟩ := st_retired hI (xs (i + 1))
  refine g_aload_n dL_law_675 rfl ?_
  refine g_aload_n dL_law_676 rfl ?_
  refine g_iload_n dL_law_677 rfl ?_
  refine g_iconst (v := 1) dL_law_678 (by decide) ?_
  refine g_iadd dL_law_679 ?_
  refine g_sl (i + 1) dL_law_680 (nI_add i 1) (by omega) hN ?_
  refine g_V1 dL_law_681 vL_85 rfl (Nat.le_of_ble_eq_true rfl) (by omega) e1 ?_
  refine g_aload_n dL_law_684 rfl ?_
  refine g_aload_n dL_law_685 rfl ?_
  refine g_iload_n dL_law_686 rfl ?_
  refine g_iconst (v := 1) dL_law_687 (by decide) ?_
  refine g_iadd dL_law_688 ?_
  refine g_sl (i + 1) dL_law_689 (nI_add i 1) (by omega) hN ?_
  refine g_V1 dL_law_690 vL_88 rfl (Nat.le_of_ble_eq_true rfl) (by omega) e2 ?_
  exact g_iceq (tgt := 857) dL_law_693 (by decide) (fun _ => k σ2 hI2) (fun z => absurd rfl z)
theorem lw_18 {i B : Nat} (hI : Inv σ B) (hB : B + 64 < 2 ^ 30) (hi : i + 5 ≤ N) (hN : N ≤ 2560) (k : ∀ σ2, Inv σ2 (B + 64) → G ML 8 (some (N, xs)) Post 857 [.ref 99, .ref 0, .ref 19, .int (nI i)] [] σ2) : G ML 8 (some (N, xs)) Post 698 [.ref 99, .ref 0, .ref 19, .int (nI i)] [] σ := by
  obtain ⟨h1, h2, x, σ1, σ2, g1, g2, e1, e2, hI2⟩ := st_troubled hI (xs (i + 1))
  refine g_aload_n dL_law_698 rfl ?_
  refine g_aload_n dL_law_699 rfl ?_
  refine g_iload_n dL_law_700 rfl ?_
  refine g_iconst (v := 1) dL_law_701 (by decide) ?_
  refine g_iadd dL_law_702 ?_
  refine g_sl (i + 1) dL_law_703 (nI_add i 1) (by omega) hN ?_
  refine g_V1 dL_law_704 vL_89 rfl (Nat.le_of_ble_eq_true rfl) (by omega) e1 ?_
  refine g_aload_n dL_law_707 rfl ?_
  refine g_aload_n dL_law_708 rfl ?_
  refine g_iload_n dL_law_709 rfl ?_
  refine g_iconst (v := 1) dL_law_710 (by decide) ?_
  refine g_iadd dL_law_711 ?_
  refine g_sl (i + 1) dL_law_712 (nI_add i 1) (by omega) hN ?_
  refine g_V1 dL_law_713 vL_92 rfl (Nat.le_of_ble_eq_true rfl) (by omega) e2 ?_
  exact g_iceq (tgt := 857) dL_law_716 (by decide) (fun _ => k σ2 hI2) (fun z => absurd rfl z)
theorem lw_19 {i B : Nat} (hI : Inv σ B) (hB : B + 64 < 2 ^ 30) (hi : i + 5 ≤ N) (hN : N ≤ 2560) (k : ∀ σ2, Inv σ2 (B + 64) → G ML 8 (some (N, xs)) Post 857 [.ref 99, .ref 0, .ref 19, .int (nI i)] [] σ2) : G ML 8 (some (N, xs)) Post 721 [.ref 99, .ref 0, .ref 19, .int (nI i)] [] σ := by
  obtain ⟨h1, h2, x, σ1, σ2, g1, g2, e1, e2, hI2⟩ := st_mends hI (xs (i + 1))
  refine g_aload_n dL_law_721 rfl ?_
  refine g_aload_n dL_law_722 rfl ?_
  refine g_iload_n dL_law_723 rfl ?_
  refine g_iconst (v := 1) dL_law_724 (by decide) ?_
  refine g_iadd dL_law_725 ?_
  refine g_sl (i + 1) dL_law_726 (nI_add i 1) (by omega) hN ?_
  refine g_V1 dL_law_727 vL_93 rfl (Nat.le_of_ble_eq_true rfl) (by omega) e1 ?_
  refine g_aload_n dL_law_730 rfl ?_
  refine g_aload_n dL_law_731 rfl ?_
  refine g_iload_n dL_law_732 rfl ?_
  refine g_iconst (v := 1) dL_law_733 (by decide) ?_
  refine g_iadd dL_law_734 ?_
  refine g_sl (i + 1) dL_law_735 (nI_add i 1) (by omega) hN ?_
  refine g_V1 dL_law_736 vL_96 rfl (Nat.le_of_ble_eq_true rfl) (by omega) e2 ?_
  exact g_iceq (tgt := 857) dL_law_739 (by decide) (fun _ => k σ2 hI2) (fun z => absurd rfl z)
theorem lw_20 {i B : Nat} (hI : Inv σ B) (hB : B + 64 < 2 ^ 30) (hi : i + 5 ≤ N) (hN : N ≤ 2560) (k : ∀ σ2, Inv σ2 (B + 64) → G ML 8 (some (N, xs)) Post 857 [.ref 99, .ref 0, .ref 19, .int (nI i)] [] σ2) : G ML 8 (some (N, xs)) Post 744 [.ref 99, .ref 0, .ref 19, .int (nI i)] [] σ := by
  obtain ⟨h1, h2, x, σ1, σ2, g1, g2, e1, e2, hI2⟩ := st_patterns hI (xs (i + 1)) (xs (i + 2))
  refine g_aload_n dL_law_744 rfl ?_
  refine g_aload_n dL_law_745 rfl ?_
  refine g_iload_n dL_law_746 rfl ?_
  refine g_iconst (v := 1) dL_law_747 (by decide) ?_
  refine g_iadd dL_law_748 ?_
  refine g_sl (i + 1) dL_law_749 (nI_add i 1) (by omega) hN ?_
  refine g_aload_n dL_law_750 rfl ?_
  refine g_iload_n dL_law_751 rfl ?_
  refine g_iconst (v := 2) dL_law_752 (by decide) ?_
  refine g_iadd dL_law_753 ?_
  refine g_sl (i + 2) dL_law_754 (nI_add i 2) (by omega) hN ?_
  refine g_V2 dL_law_755 vL_97 rfl (Nat.le_of_ble_eq_true rfl) (by omega) e1 ?_
  refine g_aload_n dL_law_758 rfl ?_
  refine g_aload_n dL_law_759 rfl ?_
  refine g_iload_n dL_law_760 rfl ?_
  refine g_iconst (v := 1) dL_law_761 (by decide) ?_
  refine g_iadd dL_law_762 ?_
  refine g_sl (i + 1) dL_law_763 (nI_add i 1) (by omega) hN ?_
  refine g_aload_n dL_law_764 rfl ?_
  refine g_iload_n dL_law_765 rfl ?_
  refine g_iconst (v := 2) dL_law_766 (by decide) ?_
  refine g_iadd dL_law_767 ?_
  refine g_sl (i + 2) dL_law_768 (nI_add i 2) (by omega) hN ?_
  refine g_V2 dL_law_769 vL_100 rfl (Nat.le_of_ble_eq_true rfl) (by omega) e2 ?_
  exact g_iceq (tgt := 857) dL_law_772 (by decide) (fun _ => k σ2 hI2) (fun z => absurd rfl z)
theorem lw_21 {i B : Nat} (hI : Inv σ B) (hB : B + 64 < 2 ^ 30) (hi : i + 5 ≤ N) (hN : N ≤ 2560) (k : ∀ σ2, Inv σ2 (B + 64) → G ML 8 (some (N, xs)) Post 857 [.ref 99, .ref 0, .ref 19, .int (nI i)] [] σ2) : G ML 8 (some (N, xs)) Post 777 [.ref 99, .ref 0, .ref 19, .int (nI i)] [] σ := by
  obtain ⟨h1, h2, x, σ1, σ2, g1, g2, e1, e2, hI2⟩ := st_weight hI 
  refine g_aload_n dL_law_777 rfl ?_
  refine g_V0 dL_law_778 vL_101 rfl (Nat.le_of_ble_eq_true rfl) (by omega) e1 ?_
  refine g_aload_n dL_law_781 rfl ?_
  refine g_V0 dL_law_782 vL_105 rfl (Nat.le_of_ble_eq_true rfl) (by omega) e2 ?_
  exact g_iceq (tgt := 857) dL_law_785 (by decide) (fun _ => k σ2 hI2) (fun z => absurd rfl z)
theorem lw_22 {i B : Nat} (hI : Inv σ B) (hB : B + 64 < 2 ^ 30) (hi : i + 5 ≤ N) (hN : N ≤ 2560) (k : ∀ σ2, Inv σ2 (B + 64) → G ML 8 (some (N, xs)) Post 857 [.ref 99, .ref 0, .ref 19, .int (nI i)] [] σ2) : G ML 8 (some (N, xs)) Post 790 [.ref 99, .ref 0, .ref 19, .int (nI i)] [] σ := by
  obtain ⟨x, e1, e2⟩ := st_safe (σ := σ) (xs (i + 1)) (xs (i + 2)) (xs (i + 3))
  refine g_aload_n dL_law_790 rfl ?_
  refine g_aload_n dL_law_791 rfl ?_
  refine g_iload_n dL_law_792 rfl ?_
  refine g_iconst (v := 1) dL_law_793 (by decide) ?_
  refine g_iadd dL_law_794 ?_
  refine g_sl (i + 1) dL_law_795 (nI_add i 1) (by omega) hN ?_
  refine g_aload_n dL_law_796 rfl ?_
  refine g_iload_n dL_law_797 rfl ?_
  refine g_iconst (v := 2) dL_law_798 (by decide) ?_
  refine g_iadd dL_law_799 ?_
  refine g_sl (i + 2) dL_law_800 (nI_add i 2) (by omega) hN ?_
  refine g_aload_n dL_law_801 rfl ?_
  refine g_iload_n dL_law_802 rfl ?_
  refine g_iconst (v := 3) dL_law_803 (by decide) ?_
  refine g_iadd dL_law_804 ?_
  refine g_sl (i + 3) dL_law_805 (nI_add i 3) (by omega) hN ?_
  refine g_V3 dL_law_806 vL_106 rfl (Nat.le_of_ble_eq_true rfl) (by decide) e1 ?_
  refine g_aload_n dL_law_809 rfl ?_
  refine g_aload_n dL_law_810 rfl ?_
  refine g_iload_n dL_law_811 rfl ?_
  refine g_iconst (v := 1) dL_law_812 (by decide) ?_
  refine g_iadd dL_law_813 ?_
  refine g_sl (i + 1) dL_law_814 (nI_add i 1) (by omega) hN ?_
  refine g_aload_n dL_law_815 rfl ?_
  refine g_iload_n dL_law_816 rfl ?_
  refine g_iconst (v := 2) dL_law_817 (by decide) ?_
  refine g_iadd dL_law_818 ?_
  refine g_sl (i + 2) dL_law_819 (nI_add i 2) (by omega) hN ?_
  refine g_aload_n dL_law_820 rfl ?_
  refine g_iload_n dL_law_821 rfl ?_
  refine g_iconst (v := 3) dL_law_822 (by decide) ?_
  refine g_iadd dL_law_823 ?_
  refine g_sl (i + 3) dL_law_824 (nI_add i 3) (by omega) hN ?_
  refine g_V3 dL_law_825 vL_110 rfl (Nat.le_of_ble_eq_true rfl) (by decide) e2 ?_
  refine g_lcmp dL_law_828 ?_
  exact g_ifeq (tgt := 857) dL_law_829 (by decide) (fun _ => k σ (hI.up (by omega))) (fun z => absurd (lg_cmp_self x) z)
theorem lw_23 {i B : Nat} (hI : Inv σ B) (hB : B + 64 < 2 ^ 30) (hi : i + 5 ≤ N) (hN : N ≤ 2560) (k : ∀ σ2, Inv σ2 (B + 64) → G ML 8 (some (N, xs)) Post 857 [.ref 99, .ref 0, .ref 19, .int (nI i)] [] σ2) : G ML 8 (some (N, xs)) Post 834 [.ref 99, .ref 0, .ref 19, .int (nI i)] [] σ := by
  obtain ⟨h1, h2, x, σ1, σ2, g1, g2, e1, e2, hI2⟩ := st_many hI (xs (i + 1))
  refine g_aload_n dL_law_834 rfl ?_
  refine g_aload_n dL_law_835 rfl ?_
  refine g_iload_n dL_law_836 rfl ?_
  refine g_iconst (v := 1) dL_law_837 (by decide) ?_
  refine g_iadd dL_law_838 ?_
  refine g_sl (i + 1) dL_law_839 (nI_add i 1) (by omega) hN ?_
  refine g_V1 dL_law_840 vL_111 rfl (Nat.le_of_ble_eq_true rfl) (by omega) e1 ?_
  refine g_aload_n dL_law_843 rfl ?_
  refine g_aload_n dL_law_844 rfl ?_
  refine g_iload_n dL_law_845 rfl ?_
  refine g_iconst (v := 1) dL_law_846 (by decide) ?_
  refine g_iadd dL_law_847 ?_
  refine g_sl (i + 1) dL_law_848 (nI_add i 1) (by omega) hN ?_
  refine g_V1 dL_law_849 vL_114 rfl (Nat.le_of_ble_eq_true rfl) (by omega) e2 ?_
  exact g_iceq (tgt := 857) dL_law_852 (by decide) (fun _ => k σ2 hI2) (fun z => absurd rfl z)
theorem lw_sw {i B : Nat} (hI : Inv σ B) (hB : B + 64 < 2 ^ 30) (hi : i + 5 ≤ N) (hN : N ≤ 2560) (k : ∀ σ2, Inv σ2 (B + 64) → G ML 8 (some (N, xs)) Post 857 [.ref 99, .ref 0, .ref 19, .int (nI i)] [] σ2) {x : Int32} (hx : ∃ j, j < 32 ∧ x = nI j) : G ML 8 (some (N, xs)) Post 32 [.ref 99, .ref 0, .ref 19, .int (nI i)] [.int x] σ := by
  obtain ⟨j, hj, rfl⟩ := hx
  rcases (show j = 0 ∨ j = 1 ∨ j = 2 ∨ j = 3 ∨ j = 4 ∨ j = 5 ∨ j = 6 ∨ j = 7 ∨ j = 8 ∨ j = 9 ∨ j = 10 ∨ j = 11 ∨ j = 12 ∨ j = 13 ∨ j = 14 ∨ j = 15 ∨ j = 16 ∨ j = 17 ∨ j = 18 ∨ j = 19 ∨ j = 20 ∨ j = 21 ∨ j = 22 ∨ j = 23 ∨ 24 ≤ j by omega) with rfl | rfl | rfl | rfl | rfl | rfl | rfl | rfl | rfl | rfl | rfl | rfl | rfl | rfl | rfl | rfl | rfl | rfl | rfl | rfl | rfl | rfl | rfl | rfl | hj2
  · exact g_tabIn (off := 112) (tgt := 144) dL_law_32 (by decide) (by decide) (by decide) (by decide) (lw_0 hI hB hi hN k)
  · exact g_tabIn (off := 145) (tgt := 177) dL_law_32 (by decide) (by decide) (by decide) (by decide) (lw_1 hI hB hi hN k)
  · exact g_tabIn (off := 168) (tgt := 200) dL_law_32 (by decide) (by decide) (by decide) (by decide) (lw_2 hI hB hi hN k)
  · exact g_tabIn (off := 191) (tgt := 223) dL_law_32 (by decide) (by decide) (by decide) (by decide) (lw_3 hI hB hi hN k)
  · exact g_tabIn (off := 214) (tgt := 246) dL_law_32 (by decide) (by decide) (by decide) (by decide) (lw_4 hI hB hi hN k)
  · exact g_tabIn (off := 237) (tgt := 269) dL_law_32 (by decide) (by decide) (by decide) (by decide) (lw_5 hI hB hi hN k)
  · exact g_tabIn (off := 260) (tgt := 292) dL_law_32 (by decide) (by decide) (by decide) (by decide) (lw_6 hI hB hi hN k)
  · exact g_tabIn (off := 303) (tgt := 335) dL_law_32 (by decide) (by decide) (by decide) (by decide) (lw_7 hI hB hi hN k)
  · exact g_tabIn (off := 336) (tgt := 368) dL_law_32 (by decide) (by decide) (by decide) (by decide) (lw_8 hI hB hi hN k)
  · exact g_tabIn (off := 369) (tgt := 401) dL_law_32 (by decide) (by decide) (by decide) (by decide) (lw_9 hI hB hi hN k)
  · exact g_tabIn (off := 412) (tgt := 444) dL_law_32 (by decide) (by decide) (by decide) (by decide) (lw_10 hI hB hi hN k)
  · exact g_tabIn (off := 465) (tgt := 497) dL_law_32 (by decide) (by decide) (by decide) (by decide) (lw_11 hI hB hi hN k)
  · exact g_tabIn (off := 488) (tgt := 520) dL_law_32 (by decide) (by decide) (by decide) (by decide) (lw_12 hI hB hi hN k)
  · exact g_tabIn (off := 511) (tgt := 543) dL_law_32 (by decide) (by decide) (by decide) (by decide) (lw_13 hI hB hi hN k)
  · exact g_tabIn (off := 554) (tgt := 586) dL_law_32 (by decide) (by decide) (by decide) (by decide) (lw_14 hI hB hi hN k)
  · exact g_tabIn (off := 597) (tgt := 629) dL_law_32 (by decide) (by decide) (by decide) (by decide) (lw_15 hI hB hi hN k)
  · exact g_tabIn (off := 620) (tgt := 652) dL_law_32 (by decide) (by decide) (by decide) (by decide) (lw_16 hI hB hi hN k)
  · exact g_tabIn (off := 643) (tgt := 675) dL_law_32 (by decide) (by decide) (by decide) (by decide) (lw_17 hI hB hi hN k)
  · exact g_tabIn (off := 666) (tgt := 698) dL_law_32 (by decide) (by decide) (by decide) (by decide) (lw_18 hI hB hi hN k)
  · exact g_tabIn (off := 689) (tgt := 721) dL_law_32 (by decide) (by decide) (by decide) (by decide) (lw_19 hI hB hi hN k)
  · exact g_tabIn (off := 712) (tgt := 744) dL_law_32 (by decide) (by decide) (by decide) (by decide) (lw_20 hI hB hi hN k)
  · exact g_tabIn (off := 745) (tgt := 777) dL_law_32 (by decide) (by decide) (by decide) (by decide) (lw_21 hI hB hi hN k)
  · exact g_tabIn (off := 758) (tgt := 790) dL_law_32 (by decide) (by decide) (by decide) (by decide) (lw_22 hI hB hi hN k)
  · exact g_tabIn (off := 802) (tgt := 834) dL_law_32 (by decide) (by decide) (by decide) (by decide) (lw_23 hI hB hi hN k)
  · exact g_tabOut (tgt := 857) dL_law_32 (Or.inr (by rw [nI_toInt (by omega)]; omega)) (by decide) (k σ (hI.up (by omega)))
theorem lw_end {i N : Nat} (hi : i ≤ 2560) (hN : N ≤ 2560) : Int32.ofNat N - 5 < nI i ↔ N < i + 5 := by
  rcases Nat.lt_or_ge N 5 with h | h
  · have key : ∀ N, N < 5 → Int32.ofNat N - 5 < 0 := by decide
    have h1 := key N h
    have h2 : (0 : Int32) ≤ nI i := nI_pos' (by omega)
    exact ⟨fun _ => by omega, fun _ => Int32.lt_of_lt_of_le h1 h2⟩
  · have e : Int32.ofNat N - 5 = nI (N - 5) := by
      show nI N - nI 5 = nI (N - 5)
      rw [pk_sub h]
    rw [e, nI_ltI (by omega) (by omega)]
    omega
theorem lw_loop (hN : N ≤ 2560) (hP : ∀ σ, Post (some (.int 1)) σ) : ∀ (m i B : Nat) (σ : r_Sg), N - i ≤ m → i ≤ N → B ≤ 13 * i → Inv σ B → G ML 8 (some (N, xs)) Post 18 [.ref 99, .ref 0, .ref 19, .int (nI i)] [] σ := by
  intro m
  induction m with
  | zero =>
    intro i B σ hm hi hB hI
    refine g_iload_n dL_law_18 rfl ?_
    refine g_aload_n dL_law_19 rfl ?_
    refine g_slen dL_law_20 ?_
    refine g_iconst (v := 5) dL_law_21 (by decide) ?_
    refine g_isub dL_law_22 ?_
    refine g_icgt (tgt := 863) dL_law_23 (by decide) (fun z => ?_) (fun z => absurd ((lw_end (by omega) hN).mpr (by omega)) z)
    refine g_iconst (v := 1) dL_law_863 (by decide) ?_
    exact g_zret dL_law_864 rfl (Or.inr rfl) (hP σ)
  | succ m ih =>
    intro i B σ hm hi hB hI
    refine g_iload_n dL_law_18 rfl ?_
    refine g_aload_n dL_law_19 rfl ?_
    refine g_slen dL_law_20 ?_
    refine g_iconst (v := 5) dL_law_21 (by decide) ?_
    refine g_isub dL_law_22 ?_
    refine g_icgt (tgt := 863) dL_law_23 (by decide) (fun z => ?_) (fun z => ?_)
    · refine g_iconst (v := 1) dL_law_863 (by decide) ?_
      exact g_zret dL_law_864 rfl (Or.inr rfl) (hP σ)
    · have h5 : i + 5 ≤ N := by
        rcases Nat.lt_or_ge N (i + 5) with z2 | z2
        · exact absurd ((lw_end (by omega) hN).mpr z2) z
        · exact z2
      refine g_aload_n dL_law_26 rfl ?_
      refine g_iload_n dL_law_27 rfl ?_
      refine g_sl i dL_law_28 rfl (by omega) hN ?_
      refine g_bipush (v := 31) dL_law_29 (by decide) ?_
      refine g_iand dL_law_31 ?_
      refine lw_sw hI (by omega) h5 hN (fun σ2 hI2 => ?_) ?_
      · refine g_iinc (v := nI (i + 5)) dL_law_857 rfl (nI_add i 5) (by decide) rfl ?_
        refine g_goto (tgt := 18) dL_law_860 (by decide) ?_
        exact ih (i + 5) (B + 64) σ2 (by omega) h5 (by omega) hI2
      · obtain ⟨j, hj, e⟩ := pk_andE (xs i) (m := 31) 5 rfl
        exact ⟨j, by omega, e⟩
end Law
