/-! the law: each of its cases -/
theorem lc_letter {X : LxT} (C : Lx X) (hL : lenX X ≤ 2048) {i : Nat} (hi : i + 4 ≤ lenX X) {σ : St} {n q y t u : Nat} (R : RelE σ n q y t u) (kk : ∀ υ, RelB υ → LV X 1030 (LVS i) [] υ) : LV X 192 (LVS i) [] σ := by
  obtain ⟨⟨⟨a1, a2, a3, a4, a5, a6, a7, a8, a9, a10, a11⟩, b1, b2, b3, b4, b5, b6⟩, Rw, S, K⟩ := id R
  refine l_aload_n C dL_law_192 rfl rfl rfl ?_
  refine l_arg C (d := 1) dL_law_193 dL_law_194 dL_law_195 dL_law_196 dL_law_197 rfl (by omega) hL rfl ?_
  refine l_call C (k := 18) (by decide) rfl rfl (As := [.int (scrX X (i + 1))]) (rest := []) (kX5_letter (scrX X (i + 1)) t σ b4 a9) rfl (by decide) (by decide) ⟨ll_13, mfX5_letter⟩ dkX5_letter (Nat.le_of_ble_eq_true rfl) dL_law_198 rfl (lmx (lx_letter) (fun v τ hv hl => ?_))
  refine l_pop C dL_law_201 rfl ?_
  refine l_aload_n C dL_law_202 rfl rfl rfl ?_
  refine l_arg C (d := 1) dL_law_203 dL_law_204 dL_law_205 dL_law_206 dL_law_207 rfl (by omega) hL rfl ?_
  refine l_call C (k := 0) (by decide) rfl rfl (As := [.int (scrX X (i + 1))]) (rest := []) (kX6_letter (scrX X (i + 1)) t τ (by rw [hl 0 (by decide)]; exact a8) a9) rfl (by decide) (by decide) ⟨ll_17, mfX6_letter⟩ dkX6_letter (Nat.le_of_ble_eq_true rfl) dL_law_208 rfl (lmm (lm_letter R hv) (fun υ hυ => ?_))
  refine l_pop C dL_law_211 rfl ?_
  exact l_goto C dL_law_212 (by decide) (kk υ hυ)
theorem lc_house {X : LxT} (C : Lx X) (hL : lenX X ≤ 2048) {i : Nat} (hi : i + 4 ≤ lenX X) {σ : St} {n q y t u : Nat} (R : RelE σ n q y t u) (kk : ∀ υ, RelB υ → LV X 1030 (LVS i) [] υ) : LV X 215 (LVS i) [] σ := by
  obtain ⟨⟨⟨a1, a2, a3, a4, a5, a6, a7, a8, a9, a10, a11⟩, b1, b2, b3, b4, b5, b6⟩, Rw, S, K⟩ := id R
  refine l_aload_n C dL_law_215 rfl rfl rfl ?_
  refine l_call C (k := 18) (by decide) rfl rfl (As := []) (rest := []) (kX5_house t y n σ b1 a2 b4 a9 b3 a7) rfl (by decide) (by decide) ⟨ll_18, mfX5_house⟩ dkX5_house (Nat.le_of_ble_eq_true rfl) dL_law_216 rfl (lmx (lx_house R) (fun v τ hv hl => ?_))
  refine l_pop C dL_law_219 rfl ?_
  refine l_aload_n C dL_law_220 rfl rfl rfl ?_
  refine l_call C (k := 0) (by decide) rfl rfl (As := []) (rest := []) (kX6_house t τ (by rw [hl 0 (by decide)]; exact a8) a9 ⟨n, y, (by rw [hl 0 (by decide)]; exact a1), a2, (by rw [hl 0 (by decide)]; exact a6), a7⟩) rfl (by decide) (by decide) ⟨ll_22, mfX6_house⟩ dkX6_house (Nat.le_of_ble_eq_true rfl) dL_law_221 rfl (lmm (lm_house R hv hl) (fun υ hυ => ?_))
  refine l_pop C dL_law_224 rfl ?_
  exact l_goto C dL_law_225 (by decide) (kk υ hυ)
theorem lc_piece {X : LxT} (C : Lx X) (hL : lenX X ≤ 2048) {i : Nat} (hi : i + 4 ≤ lenX X) {σ : St} {n q y t u : Nat} (R : RelE σ n q y t u) (kk : ∀ υ, RelB υ → LV X 1030 (LVS i) [] υ) : LV X 228 (LVS i) [] σ := by
  obtain ⟨⟨⟨a1, a2, a3, a4, a5, a6, a7, a8, a9, a10, a11⟩, b1, b2, b3, b4, b5, b6⟩, Rw, S, K⟩ := id R
  refine l_aload_n C dL_law_228 rfl rfl rfl ?_
  refine l_arg C (d := 1) dL_law_229 dL_law_230 dL_law_231 dL_law_232 dL_law_233 rfl (by omega) hL rfl ?_
  refine l_arg C (d := 2) dL_law_234 dL_law_235 dL_law_236 dL_law_237 dL_law_238 rfl (by omega) hL rfl ?_
  refine l_call C (k := 18) (by decide) rfl rfl (As := [.int (scrX X (i + 1)), .int (scrX X (i + 2))]) (rest := []) (kX5_piece (scrX X (i + 1)) (scrX X (i + 2)) n σ b1 a2) rfl (by decide) (by decide) ⟨ll_23, mfX5_piece⟩ dkX5_piece (Nat.le_of_ble_eq_true rfl) dL_law_239 rfl (lqx (qx_f (Kx.ans σ _)) (fun τ hx => ?_))
  refine l_pop C dL_law_242 rfl ?_
  refine l_aload_n C dL_law_243 rfl rfl rfl ?_
  refine l_arg C (d := 1) dL_law_244 dL_law_245 dL_law_246 dL_law_247 dL_law_248 rfl (by omega) hL rfl ?_
  refine l_arg C (d := 2) dL_law_249 dL_law_250 dL_law_251 dL_law_252 dL_law_253 rfl (by omega) hL rfl ?_
  refine l_call C (k := 0) (by decide) rfl rfl (As := [.int (scrX X (i + 1)), .int (scrX X (i + 2))]) (rest := []) (kX6_piece (scrX X (i + 1)) (scrX X (i + 2)) n τ (by rw [hx.1 0 (by decide)]; exact a1) a2) rfl (by decide) (by decide) ⟨ll_27, mfX6_piece⟩ dkX6_piece (Nat.le_of_ble_eq_true rfl) dL_law_254 rfl (lqm (qm_f (km_pie τ n _ _)) (fun υ hm => ?_))
  refine l_pop C dL_law_257 rfl ?_
  exact l_goto C dL_law_258 (by decide) (kk υ (rel_km hm (rel_kx hx R.b)))
theorem lc_carry {X : LxT} (C : Lx X) (hL : lenX X ≤ 2048) {i : Nat} (hi : i + 4 ≤ lenX X) {σ : St} {n q y t u : Nat} (R : RelE σ n q y t u) (kk : ∀ υ, RelB υ → LV X 1030 (LVS i) [] υ) : LV X 261 (LVS i) [] σ := by
  obtain ⟨⟨⟨a1, a2, a3, a4, a5, a6, a7, a8, a9, a10, a11⟩, b1, b2, b3, b4, b5, b6⟩, Rw, S, K⟩ := id R
  refine l_aload_n C dL_law_261 rfl rfl rfl ?_
  refine l_arg C (d := 1) dL_law_262 dL_law_263 dL_law_264 dL_law_265 dL_law_266 rfl (by omega) hL rfl ?_
  refine l_arg C (d := 2) dL_law_267 dL_law_268 dL_law_269 dL_law_270 dL_law_271 rfl (by omega) hL rfl ?_
  refine l_call C (k := 18) (by decide) rfl rfl (As := [.int (scrX X (i + 1)), .int (scrX X (i + 2))]) (rest := []) (kX5_carry (scrX X (i + 1)) (scrX X (i + 2)) n σ b1 a2) rfl (by decide) (by decide) ⟨ll_28, mfX5_carry⟩ dkX5_carry (Nat.le_of_ble_eq_true rfl) dL_law_272 rfl (lmx (lx_carry) (fun v τ hv hl => ?_))
  refine l_pop C dL_law_275 rfl ?_
  refine l_aload_n C dL_law_276 rfl rfl rfl ?_
  refine l_arg C (d := 1) dL_law_277 dL_law_278 dL_law_279 dL_law_280 dL_law_281 rfl (by omega) hL rfl ?_
  refine l_arg C (d := 2) dL_law_282 dL_law_283 dL_law_284 dL_law_285 dL_law_286 rfl (by omega) hL rfl ?_
  refine l_call C (k := 0) (by decide) rfl rfl (As := [.int (scrX X (i + 1)), .int (scrX X (i + 2))]) (rest := []) (kX6_carry (scrX X (i + 1)) (scrX X (i + 2)) n τ (by rw [hl 0 (by decide)]; exact a1) a2) rfl (by decide) (by decide) ⟨ll_31, mfX6_carry⟩ dkX6_carry (Nat.le_of_ble_eq_true rfl) dL_law_287 rfl (lmm (lm_carry R hv hl) (fun υ hυ => ?_))
  refine l_pop C dL_law_290 rfl ?_
  exact l_goto C dL_law_291 (by decide) (kk υ hυ)
theorem lc_stands {X : LxT} (C : Lx X) (hL : lenX X ≤ 2048) {i : Nat} (hi : i + 4 ≤ lenX X) {σ : St} {n q y t u : Nat} (R : RelE σ n q y t u) (kk : ∀ υ, RelB υ → LV X 1030 (LVS i) [] υ) : LV X 294 (LVS i) [] σ := by
  obtain ⟨⟨⟨a1, a2, a3, a4, a5, a6, a7, a8, a9, a10, a11⟩, b1, b2, b3, b4, b5, b6⟩, Rw, S, K⟩ := id R
  refine l_aload_n C dL_law_294 rfl rfl rfl ?_
  refine l_arg C (d := 1) dL_law_295 dL_law_296 dL_law_297 dL_law_298 dL_law_299 rfl (by omega) hL rfl ?_
  refine l_arg C (d := 2) dL_law_300 dL_law_301 dL_law_302 dL_law_303 dL_law_304 rfl (by omega) hL rfl ?_
  refine l_call C (k := 18) (by decide) rfl rfl (As := [.int (scrX X (i + 1)), .int (scrX X (i + 2))]) (rest := []) (kX5_stands (scrX X (i + 1)) (scrX X (i + 2)) n σ b1 a2) rfl (by decide) (by decide) ⟨ll_32, mfX5_stands⟩ dkX5_stands (Nat.le_of_ble_eq_true rfl) dL_law_305 rfl (lqx (qx_f (kx_cI σ _)) (fun τ hx => ?_))
  refine l_pop C dL_law_308 rfl ?_
  refine l_aload_n C dL_law_309 rfl rfl rfl ?_
  refine l_arg C (d := 1) dL_law_310 dL_law_311 dL_law_312 dL_law_313 dL_law_314 rfl (by omega) hL rfl ?_
  refine l_arg C (d := 2) dL_law_315 dL_law_316 dL_law_317 dL_law_318 dL_law_319 rfl (by omega) hL rfl ?_
  refine l_call C (k := 0) (by decide) rfl rfl (As := [.int (scrX X (i + 1)), .int (scrX X (i + 2))]) (rest := []) (kX6_stands (scrX X (i + 1)) (scrX X (i + 2)) n τ (by rw [hx.1 0 (by decide)]; exact a1) a2) rfl (by decide) (by decide) ⟨ll_35, mfX6_stands⟩ dkX6_stands (Nat.le_of_ble_eq_true rfl) dL_law_320 rfl (lqm (qm_f (km_cI τ 1)) (fun υ hm => ?_))
  refine l_pop C dL_law_323 rfl ?_
  exact l_goto C dL_law_324 (by decide) (kk υ (rel_km hm (rel_kx hx R.b)))
theorem lc_polish {X : LxT} (C : Lx X) (hL : lenX X ≤ 2048) {i : Nat} (hi : i + 4 ≤ lenX X) {σ : St} {n q y t u : Nat} (R : RelE σ n q y t u) (kk : ∀ υ, RelB υ → LV X 1030 (LVS i) [] υ) : LV X 327 (LVS i) [] σ := by
  obtain ⟨⟨⟨a1, a2, a3, a4, a5, a6, a7, a8, a9, a10, a11⟩, b1, b2, b3, b4, b5, b6⟩, Rw, S, K⟩ := id R
  refine l_aload_n C dL_law_327 rfl rfl rfl ?_
  refine l_arg C (d := 1) dL_law_328 dL_law_329 dL_law_330 dL_law_331 dL_law_332 rfl (by omega) hL rfl ?_
  refine l_call C (k := 18) (by decide) rfl rfl (As := [.int (scrX X (i + 1))]) (rest := []) (kX5_polish (scrX X (i + 1)) n σ b1 a2) rfl (by decide) (by decide) ⟨ll_36, mfX5_polish⟩ dkX5_polish (Nat.le_of_ble_eq_true rfl) dL_law_333 rfl (lmx (lx_polish) (fun v τ hv hl => ?_))
  refine l_pop C dL_law_336 rfl ?_
  refine l_aload_n C dL_law_337 rfl rfl rfl ?_
  refine l_arg C (d := 1) dL_law_338 dL_law_339 dL_law_340 dL_law_341 dL_law_342 rfl (by omega) hL rfl ?_
  refine l_call C (k := 0) (by decide) rfl rfl (As := [.int (scrX X (i + 1))]) (rest := []) (kX6_polish (scrX X (i + 1)) n τ (by rw [hl 0 (by decide)]; exact a1) a2) rfl (by decide) (by decide) ⟨ll_39, mfX6_polish⟩ dkX6_polish (Nat.le_of_ble_eq_true rfl) dL_law_343 rfl (lmm (lm_polish R hv hl) (fun υ hυ => ?_))
  refine l_pop C dL_law_346 rfl ?_
  exact l_goto C dL_law_347 (by decide) (kk υ hυ)
theorem lc_size {X : LxT} (C : Lx X) (hL : lenX X ≤ 2048) {i : Nat} (hi : i + 4 ≤ lenX X) {σ : St} {n q y t u : Nat} (R : RelE σ n q y t u) (kk : ∀ υ, RelB υ → LV X 1030 (LVS i) [] υ) : LV X 350 (LVS i) [] σ := by
  obtain ⟨⟨⟨a1, a2, a3, a4, a5, a6, a7, a8, a9, a10, a11⟩, b1, b2, b3, b4, b5, b6⟩, Rw, S, K⟩ := id R
  refine l_aload_n C dL_law_350 rfl rfl rfl ?_
  refine l_arg C (d := 1) dL_law_351 dL_law_352 dL_law_353 dL_law_354 dL_law_355 rfl (by omega) hL rfl ?_
  refine l_arg C (d := 2) dL_law_356 dL_law_357 dL_law_358 dL_law_359 dL_law_360 rfl (by omega) hL rfl ?_
  refine l_call C (k := 18) (by decide) rfl rfl (As := [.int (scrX X (i + 1)), .int (scrX X (i + 2))]) (rest := []) (kX5_size (scrX X (i + 1)) (scrX X (i + 2)) n σ b1 a2) rfl (by decide) (by decide) ⟨ll_40, mfX5_size⟩ dkX5_size (Nat.le_of_ble_eq_true rfl) dL_law_361 rfl (lmx (lx_size) (fun v τ hv hl => ?_))
  refine l_pop C dL_law_364 rfl ?_
  refine l_aload_n C dL_law_365 rfl rfl rfl ?_
  refine l_arg C (d := 1) dL_law_366 dL_law_367 dL_law_368 dL_law_369 dL_law_370 rfl (by omega) hL rfl ?_
  refine l_arg C (d := 2) dL_law_371 dL_law_372 dL_law_373 dL_law_374 dL_law_375 rfl (by omega) hL rfl ?_
  refine l_call C (k := 0) (by decide) rfl rfl (As := [.int (scrX X (i + 1)), .int (scrX X (i + 2))]) (rest := []) (kX6_size (scrX X (i + 1)) (scrX X (i + 2)) n τ (by rw [hl 0 (by decide)]; exact a1) a2) rfl (by decide) (by decide) ⟨ll_43, mfX6_size⟩ dkX6_size (Nat.le_of_ble_eq_true rfl) dL_law_376 rfl (lmm (lm_size R hv hl) (fun υ hυ => ?_))
  refine l_pop C dL_law_379 rfl ?_
  exact l_goto C dL_law_380 (by decide) (kk υ hυ)
theorem lc_wide {X : LxT} (C : Lx X) (hL : lenX X ≤ 2048) {i : Nat} (hi : i + 4 ≤ lenX X) {σ : St} {n q y t u : Nat} (R : RelE σ n q y t u) (kk : ∀ υ, RelB υ → LV X 1030 (LVS i) [] υ) : LV X 383 (LVS i) [] σ := by
  obtain ⟨⟨⟨a1, a2, a3, a4, a5, a6, a7, a8, a9, a10, a11⟩, b1, b2, b3, b4, b5, b6⟩, Rw, S, K⟩ := id R
  refine l_aload_n C dL_law_383 rfl rfl rfl ?_
  refine l_arg C (d := 1) dL_law_384 dL_law_385 dL_law_386 dL_law_387 dL_law_388 rfl (by omega) hL rfl ?_
  refine l_arg C (d := 2) dL_law_389 dL_law_390 dL_law_391 dL_law_392 dL_law_393 rfl (by omega) hL rfl ?_
  refine l_call C (k := 18) (by decide) rfl rfl (As := [.int (scrX X (i + 1)), .int (scrX X (i + 2))]) (rest := []) (kX5_wide (scrX X (i + 1)) (scrX X (i + 2)) σ) rfl (by decide) (by decide) ⟨ll_44, mfX5_wide⟩ dkX5_wide (Nat.le_of_ble_eq_true rfl) dL_law_394 rfl (lmx (lx_wide (n := n)) (fun v τ hv hl => ?_))
  refine l_pop C dL_law_397 rfl ?_
  refine l_aload_n C dL_law_398 rfl rfl rfl ?_
  refine l_arg C (d := 1) dL_law_399 dL_law_400 dL_law_401 dL_law_402 dL_law_403 rfl (by omega) hL rfl ?_
  refine l_arg C (d := 2) dL_law_404 dL_law_405 dL_law_406 dL_law_407 dL_law_408 rfl (by omega) hL rfl ?_
  refine l_call C (k := 0) (by decide) rfl rfl (As := [.int (scrX X (i + 1)), .int (scrX X (i + 2))]) (rest := []) (kX6_wide (scrX X (i + 1)) (scrX X (i + 2)) τ) rfl (by decide) (by decide) ⟨ll_47, mfX6_wide⟩ dkX6_wide (Nat.le_of_ble_eq_true rfl) dL_law_409 rfl (lmm (lm_wide R hv hl) (fun υ hυ => ?_))
  refine l_pop C dL_law_412 rfl ?_
  exact l_goto C dL_law_413 (by decide) (kk υ hυ)
theorem lc_heirs {X : LxT} (C : Lx X) (hL : lenX X ≤ 2048) {i : Nat} (hi : i + 4 ≤ lenX X) {σ : St} {n q y t u : Nat} (R : RelE σ n q y t u) (kk : ∀ υ, RelB υ → LV X 1030 (LVS i) [] υ) : LV X 416 (LVS i) [] σ := by
  obtain ⟨⟨⟨a1, a2, a3, a4, a5, a6, a7, a8, a9, a10, a11⟩, b1, b2, b3, b4, b5, b6⟩, Rw, S, K⟩ := id R
  refine l_aload_n C dL_law_416 rfl rfl rfl ?_
  refine l_arg C (d := 1) dL_law_417 dL_law_418 dL_law_419 dL_law_420 dL_law_421 rfl (by omega) hL rfl ?_
  refine l_call C (k := 18) (by decide) rfl rfl (As := [.int (scrX X (i + 1))]) (rest := []) (kX5_heirs (scrX X (i + 1)) σ) rfl (by decide) (by decide) ⟨ll_48, mfX5_heirs⟩ dkX5_heirs (Nat.le_of_ble_eq_true rfl) dL_law_422 rfl (lmx (lx_heirs (n := n)) (fun v τ hv hl => ?_))
  refine l_pop C dL_law_425 rfl ?_
  refine l_aload_n C dL_law_426 rfl rfl rfl ?_
  refine l_arg C (d := 1) dL_law_427 dL_law_428 dL_law_429 dL_law_430 dL_law_431 rfl (by omega) hL rfl ?_
  refine l_call C (k := 0) (by decide) rfl rfl (As := [.int (scrX X (i + 1))]) (rest := []) (kX6_heirs (scrX X (i + 1)) τ) rfl (by decide) (by decide) ⟨ll_51, mfX6_heirs⟩ dkX6_heirs (Nat.le_of_ble_eq_true rfl) dL_law_432 rfl (lmm (lm_heirs R hv hl) (fun υ hυ => ?_))
  refine l_pop C dL_law_435 rfl ?_
  exact l_goto C dL_law_436 (by decide) (kk υ hυ)
theorem lc_years {X : LxT} (C : Lx X) (hL : lenX X ≤ 2048) {i : Nat} (hi : i + 4 ≤ lenX X) {σ : St} {n q y t u : Nat} (R : RelE σ n q y t u) (kk : ∀ υ, RelB υ → LV X 1030 (LVS i) [] υ) : LV X 439 (LVS i) [] σ := by
  obtain ⟨⟨⟨a1, a2, a3, a4, a5, a6, a7, a8, a9, a10, a11⟩, b1, b2, b3, b4, b5, b6⟩, Rw, S, K⟩ := id R
  refine l_aload_n C dL_law_439 rfl rfl rfl ?_
  refine l_arg C (d := 1) dL_law_440 dL_law_441 dL_law_442 dL_law_443 dL_law_444 rfl (by omega) hL rfl ?_
  refine l_call C (k := 18) (by decide) rfl rfl (As := [.int (scrX X (i + 1))]) (rest := []) (kX5_years (scrX X (i + 1)) y n σ b1 a2 b3 a7) rfl (by decide) (by decide) ⟨ll_52, mfX5_years⟩ dkX5_years (Nat.le_of_ble_eq_true rfl) dL_law_445 rfl (lmx (lx_years) (fun v τ hv hl => ?_))
  refine l_pop C dL_law_448 rfl ?_
  refine l_aload_n C dL_law_449 rfl rfl rfl ?_
  refine l_arg C (d := 1) dL_law_450 dL_law_451 dL_law_452 dL_law_453 dL_law_454 rfl (by omega) hL rfl ?_
  refine l_call C (k := 0) (by decide) rfl rfl (As := [.int (scrX X (i + 1))]) (rest := []) (kX6_years (scrX X (i + 1)) n y τ (by rw [hl 0 (by decide)]; exact a1) a2 (by rw [hl 0 (by decide)]; exact a6) a7) rfl (by decide) (by decide) ⟨ll_55, mfX6_years⟩ dkX6_years (Nat.le_of_ble_eq_true rfl) dL_law_455 rfl (lmm (lm_years R rfl hv hl) (fun υ hυ => ?_))
  refine l_pop C dL_law_458 rfl ?_
  exact l_goto C dL_law_459 (by decide) (kk υ hυ)
theorem lc_blame {X : LxT} (C : Lx X) (hL : lenX X ≤ 2048) {i : Nat} (hi : i + 4 ≤ lenX X) {σ : St} {n q y t u : Nat} (R : RelE σ n q y t u) (kk : ∀ υ, RelB υ → LV X 1030 (LVS i) [] υ) : LV X 462 (LVS i) [] σ := by
  obtain ⟨⟨⟨a1, a2, a3, a4, a5, a6, a7, a8, a9, a10, a11⟩, b1, b2, b3, b4, b5, b6⟩, Rw, S, K⟩ := id R
  refine l_aload_n C dL_law_462 rfl rfl rfl ?_
  refine l_arg C (d := 1) dL_law_463 dL_law_464 dL_law_465 dL_law_466 dL_law_467 rfl (by omega) hL rfl ?_
  refine l_call C (k := 18) (by decide) rfl rfl (As := [.int (scrX X (i + 1))]) (rest := []) (kX5_blame (scrX X (i + 1)) n σ b1 a2) rfl (by decide) (by decide) ⟨ll_56, mfX5_blame⟩ dkX5_blame (Nat.le_of_ble_eq_true rfl) dL_law_468 rfl (lqx (qx_f (kx_bla σ _)) (fun τ hx => ?_))
  refine l_pop C dL_law_471 rfl ?_
  refine l_aload_n C dL_law_472 rfl rfl rfl ?_
  refine l_arg C (d := 1) dL_law_473 dL_law_474 dL_law_475 dL_law_476 dL_law_477 rfl (by omega) hL rfl ?_
  refine l_call C (k := 0) (by decide) rfl rfl (As := [.int (scrX X (i + 1))]) (rest := []) (kX6_blame (scrX X (i + 1)) n τ (by rw [hx.1 0 (by decide)]; exact a1) a2) rfl (by decide) (by decide) ⟨ll_59, mfX6_blame⟩ dkX6_blame (Nat.le_of_ble_eq_true rfl) dL_law_478 rfl (lqm (qm_f (km_cI τ 1)) (fun υ hm => ?_))
  refine l_pop C dL_law_481 rfl ?_
  exact l_goto C dL_law_482 (by decide) (kk υ (rel_km hm (rel_kx hx R.b)))
theorem lc_worst {X : LxT} (C : Lx X) (hL : lenX X ≤ 2048) {i : Nat} (hi : i + 4 ≤ lenX X) {σ : St} {n q y t u : Nat} (R : RelE σ n q y t u) (kk : ∀ υ, RelB υ → LV X 1030 (LVS i) [] υ) : LV X 485 (LVS i) [] σ := by
  obtain ⟨⟨⟨a1, a2, a3, a4, a5, a6, a7, a8, a9, a10, a11⟩, b1, b2, b3, b4, b5, b6⟩, Rw, S, K⟩ := id R
  refine l_aload_n C dL_law_485 rfl rfl rfl ?_
  refine l_call C (k := 18) (by decide) rfl rfl (As := []) (rest := []) (kX5_worst n σ b1 a2) rfl (by decide) (by decide) ⟨ll_60, mfX5_worst⟩ dkX5_worst (Nat.le_of_ble_eq_true rfl) dL_law_486 rfl (lqx (qx_f (Kx.rf σ)) (fun τ hx => ?_))
  refine l_pop C dL_law_489 rfl ?_
  refine l_aload_n C dL_law_490 rfl rfl rfl ?_
  refine l_call C (k := 0) (by decide) rfl rfl (As := []) (rest := []) (kX6_worst n τ (by rw [hx.1 0 (by decide)]; exact a1) a2) rfl (by decide) (by decide) ⟨ll_63, mfX6_worst⟩ dkX6_worst (Nat.le_of_ble_eq_true rfl) dL_law_491 rfl (lqm (qm_f (Km.rf τ)) (fun υ hm => ?_))
  refine l_pop C dL_law_494 rfl ?_
  exact l_goto C dL_law_495 (by decide) (kk υ (rel_km hm (rel_kx hx R.b)))
theorem lc_crowded {X : LxT} (C : Lx X) (hL : lenX X ≤ 2048) {i : Nat} (hi : i + 4 ≤ lenX X) {σ : St} {n q y t u : Nat} (R : RelE σ n q y t u) (kk : ∀ υ, RelB υ → LV X 1030 (LVS i) [] υ) : LV X 498 (LVS i) [] σ := by
  obtain ⟨⟨⟨a1, a2, a3, a4, a5, a6, a7, a8, a9, a10, a11⟩, b1, b2, b3, b4, b5, b6⟩, Rw, S, K⟩ := id R
  refine l_aload_n C dL_law_498 rfl rfl rfl ?_
  refine l_call C (k := 18) (by decide) rfl rfl (As := []) (rest := []) (kX5_crowded n σ b1 a2) rfl (by decide) (by decide) ⟨ll_64, mfX5_crowded⟩ dkX5_crowded (Nat.le_of_ble_eq_true rfl) dL_law_499 rfl (lqx (qx_f (Kx.rf σ)) (fun τ hx => ?_))
  refine l_pop C dL_law_502 rfl ?_
  refine l_aload_n C dL_law_503 rfl rfl rfl ?_
  refine l_call C (k := 0) (by decide) rfl rfl (As := []) (rest := []) (kX6_crowded n τ (by rw [hx.1 0 (by decide)]; exact a1) a2) rfl (by decide) (by decide) ⟨ll_67, mfX6_crowded⟩ dkX6_crowded (Nat.le_of_ble_eq_true rfl) dL_law_504 rfl (lqm (qm_f (Km.rf τ)) (fun υ hm => ?_))
  refine l_pop C dL_law_507 rfl ?_
  exact l_goto C dL_law_508 (by decide) (kk υ (rel_km hm (rel_kx hx R.b)))
theorem lc_placing {X : LxT} (C : Lx X) (hL : lenX X ≤ 2048) {i : Nat} (hi : i + 4 ≤ lenX X) {σ : St} {n q y t u : Nat} (R : RelE σ n q y t u) (kk : ∀ υ, RelB υ → LV X 1030 (LVS i) [] υ) : LV X 511 (LVS i) [] σ := by
  obtain ⟨⟨⟨a1, a2, a3, a4, a5, a6, a7, a8, a9, a10, a11⟩, b1, b2, b3, b4, b5, b6⟩, Rw, S, K⟩ := id R
  refine l_aload_n C dL_law_511 rfl rfl rfl ?_
  refine l_arg C (d := 1) dL_law_512 dL_law_513 dL_law_514 dL_law_515 dL_law_516 rfl (by omega) hL rfl ?_
  refine l_arg C (d := 2) dL_law_517 dL_law_518 dL_law_519 dL_law_520 dL_law_521 rfl (by omega) hL rfl ?_
  refine l_arg C (d := 3) dL_law_522 dL_law_523 dL_law_524 dL_law_525 dL_law_526 rfl (by omega) hL rfl ?_
  refine l_call C (k := 18) (by decide) rfl rfl (As := [.int (scrX X (i + 1)), .int (scrX X (i + 2)), .int (scrX X (i + 3))]) (rest := []) (kX5_placing (scrX X (i + 1)) (scrX X (i + 2)) (scrX X (i + 3)) n σ b1 a2 (rel_s19 R)) rfl (by decide) (by decide) ⟨ll_68, mfX5_placing⟩ dkX5_placing (Nat.le_of_ble_eq_true rfl) dL_law_527 rfl (lqx (qx_r (fun _ h => kx_2a Kx.plk h)) (fun τ hx => ?_))
  refine l_pop C dL_law_530 rfl ?_
  refine l_aload_n C dL_law_531 rfl rfl rfl ?_
  refine l_arg C (d := 1) dL_law_532 dL_law_533 dL_law_534 dL_law_535 dL_law_536 rfl (by omega) hL rfl ?_
  refine l_arg C (d := 2) dL_law_537 dL_law_538 dL_law_539 dL_law_540 dL_law_541 rfl (by omega) hL rfl ?_
  refine l_arg C (d := 3) dL_law_542 dL_law_543 dL_law_544 dL_law_545 dL_law_546 rfl (by omega) hL rfl ?_
  refine l_call C (k := 0) (by decide) rfl rfl (As := [.int (scrX X (i + 1)), .int (scrX X (i + 2)), .int (scrX X (i + 3))]) (rest := []) (kX6_placing (scrX X (i + 1)) (scrX X (i + 2)) (scrX X (i + 3)) n τ (by rw [hx.1 0 (by decide)]; exact a1) a2) rfl (by decide) (by decide) ⟨ll_72, mfX6_placing⟩ dkX6_placing (Nat.le_of_ble_eq_true rfl) dL_law_547 rfl (lqm (qm_r (fun _ h => Km.rfk h)) (fun υ hm => ?_))
  refine l_pop C dL_law_550 rfl ?_
  exact l_goto C dL_law_551 (by decide) (kk υ (rel_km hm (rel_kx hx R.b)))
theorem lc_innocent {X : LxT} (C : Lx X) (hL : lenX X ≤ 2048) {i : Nat} (hi : i + 4 ≤ lenX X) {σ : St} {n q y t u : Nat} (R : RelE σ n q y t u) (kk : ∀ υ, RelB υ → LV X 1030 (LVS i) [] υ) : LV X 554 (LVS i) [] σ := by
  obtain ⟨⟨⟨a1, a2, a3, a4, a5, a6, a7, a8, a9, a10, a11⟩, b1, b2, b3, b4, b5, b6⟩, Rw, S, K⟩ := id R
  refine l_aload_n C dL_law_554 rfl rfl rfl ?_
  refine l_call C (k := 18) (by decide) rfl rfl (As := []) (rest := []) (kX5_innocent n σ b1 a2 (rel_s19 R)) rfl (by decide) (by decide) ⟨ll_73, mfX5_innocent⟩ dkX5_innocent (Nat.le_of_ble_eq_true rfl) dL_law_555 rfl (lqx (qx_r (fun _ h => kx_2a Kx.plk h)) (fun τ hx => ?_))
  refine l_pop C dL_law_558 rfl ?_
  refine l_aload_n C dL_law_559 rfl rfl rfl ?_
  refine l_call C (k := 0) (by decide) rfl rfl (As := []) (rest := []) (kX6_innocent n τ (by rw [hx.1 0 (by decide)]; exact a1) a2) rfl (by decide) (by decide) ⟨ll_76, mfX6_innocent⟩ dkX6_innocent (Nat.le_of_ble_eq_true rfl) dL_law_560 rfl (lqm (qm_r (fun _ h => Km.rfk h)) (fun υ hm => ?_))
  refine l_pop C dL_law_563 rfl ?_
  exact l_goto C dL_law_564 (by decide) (kk υ (rel_km hm (rel_kx hx R.b)))
theorem lc_shares {X : LxT} (C : Lx X) (hL : lenX X ≤ 2048) {i : Nat} (hi : i + 4 ≤ lenX X) {σ : St} {n q y t u : Nat} (R : RelE σ n q y t u) (kk : ∀ υ, RelB υ → LV X 1030 (LVS i) [] υ) : LV X 567 (LVS i) [] σ := by
  obtain ⟨⟨⟨a1, a2, a3, a4, a5, a6, a7, a8, a9, a10, a11⟩, b1, b2, b3, b4, b5, b6⟩, Rw, S, K⟩ := id R
  refine l_aload_n C dL_law_567 rfl rfl rfl ?_
  refine l_arg C (d := 1) dL_law_568 dL_law_569 dL_law_570 dL_law_571 dL_law_572 rfl (by omega) hL rfl ?_
  refine l_call C (k := 18) (by decide) rfl rfl (As := [.int (scrX X (i + 1))]) (rest := []) (kX5_shares (scrX X (i + 1)) n σ b1 a2 q b2 a4 a5 (rel_bls R)) rfl (by decide) (by decide) ⟨ll_77, mfX5_shares⟩ dkX5_shares (Nat.le_of_ble_eq_true rfl) dL_law_573 rfl (lqx (qx_r (fun _ h => kx_2a Kx.shk h)) (fun τ hx => ?_))
  refine l_pop C dL_law_576 rfl ?_
  refine l_aload_n C dL_law_577 rfl rfl rfl ?_
  refine l_arg C (d := 1) dL_law_578 dL_law_579 dL_law_580 dL_law_581 dL_law_582 rfl (by omega) hL rfl ?_
  refine l_call C (k := 0) (by decide) rfl rfl (As := [.int (scrX X (i + 1))]) (rest := []) (kX6_shares (scrX X (i + 1)) n τ (by rw [hx.1 0 (by decide)]; exact a1) a2 q (by rw [hx.1 0 (by decide)]; exact a3) a4 a5) rfl (by decide) (by decide) ⟨ll_80, mfX6_shares⟩ dkX6_shares (Nat.le_of_ble_eq_true rfl) dL_law_583 rfl (lqm (qm_r (fun _ h => km_3 h)) (fun υ hm => ?_))
  refine l_pop C dL_law_586 rfl ?_
  exact l_goto C dL_law_587 (by decide) (kk υ (rel_km hm (rel_kx hx R.b)))
theorem lc_dealt {X : LxT} (C : Lx X) (hL : lenX X ≤ 2048) {i : Nat} (hi : i + 4 ≤ lenX X) {σ : St} {n q y t u : Nat} (R : RelE σ n q y t u) (kk : ∀ υ, RelB υ → LV X 1030 (LVS i) [] υ) : LV X 590 (LVS i) [] σ := by
  obtain ⟨⟨⟨a1, a2, a3, a4, a5, a6, a7, a8, a9, a10, a11⟩, b1, b2, b3, b4, b5, b6⟩, Rw, S, K⟩ := id R
  refine l_aload_n C dL_law_590 rfl rfl rfl ?_
  refine l_arg C (d := 1) dL_law_591 dL_law_592 dL_law_593 dL_law_594 dL_law_595 rfl (by omega) hL rfl ?_
  refine l_call C (k := 18) (by decide) rfl rfl (As := [.int (scrX X (i + 1))]) (rest := []) (kX5_dealt (scrX X (i + 1)) n σ b1 a2 q b2 a4 a5) rfl (by decide) (by decide) ⟨ll_81, mfX5_dealt⟩ dkX5_dealt (Nat.le_of_ble_eq_true rfl) dL_law_596 rfl (lqx (qx_r (fun _ h => kx_2a Kx.shk h)) (fun τ hx => ?_))
  refine l_pop C dL_law_599 rfl ?_
  refine l_aload_n C dL_law_600 rfl rfl rfl ?_
  refine l_arg C (d := 1) dL_law_601 dL_law_602 dL_law_603 dL_law_604 dL_law_605 rfl (by omega) hL rfl ?_
  refine l_call C (k := 0) (by decide) rfl rfl (As := [.int (scrX X (i + 1))]) (rest := []) (kX6_dealt (scrX X (i + 1)) n τ (by rw [hx.1 0 (by decide)]; exact a1) a2 q (by rw [hx.1 0 (by decide)]; exact a3) a4 a5) rfl (by decide) (by decide) ⟨ll_84, mfX6_dealt⟩ dkX6_dealt (Nat.le_of_ble_eq_true rfl) dL_law_606 rfl (lqm (qm_r (fun _ h => km_3 h)) (fun υ hm => ?_))
  refine l_pop C dL_law_609 rfl ?_
  exact l_goto C dL_law_610 (by decide) (kk υ (rel_km hm (rel_kx hx R.b)))
theorem lc_envy {X : LxT} (C : Lx X) (hL : lenX X ≤ 2048) {i : Nat} (hi : i + 4 ≤ lenX X) {σ : St} {n q y t u : Nat} (R : RelE σ n q y t u) (kk : ∀ υ, RelB υ → LV X 1030 (LVS i) [] υ) : LV X 613 (LVS i) [] σ := by
  obtain ⟨⟨⟨a1, a2, a3, a4, a5, a6, a7, a8, a9, a10, a11⟩, b1, b2, b3, b4, b5, b6⟩, Rw, S, K⟩ := id R
  refine l_aload_n C dL_law_613 rfl rfl rfl ?_
  refine l_call C (k := 18) (by decide) rfl rfl (As := []) (rest := []) (kX5_envy n σ b1 a2 q b2 a4 a5 (rel_bls R)) rfl (by decide) (by decide) ⟨ll_85, mfX5_envy⟩ dkX5_envy (Nat.le_of_ble_eq_true rfl) dL_law_614 rfl (lqx (qx_r (fun _ h => Kx.shk h)) (fun τ hx => ?_))
  refine l_pop C dL_law_617 rfl ?_
  refine l_aload_n C dL_law_618 rfl rfl rfl ?_
  refine l_call C (k := 0) (by decide) rfl rfl (As := []) (rest := []) (kX6_envy n τ (by rw [hx.1 0 (by decide)]; exact a1) a2 q (by rw [hx.1 0 (by decide)]; exact a3) a4 a5) rfl (by decide) (by decide) ⟨ll_88, mfX6_envy⟩ dkX6_envy (Nat.le_of_ble_eq_true rfl) dL_law_619 rfl (lqm (qm_r (fun _ h => Km.sm h)) (fun υ hm => ?_))
  refine l_pop C dL_law_622 rfl ?_
  exact l_goto C dL_law_623 (by decide) (kk υ (rel_km hm (rel_kx hx R.b)))
theorem lc_choice {X : LxT} (C : Lx X) (hL : lenX X ≤ 2048) {i : Nat} (hi : i + 4 ≤ lenX X) {σ : St} {n q y t u : Nat} (R : RelE σ n q y t u) (kk : ∀ υ, RelB υ → LV X 1030 (LVS i) [] υ) : LV X 626 (LVS i) [] σ := by
  obtain ⟨⟨⟨a1, a2, a3, a4, a5, a6, a7, a8, a9, a10, a11⟩, b1, b2, b3, b4, b5, b6⟩, Rw, S, K⟩ := id R
  refine l_aload_n C dL_law_626 rfl rfl rfl ?_
  refine l_arg C (d := 1) dL_law_627 dL_law_628 dL_law_629 dL_law_630 dL_law_631 rfl (by omega) hL rfl ?_
  refine l_call C (k := 18) (by decide) rfl rfl (As := [.int (scrX X (i + 1))]) (rest := []) (kX5_choice (scrX X (i + 1)) n σ b1 a2 q b2 a4 a5) rfl (by decide) (by decide) ⟨ll_89, mfX5_choice⟩ dkX5_choice (Nat.le_of_ble_eq_true rfl) dL_law_632 rfl (lqx (qx_r (fun _ h => kx_2a Kx.shk h)) (fun τ hx => ?_))
  refine l_pop C dL_law_635 rfl ?_
  refine l_aload_n C dL_law_636 rfl rfl rfl ?_
  refine l_arg C (d := 1) dL_law_637 dL_law_638 dL_law_639 dL_law_640 dL_law_641 rfl (by omega) hL rfl ?_
  refine l_call C (k := 0) (by decide) rfl rfl (As := [.int (scrX X (i + 1))]) (rest := []) (kX6_choice (scrX X (i + 1)) n τ (by rw [hx.1 0 (by decide)]; exact a1) a2 q (by rw [hx.1 0 (by decide)]; exact a3) a4 a5) rfl (by decide) (by decide) ⟨ll_92, mfX6_choice⟩ dkX6_choice (Nat.le_of_ble_eq_true rfl) dL_law_642 rfl (lqm (qm_r (fun _ h => km_3 h)) (fun υ hm => ?_))
  refine l_pop C dL_law_645 rfl ?_
  exact l_goto C dL_law_646 (by decide) (kk υ (rel_km hm (rel_kx hx R.b)))
theorem lc_sell {X : LxT} (C : Lx X) (hL : lenX X ≤ 2048) {i : Nat} (hi : i + 4 ≤ lenX X) {σ : St} {n q y t u : Nat} (R : RelE σ n q y t u) (kk : ∀ υ, RelB υ → LV X 1030 (LVS i) [] υ) : LV X 649 (LVS i) [] σ := by
  obtain ⟨⟨⟨a1, a2, a3, a4, a5, a6, a7, a8, a9, a10, a11⟩, b1, b2, b3, b4, b5, b6⟩, Rw, S, K⟩ := id R
  refine l_aload_n C dL_law_649 rfl rfl rfl ?_
  refine l_arg C (d := 1) dL_law_650 dL_law_651 dL_law_652 dL_law_653 dL_law_654 rfl (by omega) hL rfl ?_
  refine l_call C (k := 18) (by decide) rfl rfl (As := [.int (scrX X (i + 1))]) (rest := []) (kX5_sell (scrX X (i + 1)) n σ b1 a2) rfl (by decide) (by decide) ⟨ll_93, mfX5_sell⟩ dkX5_sell (Nat.le_of_ble_eq_true rfl) dL_law_655 rfl (lqx (qx_sell) (fun τ hx => ?_))
  refine l_pop C dL_law_658 rfl ?_
  refine l_aload_n C dL_law_659 rfl rfl rfl ?_
  refine l_arg C (d := 1) dL_law_660 dL_law_661 dL_law_662 dL_law_663 dL_law_664 rfl (by omega) hL rfl ?_
  refine l_call C (k := 0) (by decide) rfl rfl (As := [.int (scrX X (i + 1))]) (rest := []) (kX6_sell (scrX X (i + 1)) n τ (by rw [hx.1 0 (by decide)]; exact a1) a2) rfl (by decide) (by decide) ⟨ll_96, mfX6_sell⟩ dkX6_sell (Nat.le_of_ble_eq_true rfl) dL_law_665 rfl (lqm (qm_sell) (fun υ hm => ?_))
  refine l_pop C dL_law_668 rfl ?_
  exact l_goto C dL_law_669 (by decide) (kk υ (rel_km hm (rel_kx hx R.b)))
theorem lc_burn {X : LxT} (C : Lx X) (hL : lenX X ≤ 2048) {i : Nat} (hi : i + 4 ≤ lenX X) {σ : St} {n q y t u : Nat} (R : RelE σ n q y t u) (kk : ∀ υ, RelB υ → LV X 1030 (LVS i) [] υ) : LV X 672 (LVS i) [] σ := by
  obtain ⟨⟨⟨a1, a2, a3, a4, a5, a6, a7, a8, a9, a10, a11⟩, b1, b2, b3, b4, b5, b6⟩, Rw, S, K⟩ := id R
  refine l_aload_n C dL_law_672 rfl rfl rfl ?_
  refine l_call C (k := 18) (by decide) rfl rfl (As := []) (rest := []) (kX5_burn n σ b1 a2) rfl (by decide) (by decide) ⟨ll_97, mfX5_burn⟩ dkX5_burn (Nat.le_of_ble_eq_true rfl) dL_law_673 rfl (lqx (qx_r (fun _ h => Kx.thk h)) (fun τ hx => ?_))
  refine l_pop C dL_law_676 rfl ?_
  refine l_aload_n C dL_law_677 rfl rfl rfl ?_
  refine l_call C (k := 0) (by decide) rfl rfl (As := []) (rest := []) (kX6_burn n τ (by rw [hx.1 0 (by decide)]; exact a1) a2) rfl (by decide) (by decide) ⟨ll_100, mfX6_burn⟩ dkX6_burn (Nat.le_of_ble_eq_true rfl) dL_law_678 rfl (lqm (qm_r (fun _ h => Km.sm h)) (fun υ hm => ?_))
  refine l_pop C dL_law_681 rfl ?_
  exact l_goto C dL_law_682 (by decide) (kk υ (rel_km hm (rel_kx hx R.b)))
theorem lc_heavier {X : LxT} (C : Lx X) (hL : lenX X ≤ 2048) {i : Nat} (hi : i + 4 ≤ lenX X) {σ : St} {n q y t u : Nat} (R : RelE σ n q y t u) (kk : ∀ υ, RelB υ → LV X 1030 (LVS i) [] υ) : LV X 685 (LVS i) [] σ := by
  obtain ⟨⟨⟨a1, a2, a3, a4, a5, a6, a7, a8, a9, a10, a11⟩, b1, b2, b3, b4, b5, b6⟩, Rw, S, K⟩ := id R
  refine l_aload_n C dL_law_685 rfl rfl rfl ?_
  refine l_call C (k := 18) (by decide) rfl rfl (As := []) (rest := []) (kX5_heavier n σ b1 a2) rfl (by decide) (by decide) ⟨ll_101, mfX5_heavier⟩ dkX5_heavier (Nat.le_of_ble_eq_true rfl) dL_law_686 rfl (lqx (qx_r (fun _ h => Kx.thk h)) (fun τ hx => ?_))
  refine l_pop C dL_law_689 rfl ?_
  refine l_aload_n C dL_law_690 rfl rfl rfl ?_
  refine l_call C (k := 0) (by decide) rfl rfl (As := []) (rest := []) (kX6_heavier n τ (by rw [hx.1 0 (by decide)]; exact a1) a2) rfl (by decide) (by decide) ⟨ll_104, mfX6_heavier⟩ dkX6_heavier (Nat.le_of_ble_eq_true rfl) dL_law_691 rfl (lqm (qm_f (Km.rf τ)) (fun υ hm => ?_))
  refine l_pop C dL_law_694 rfl ?_
  exact l_goto C dL_law_695 (by decide) (kk υ (rel_km hm (rel_kx hx R.b)))
theorem lc_later {X : LxT} (C : Lx X) (hL : lenX X ≤ 2048) {i : Nat} (hi : i + 4 ≤ lenX X) {σ : St} {n q y t u : Nat} (R : RelE σ n q y t u) (kk : ∀ υ, RelB υ → LV X 1030 (LVS i) [] υ) : LV X 698 (LVS i) [] σ := by
  obtain ⟨⟨⟨a1, a2, a3, a4, a5, a6, a7, a8, a9, a10, a11⟩, b1, b2, b3, b4, b5, b6⟩, Rw, S, K⟩ := id R
  refine l_aload_n C dL_law_698 rfl rfl rfl ?_
  refine l_arg C (d := 1) dL_law_699 dL_law_700 dL_law_701 dL_law_702 dL_law_703 rfl (by omega) hL rfl ?_
  refine l_call C (k := 18) (by decide) rfl rfl (As := [.int (scrX X (i + 1))]) (rest := []) (kX5_later (scrX X (i + 1)) n σ b1 a2) rfl (by decide) (by decide) ⟨ll_105, mfX5_later⟩ dkX5_later (Nat.le_of_ble_eq_true rfl) dL_law_704 rfl (lqx (qx_r (fun _ h => Kx.asks h)) (fun τ hx => ?_))
  refine l_pop C dL_law_707 rfl ?_
  refine l_aload_n C dL_law_708 rfl rfl rfl ?_
  refine l_arg C (d := 1) dL_law_709 dL_law_710 dL_law_711 dL_law_712 dL_law_713 rfl (by omega) hL rfl ?_
  refine l_call C (k := 0) (by decide) rfl rfl (As := [.int (scrX X (i + 1))]) (rest := []) (kX6_later (scrX X (i + 1)) n τ (by rw [hx.1 0 (by decide)]; exact a1) a2) rfl (by decide) (by decide) ⟨ll_108, mfX6_later⟩ dkX6_later (Nat.le_of_ble_eq_true rfl) dL_law_714 rfl (lqm (qm_r (fun _ h => km_3 h)) (fun υ hm => ?_))
  refine l_pop C dL_law_717 rfl ?_
  exact l_goto C dL_law_718 (by decide) (kk υ (rel_km hm (rel_kx hx R.b)))
theorem lc_gone {X : LxT} (C : Lx X) (hL : lenX X ≤ 2048) {i : Nat} (hi : i + 4 ≤ lenX X) {σ : St} {n q y t u : Nat} (R : RelE σ n q y t u) (kk : ∀ υ, RelB υ → LV X 1030 (LVS i) [] υ) : LV X 721 (LVS i) [] σ := by
  obtain ⟨⟨⟨a1, a2, a3, a4, a5, a6, a7, a8, a9, a10, a11⟩, b1, b2, b3, b4, b5, b6⟩, Rw, S, K⟩ := id R
  refine l_aload_n C dL_law_721 rfl rfl rfl ?_
  refine l_arg C (d := 1) dL_law_722 dL_law_723 dL_law_724 dL_law_725 dL_law_726 rfl (by omega) hL rfl ?_
  refine l_call C (k := 18) (by decide) rfl rfl (As := [.int (scrX X (i + 1))]) (rest := []) (kX5_gone (scrX X (i + 1)) n σ b1 a2) rfl (by decide) (by decide) ⟨ll_109, mfX5_gone⟩ dkX5_gone (Nat.le_of_ble_eq_true rfl) dL_law_727 rfl (lqx (qx_r (fun _ h => Kx.asks h)) (fun τ hx => ?_))
  refine l_pop C dL_law_730 rfl ?_
  refine l_aload_n C dL_law_731 rfl rfl rfl ?_
  refine l_arg C (d := 1) dL_law_732 dL_law_733 dL_law_734 dL_law_735 dL_law_736 rfl (by omega) hL rfl ?_
  refine l_call C (k := 0) (by decide) rfl rfl (As := [.int (scrX X (i + 1))]) (rest := []) (kX6_gone (scrX X (i + 1)) n τ (by rw [hx.1 0 (by decide)]; exact a1) a2) rfl (by decide) (by decide) ⟨ll_112, mfX6_gone⟩ dkX6_gone (Nat.le_of_ble_eq_true rfl) dL_law_737 rfl (lqm (qm_r (fun _ h => km_3 h)) (fun υ hm => ?_))
  refine l_pop C dL_law_740 rfl ?_
  exact l_goto C dL_law_741 (by decide) (kk υ (rel_km hm (rel_kx hx R.b)))
theorem lc_whose {X : LxT} (C : Lx X) (hL : lenX X ≤ 2048) {i : Nat} (hi : i + 4 ≤ lenX X) {σ : St} {n q y t u : Nat} (R : RelE σ n q y t u) (kk : ∀ υ, RelB υ → LV X 1030 (LVS i) [] υ) : LV X 744 (LVS i) [] σ := by
  obtain ⟨⟨⟨a1, a2, a3, a4, a5, a6, a7, a8, a9, a10, a11⟩, b1, b2, b3, b4, b5, b6⟩, Rw, S, K⟩ := id R
  refine l_aload_n C dL_law_744 rfl rfl rfl ?_
  refine l_arg C (d := 1) dL_law_745 dL_law_746 dL_law_747 dL_law_748 dL_law_749 rfl (by omega) hL rfl ?_
  refine l_call C (k := 18) (by decide) rfl rfl (As := [.int (scrX X (i + 1))]) (rest := []) (kX5_whose (scrX X (i + 1)) n σ b1 a2) rfl (by decide) (by decide) ⟨ll_113, mfX5_whose⟩ dkX5_whose (Nat.le_of_ble_eq_true rfl) dL_law_750 rfl (lqx (qx_r (fun _ h => Kx.asks h)) (fun τ hx => ?_))
  refine l_pop C dL_law_753 rfl ?_
  refine l_aload_n C dL_law_754 rfl rfl rfl ?_
  refine l_arg C (d := 1) dL_law_755 dL_law_756 dL_law_757 dL_law_758 dL_law_759 rfl (by omega) hL rfl ?_
  refine l_call C (k := 0) (by decide) rfl rfl (As := [.int (scrX X (i + 1))]) (rest := []) (kX6_whose (scrX X (i + 1)) n τ (by rw [hx.1 0 (by decide)]; exact a1) a2) rfl (by decide) (by decide) ⟨ll_116, mfX6_whose⟩ dkX6_whose (Nat.le_of_ble_eq_true rfl) dL_law_760 rfl (lqm (qm_f (km_rf τ _ _)) (fun υ hm => ?_))
  refine l_pop C dL_law_763 rfl ?_
  exact l_goto C dL_law_764 (by decide) (kk υ (rel_km hm (rel_kx hx R.b)))
theorem lc_ask {X : LxT} (C : Lx X) (hL : lenX X ≤ 2048) {i : Nat} (hi : i + 4 ≤ lenX X) {σ : St} {n q y t u : Nat} (R : RelE σ n q y t u) (kk : ∀ υ, RelB υ → LV X 1030 (LVS i) [] υ) : LV X 767 (LVS i) [] σ := by
  obtain ⟨⟨⟨a1, a2, a3, a4, a5, a6, a7, a8, a9, a10, a11⟩, b1, b2, b3, b4, b5, b6⟩, Rw, S, K⟩ := id R
  refine l_aload_n C dL_law_767 rfl rfl rfl ?_
  refine l_arg C (d := 1) dL_law_768 dL_law_769 dL_law_770 dL_law_771 dL_law_772 rfl (by omega) hL rfl ?_
  refine l_call C (k := 18) (by decide) rfl rfl (As := [.int (scrX X (i + 1))]) (rest := []) (kX5_ask (scrX X (i + 1)) n σ b1 a2) rfl (by decide) (by decide) ⟨ll_117, mfX5_ask⟩ dkX5_ask (Nat.le_of_ble_eq_true rfl) dL_law_773 rfl (lqx (qx_r (fun _ h => Kx.asks h)) (fun τ hx => ?_))
  refine l_pop C dL_law_776 rfl ?_
  refine l_aload_n C dL_law_777 rfl rfl rfl ?_
  refine l_arg C (d := 1) dL_law_778 dL_law_779 dL_law_780 dL_law_781 dL_law_782 rfl (by omega) hL rfl ?_
  refine l_call C (k := 0) (by decide) rfl rfl (As := [.int (scrX X (i + 1))]) (rest := []) (kX6_ask (scrX X (i + 1)) n τ (by rw [hx.1 0 (by decide)]; exact a1) a2) rfl (by decide) (by decide) ⟨ll_120, mfX6_ask⟩ dkX6_ask (Nat.le_of_ble_eq_true rfl) dL_law_783 rfl (lqm (qm_f (km_rf τ _ _)) (fun υ hm => ?_))
  refine l_pop C dL_law_786 rfl ?_
  exact l_goto C dL_law_787 (by decide) (kk υ (rel_km hm (rel_kx hx R.b)))
theorem lc_wider {X : LxT} (C : Lx X) (hL : lenX X ≤ 2048) {i : Nat} (hi : i + 4 ≤ lenX X) {σ : St} {n q y t u : Nat} (R : RelE σ n q y t u) (kk : ∀ υ, RelB υ → LV X 1030 (LVS i) [] υ) : LV X 790 (LVS i) [] σ := by
  obtain ⟨⟨⟨a1, a2, a3, a4, a5, a6, a7, a8, a9, a10, a11⟩, b1, b2, b3, b4, b5, b6⟩, Rw, S, K⟩ := id R
  refine l_aload_n C dL_law_790 rfl rfl rfl ?_
  refine l_arg C (d := 1) dL_law_791 dL_law_792 dL_law_793 dL_law_794 dL_law_795 rfl (by omega) hL rfl ?_
  refine l_arg C (d := 2) dL_law_796 dL_law_797 dL_law_798 dL_law_799 dL_law_800 rfl (by omega) hL rfl ?_
  refine l_arg C (d := 3) dL_law_801 dL_law_802 dL_law_803 dL_law_804 dL_law_805 rfl (by omega) hL rfl ?_
  refine l_call C (k := 18) (by decide) rfl rfl (As := [.int (scrX X (i + 1)), .int (scrX X (i + 2)), .int (scrX X (i + 3))]) (rest := []) (kX5_wider (scrX X (i + 1)) (scrX X (i + 2)) (scrX X (i + 3)) n σ b1 a2) rfl (by decide) (by decide) ⟨ll_121, mfX5_wider⟩ dkX5_wider (Nat.le_of_ble_eq_true rfl) dL_law_806 rfl (lqx (qx_r (fun _ h => kx_2a Kx.thk h)) (fun τ hx => ?_))
  refine l_pop C dL_law_809 rfl ?_
  refine l_aload_n C dL_law_810 rfl rfl rfl ?_
  refine l_arg C (d := 1) dL_law_811 dL_law_812 dL_law_813 dL_law_814 dL_law_815 rfl (by omega) hL rfl ?_
  refine l_arg C (d := 2) dL_law_816 dL_law_817 dL_law_818 dL_law_819 dL_law_820 rfl (by omega) hL rfl ?_
  refine l_arg C (d := 3) dL_law_821 dL_law_822 dL_law_823 dL_law_824 dL_law_825 rfl (by omega) hL rfl ?_
  refine l_call C (k := 0) (by decide) rfl rfl (As := [.int (scrX X (i + 1)), .int (scrX X (i + 2)), .int (scrX X (i + 3))]) (rest := []) (kX6_wider (scrX X (i + 1)) (scrX X (i + 2)) (scrX X (i + 3)) n τ (by rw [hx.1 0 (by decide)]; exact a1) a2) rfl (by decide) (by decide) ⟨ll_124, mfX6_wider⟩ dkX6_wider (Nat.le_of_ble_eq_true rfl) dL_law_826 rfl (lqm (qm_f (km_cI τ 1)) (fun υ hm => ?_))
  refine l_pop C dL_law_829 rfl ?_
  exact l_goto C dL_law_830 (by decide) (kk υ (rel_km hm (rel_kx hx R.b)))
theorem lc_bigger {X : LxT} (C : Lx X) (hL : lenX X ≤ 2048) {i : Nat} (hi : i + 4 ≤ lenX X) {σ : St} {n q y t u : Nat} (R : RelE σ n q y t u) (kk : ∀ υ, RelB υ → LV X 1030 (LVS i) [] υ) : LV X 833 (LVS i) [] σ := by
  obtain ⟨⟨⟨a1, a2, a3, a4, a5, a6, a7, a8, a9, a10, a11⟩, b1, b2, b3, b4, b5, b6⟩, Rw, S, K⟩ := id R
  refine l_aload_n C dL_law_833 rfl rfl rfl ?_
  refine l_arg C (d := 1) dL_law_834 dL_law_835 dL_law_836 dL_law_837 dL_law_838 rfl (by omega) hL rfl ?_
  refine l_arg C (d := 2) dL_law_839 dL_law_840 dL_law_841 dL_law_842 dL_law_843 rfl (by omega) hL rfl ?_
  refine l_call C (k := 18) (by decide) rfl rfl (As := [.int (scrX X (i + 1)), .int (scrX X (i + 2))]) (rest := []) (kX5_bigger (scrX X (i + 1)) (scrX X (i + 2)) n σ b1 a2) rfl (by decide) (by decide) ⟨ll_125, mfX5_bigger⟩ dkX5_bigger (Nat.le_of_ble_eq_true rfl) dL_law_844 rfl (lqx (qx_r (fun _ h => kx_2a Kx.thk h)) (fun τ hx => ?_))
  refine l_pop C dL_law_847 rfl ?_
  refine l_aload_n C dL_law_848 rfl rfl rfl ?_
  refine l_arg C (d := 1) dL_law_849 dL_law_850 dL_law_851 dL_law_852 dL_law_853 rfl (by omega) hL rfl ?_
  refine l_arg C (d := 2) dL_law_854 dL_law_855 dL_law_856 dL_law_857 dL_law_858 rfl (by omega) hL rfl ?_
  refine l_call C (k := 0) (by decide) rfl rfl (As := [.int (scrX X (i + 1)), .int (scrX X (i + 2))]) (rest := []) (kX6_bigger (scrX X (i + 1)) (scrX X (i + 2)) n τ (by rw [hx.1 0 (by decide)]; exact a1) a2) rfl (by decide) (by decide) ⟨ll_128, mfX6_bigger⟩ dkX6_bigger (Nat.le_of_ble_eq_true rfl) dL_law_859 rfl (lqm (qm_f (km_cI τ 1)) (fun υ hm => ?_))
  refine l_pop C dL_law_862 rfl ?_
  exact l_goto C dL_law_863 (by decide) (kk υ (rel_km hm (rel_kx hx R.b)))
theorem lc_guest {X : LxT} (C : Lx X) (hL : lenX X ≤ 2048) {i : Nat} (hi : i + 4 ≤ lenX X) {σ : St} {n q y t u : Nat} (R : RelE σ n q y t u) (kk : ∀ υ, RelB υ → LV X 1030 (LVS i) [] υ) : LV X 866 (LVS i) [] σ := by
  obtain ⟨⟨⟨a1, a2, a3, a4, a5, a6, a7, a8, a9, a10, a11⟩, b1, b2, b3, b4, b5, b6⟩, Rw, S, K⟩ := id R
  refine l_aload_n C dL_law_866 rfl rfl rfl ?_
  refine l_arg C (d := 1) dL_law_867 dL_law_868 dL_law_869 dL_law_870 dL_law_871 rfl (by omega) hL rfl ?_
  refine l_call C (k := 18) (by decide) rfl rfl (As := [.int (scrX X (i + 1))]) (rest := []) (kX5_guest (scrX X (i + 1)) n σ b1 a2) rfl (by decide) (by decide) ⟨ll_129, mfX5_guest⟩ dkX5_guest (Nat.le_of_ble_eq_true rfl) dL_law_872 rfl (lqx (qx_f (kx_cI σ _)) (fun τ hx => ?_))
  refine l_pop C dL_law_875 rfl ?_
  refine l_aload_n C dL_law_876 rfl rfl rfl ?_
  refine l_arg C (d := 1) dL_law_877 dL_law_878 dL_law_879 dL_law_880 dL_law_881 rfl (by omega) hL rfl ?_
  refine l_call C (k := 0) (by decide) rfl rfl (As := [.int (scrX X (i + 1))]) (rest := []) (kX6_guest (scrX X (i + 1)) n τ (by rw [hx.1 0 (by decide)]; exact a1) a2) rfl (by decide) (by decide) ⟨ll_132, mfX6_guest⟩ dkX6_guest (Nat.le_of_ble_eq_true rfl) dL_law_882 rfl (lqm (qm_f (km_cI τ 1)) (fun υ hm => ?_))
  refine l_pop C dL_law_885 rfl ?_
  exact l_goto C dL_law_886 (by decide) (kk υ (rel_km hm (rel_kx hx R.b)))
theorem lc_row {X : LxT} (C : Lx X) (hL : lenX X ≤ 2048) {i : Nat} (hi : i + 4 ≤ lenX X) {σ : St} {n q y t u : Nat} (R : RelE σ n q y t u) (kk : ∀ υ, RelB υ → LV X 1030 (LVS i) [] υ) : LV X 889 (LVS i) [] σ := by
  obtain ⟨⟨⟨a1, a2, a3, a4, a5, a6, a7, a8, a9, a10, a11⟩, b1, b2, b3, b4, b5, b6⟩, Rw, S, K⟩ := id R
  refine l_aload_n C dL_law_889 rfl rfl rfl ?_
  refine l_arg C (d := 1) dL_law_890 dL_law_891 dL_law_892 dL_law_893 dL_law_894 rfl (by omega) hL rfl ?_
  refine l_call C (k := 18) (by decide) rfl rfl (As := [.int (scrX X (i + 1))]) (rest := []) (kX5_row (scrX X (i + 1)) u σ b5 a11) rfl (by decide) (by decide) ⟨ll_133, mfX5_row⟩ dkX5_row (Nat.le_of_ble_eq_true rfl) dL_law_895 rfl (lmx (lx_row) (fun v τ hv hl => ?_))
  refine l_pop C dL_law_898 rfl ?_
  refine l_aload_n C dL_law_899 rfl rfl rfl ?_
  refine l_arg C (d := 1) dL_law_900 dL_law_901 dL_law_902 dL_law_903 dL_law_904 rfl (by omega) hL rfl ?_
  refine l_call C (k := 0) (by decide) rfl rfl (As := [.int (scrX X (i + 1))]) (rest := []) (kX6_row (scrX X (i + 1)) u τ (by rw [hl 0 (by decide)]; exact a10) a11) rfl (by decide) (by decide) ⟨ll_136, mfX6_row⟩ dkX6_row (Nat.le_of_ble_eq_true rfl) dL_law_905 rfl (lmm (lm_row R hv) (fun υ hυ => ?_))
  refine l_pop C dL_law_908 rfl ?_
  exact l_goto C dL_law_909 (by decide) (kk υ hυ)
theorem lc_fits {X : LxT} (C : Lx X) (hL : lenX X ≤ 2048) {i : Nat} (hi : i + 4 ≤ lenX X) {σ : St} {n q y t u : Nat} (R : RelE σ n q y t u) (kk : ∀ υ, RelB υ → LV X 1030 (LVS i) [] υ) : LV X 912 (LVS i) [] σ := by
  obtain ⟨⟨⟨a1, a2, a3, a4, a5, a6, a7, a8, a9, a10, a11⟩, b1, b2, b3, b4, b5, b6⟩, Rw, S, K⟩ := id R
  refine l_aload_n C dL_law_912 rfl rfl rfl ?_
  refine l_arg C (d := 1) dL_law_913 dL_law_914 dL_law_915 dL_law_916 dL_law_917 rfl (by omega) hL rfl ?_
  refine l_call C (k := 18) (by decide) rfl rfl (As := [.int (scrX X (i + 1))]) (rest := []) (kX5_fits (scrX X (i + 1)) u n σ b1 a2 b5 a11) rfl (by decide) (by decide) ⟨ll_137, mfX5_fits⟩ dkX5_fits (Nat.le_of_ble_eq_true rfl) dL_law_918 rfl (lqx (qx_r (fun _ h => kx_2a Kx.thk h)) (fun τ hx => ?_))
  refine l_pop C dL_law_921 rfl ?_
  refine l_aload_n C dL_law_922 rfl rfl rfl ?_
  refine l_arg C (d := 1) dL_law_923 dL_law_924 dL_law_925 dL_law_926 dL_law_927 rfl (by omega) hL rfl ?_
  refine l_call C (k := 0) (by decide) rfl rfl (As := [.int (scrX X (i + 1))]) (rest := []) (kX6_fits (scrX X (i + 1)) n u τ (by rw [hx.1 0 (by decide)]; exact a1) a2 (by rw [hx.1 0 (by decide)]; exact a10) a11) rfl (by decide) (by decide) ⟨ll_140, mfX6_fits⟩ dkX6_fits (Nat.le_of_ble_eq_true rfl) dL_law_928 rfl (lqm (qm_r (fun _ h => km_2a Km.sm h)) (fun υ hm => ?_))
  refine l_pop C dL_law_931 rfl ?_
  exact l_goto C dL_law_932 (by decide) (kk υ (rel_km hm (rel_kx hx R.b)))
theorem lc_judge {X : LxT} (C : Lx X) (hL : lenX X ≤ 2048) {i : Nat} (hi : i + 4 ≤ lenX X) {σ : St} {n q y t u : Nat} (R : RelE σ n q y t u) (kk : ∀ υ, RelB υ → LV X 1030 (LVS i) [] υ) : LV X 935 (LVS i) [] σ := by
  obtain ⟨⟨⟨a1, a2, a3, a4, a5, a6, a7, a8, a9, a10, a11⟩, b1, b2, b3, b4, b5, b6⟩, Rw, S, K⟩ := id R
  refine l_aload_n C dL_law_935 rfl rfl rfl ?_
  refine l_call C (k := 18) (by decide) rfl rfl (As := []) (rest := []) (kX5_judge u n σ b1 a2 b5 a11) rfl (by decide) (by decide) ⟨ll_141, mfX5_judge⟩ dkX5_judge (Nat.le_of_ble_eq_true rfl) dL_law_936 rfl (lmx (lx_judge) (fun v τ hv hl => ?_))
  refine l_pop C dL_law_939 rfl ?_
  refine l_aload_n C dL_law_940 rfl rfl rfl ?_
  refine l_call C (k := 0) (by decide) rfl rfl (As := []) (rest := []) (kX6_judge n u τ (by rw [hl 0 (by decide)]; exact a1) a2 (by rw [hl 0 (by decide)]; exact a10) a11) rfl (by decide) (by decide) ⟨ll_144, mfX6_judge⟩ dkX6_judge (Nat.le_of_ble_eq_true rfl) dL_law_941 rfl (lmm (lm_judge R hv hl) (fun υ hυ => ?_))
  refine l_pop C dL_law_944 rfl ?_
  exact l_goto C dL_law_945 (by decide) (kk υ hυ)
theorem lc_lots {X : LxT} (C : Lx X) (hL : lenX X ≤ 2048) {i : Nat} (hi : i + 4 ≤ lenX X) {σ : St} {n q y t u : Nat} (R : RelE σ n q y t u) (kk : ∀ υ, RelB υ → LV X 1030 (LVS i) [] υ) : LV X 948 (LVS i) [] σ := by
  obtain ⟨⟨⟨a1, a2, a3, a4, a5, a6, a7, a8, a9, a10, a11⟩, b1, b2, b3, b4, b5, b6⟩, Rw, S, K⟩ := id R
  refine l_aload_n C dL_law_948 rfl rfl rfl ?_
  refine l_arg C (d := 1) dL_law_949 dL_law_950 dL_law_951 dL_law_952 dL_law_953 rfl (by omega) hL rfl ?_
  refine l_arg C (d := 2) dL_law_954 dL_law_955 dL_law_956 dL_law_957 dL_law_958 rfl (by omega) hL rfl ?_
  refine l_call C (k := 18) (by decide) rfl rfl (As := [.int (scrX X (i + 1)), .int (scrX X (i + 2))]) (rest := []) (kX5_lots (scrX X (i + 1)) (scrX X (i + 2)) n σ b1 a2) rfl (by decide) (by decide) ⟨ll_145, mfX5_lots⟩ dkX5_lots (Nat.le_of_ble_eq_true rfl) dL_law_959 rfl (lqx (qx_r (fun _ h => Kx.asks h)) (fun τ hx => ?_))
  refine l_pop C dL_law_962 rfl ?_
  refine l_aload_n C dL_law_963 rfl rfl rfl ?_
  refine l_arg C (d := 1) dL_law_964 dL_law_965 dL_law_966 dL_law_967 dL_law_968 rfl (by omega) hL rfl ?_
  refine l_arg C (d := 2) dL_law_969 dL_law_970 dL_law_971 dL_law_972 dL_law_973 rfl (by omega) hL rfl ?_
  refine l_call C (k := 0) (by decide) rfl rfl (As := [.int (scrX X (i + 1)), .int (scrX X (i + 2))]) (rest := []) (kX6_lots (scrX X (i + 1)) (scrX X (i + 2)) n τ (by rw [hx.1 0 (by decide)]; exact a1) a2) rfl (by decide) (by decide) ⟨ll_148, mfX6_lots⟩ dkX6_lots (Nat.le_of_ble_eq_true rfl) dL_law_974 rfl (lqm (qm_r (fun _ h => km_3 h)) (fun υ hm => ?_))
  refine l_pop C dL_law_977 rfl ?_
  exact l_goto C dL_law_978 (by decide) (kk υ (rel_km hm (rel_kx hx R.b)))
theorem lc_image {X : LxT} (C : Lx X) (hL : lenX X ≤ 2048) {i : Nat} (hi : i + 4 ≤ lenX X) {σ : St} {n q y t u : Nat} (R : RelE σ n q y t u) (kk : ∀ υ, RelB υ → LV X 1030 (LVS i) [] υ) : LV X 981 (LVS i) [] σ := by
  obtain ⟨⟨⟨a1, a2, a3, a4, a5, a6, a7, a8, a9, a10, a11⟩, b1, b2, b3, b4, b5, b6⟩, Rw, S, K⟩ := id R
  refine l_aload_n C dL_law_981 rfl rfl rfl ?_
  refine l_call C (k := 18) (by decide) rfl rfl (As := []) (rest := []) (kX5_image σ) rfl (by decide) (by decide) ⟨ll_149, mfX5_image⟩ dkX5_image (Nat.le_of_ble_eq_true rfl) dL_law_982 rfl (lmx (lx_image) (fun v τ hv hl => ?_))
  refine l_pop C dL_law_985 rfl ?_
  refine l_aload_n C dL_law_986 rfl rfl rfl ?_
  refine l_call C (k := 0) (by decide) rfl rfl (As := []) (rest := []) (kX6_image τ) rfl (by decide) (by decide) ⟨ll_152, mfX6_image⟩ dkX6_image (Nat.le_of_ble_eq_true rfl) dL_law_987 rfl (lmm (lm_image R hv hl) (fun υ hυ => ?_))
  refine l_pop C dL_law_990 rfl ?_
  exact l_goto C dL_law_991 (by decide) (kk υ hυ)
theorem lc_on {X : LxT} (C : Lx X) (hL : lenX X ≤ 2048) {i : Nat} (hi : i + 4 ≤ lenX X) {σ : St} {n q y t u : Nat} (R : RelE σ n q y t u) (kk : ∀ υ, RelB υ → LV X 1030 (LVS i) [] υ) : LV X 994 (LVS i) [] σ := by
  obtain ⟨⟨⟨a1, a2, a3, a4, a5, a6, a7, a8, a9, a10, a11⟩, b1, b2, b3, b4, b5, b6⟩, Rw, S, K⟩ := id R
  obtain ⟨kk1, kk2⟩ := K
  rcases kk2 with k0 | ⟨k1, _⟩
  · have hk0 : σ 18 3 = 0 := kk1.trans k0
    refine l_aload_n C dL_law_994 rfl rfl rfl ?_
    refine l_call C (k := 18) (by decide) rfl rfl (As := []) (rest := []) (kX5_on0 σ hk0) rfl (by decide) (by decide) ⟨ll_153, mfX5_on⟩ dkX5_on (Nat.le_of_ble_eq_true rfl) dL_law_995 rfl (lqx (qx_f (Kx.ans σ _)) (fun τ hx => ?_))
    refine l_aload_n C dL_law_998 rfl rfl rfl ?_
    refine l_call C (k := 0) (by decide) rfl rfl (As := []) (rest := [.int _]) (kX6_on0 τ (by rw [hx.1 0 (by decide)]; exact k0)) rfl (by decide) (by decide) ⟨ll_156, mfX6_on⟩ dkX6_on (Nat.le_of_ble_eq_true rfl) dL_law_999 rfl (lqm (qm_f (Km.no τ 3)) (fun υ hm => ?_))
    exact l_icmp_eq C dL_law_1002 (by decide) (rfl) (kk υ (rel_km hm (rel_kx hx R.b)))
  · have k1' : σ 18 3 = 1 := kk1.trans k1
    refine l_aload_n C dL_law_994 rfl rfl rfl ?_
    refine l_call C (k := 18) (by decide) rfl rfl (As := []) (rest := []) (kX5_on1 σ k1') rfl (by decide) (by decide) ⟨ll_153, mfX5_on⟩ dkX5_on (Nat.le_of_ble_eq_true rfl) dL_law_995 rfl (lmx (lx_on1) (fun v τ hv hl => ?_))
    refine l_aload_n C dL_law_998 rfl rfl rfl ?_
    refine l_call C (k := 0) (by decide) rfl rfl (As := []) (rest := [.int _]) (kX6_on1 τ (by rw [hl 0 (by decide)]; exact k1)) rfl (by decide) (by decide) ⟨ll_156, mfX6_on⟩ dkX6_on (Nat.le_of_ble_eq_true rfl) dL_law_999 rfl (lmm (lm_on1 R k1' hv hl) (fun υ hυ => ?_))
    exact l_icmp_eq C dL_law_1002 (by decide) (rfl) (kk υ hυ)
theorem lc_count {X : LxT} (C : Lx X) (hL : lenX X ≤ 2048) {i : Nat} (hi : i + 4 ≤ lenX X) {σ : St} {n q y t u : Nat} (R : RelE σ n q y t u) (kk : ∀ υ, RelB υ → LV X 1030 (LVS i) [] υ) : LV X 1007 (LVS i) [] σ := by
  obtain ⟨⟨⟨a1, a2, a3, a4, a5, a6, a7, a8, a9, a10, a11⟩, b1, b2, b3, b4, b5, b6⟩, Rw, S, K⟩ := id R
  refine l_aload_n C dL_law_1007 rfl rfl rfl ?_
  refine l_arg C (d := 1) dL_law_1008 dL_law_1009 dL_law_1010 dL_law_1011 dL_law_1012 rfl (by omega) hL rfl ?_
  refine l_call C (k := 18) (by decide) rfl rfl (As := [.int (scrX X (i + 1))]) (rest := []) (kX5_count (scrX X (i + 1)) n σ b1 a2) rfl (by decide) (by decide) ⟨ll_157, mfX5_count⟩ dkX5_count (Nat.le_of_ble_eq_true rfl) dL_law_1013 rfl (lqx (qx_f (Kx.rf σ)) (fun τ hx => ?_))
  refine l_pop C dL_law_1016 rfl ?_
  refine l_aload_n C dL_law_1017 rfl rfl rfl ?_
  refine l_arg C (d := 1) dL_law_1018 dL_law_1019 dL_law_1020 dL_law_1021 dL_law_1022 rfl (by omega) hL rfl ?_
  refine l_call C (k := 0) (by decide) rfl rfl (As := [.int (scrX X (i + 1))]) (rest := []) (kX6_count (scrX X (i + 1)) n τ (by rw [hx.1 0 (by decide)]; exact a1) a2) rfl (by decide) (by decide) ⟨ll_160, mfX6_count⟩ dkX6_count (Nat.le_of_ble_eq_true rfl) dL_law_1023 rfl (lqm (qm_f (Km.rf τ)) (fun υ hm => ?_))
  refine l_pop C dL_law_1026 rfl ?_
  exact l_goto C dL_law_1027 (by decide) (kk υ (rel_km hm (rel_kx hx R.b)))
