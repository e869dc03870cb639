set_option maxRecDepth 20000 in
theorem arm_type {σ : aS} {Q : aQ} {z : aZ} {xl : Nat} {xs : Nat → Int} {i : Int} (hxl : xl < 2 ^ 31) (hxi : ∀ j, in32 (xs j)) (i0 : 0 ≤ i) (i6 : i + 6 ≤ xl) (i9 : i ≤ 400) (hc : CI σ z) (hm : MI σ z) (hz : ZV z) (hK : ∀ σ, LI σ → Wp RL cL_law 34 (aCall 34 9) Q 1 true xl xs 1222 [some (vr 99), some (vr 0), some (vr 18), some (vi i)] [] σ) : Wp RL cL_law 34 (aCall 34 9) Q 1 true xl xs 192 [some (vr 99), some (vr 0), some (vr 18), some (vi i)] [] σ := by
  refine wp_aload_n dL_law_192 rfl ?_
  refine wp_aload_n dL_law_193 rfl ?_
  refine wp_iload_n dL_law_194 rfl ?_
  refine wp_iconst dL_law_195 (by decide) ?_
  refine wp_iaddN dL_law_196 (by omega) ?_
  refine wp_ialoadX dL_law_197 rfl (by omega) (by omega) hxl ?_
  refine wp_V1 dL_law_198 vlL_13 (by decide) rfl (Nat.le_of_ble_eq_true rfl) ?_
  refine p3_type hc hz (fun σ1 y1 c1 => ?_)
  have m1 := hm.fry y1
  refine wp_aload_n dL_law_201 rfl ?_
  refine wp_aload_n dL_law_202 rfl ?_
  refine wp_iload_n dL_law_203 rfl ?_
  refine wp_iconst dL_law_204 (by decide) ?_
  refine wp_iaddN dL_law_205 (by omega) ?_
  refine wp_ialoadX dL_law_206 rfl (by omega) (by omega) hxl ?_
  refine wp_V1 dL_law_207 vlL_17 (by decide) rfl (Nat.le_of_ble_eq_true rfl) ?_
  refine p4_type m1 hz (fun σ2 x2 m2 => ?_)
  have c2 := c1.frx x2
  refine wp_ic_eq 1222 dL_law_210 (by decide) (fun hh210 => ?_) (fun hh210 => ?_)
  · exact hK _ ⟨_, c2, m2, ZV_type hz⟩
  · exact absurd rfl hh210
set_option maxRecDepth 20000 in
theorem arm_wipe {σ : aS} {Q : aQ} {z : aZ} {xl : Nat} {xs : Nat → Int} {i : Int} (hxl : xl < 2 ^ 31) (hxi : ∀ j, in32 (xs j)) (i0 : 0 ≤ i) (i6 : i + 6 ≤ xl) (i9 : i ≤ 400) (hc : CI σ z) (hm : MI σ z) (hz : ZV z) (hK : ∀ σ, LI σ → Wp RL cL_law 34 (aCall 34 9) Q 1 true xl xs 1222 [some (vr 99), some (vr 0), some (vr 18), some (vi i)] [] σ) : Wp RL cL_law 34 (aCall 34 9) Q 1 true xl xs 215 [some (vr 99), some (vr 0), some (vr 18), some (vi i)] [] σ := by
  refine wp_aload_n dL_law_215 rfl ?_
  refine wp_V0 dL_law_216 vlL_18 (by decide) rfl (Nat.le_of_ble_eq_true rfl) ?_
  refine p3_wipe hc hz (fun σ1 y1 c1 => ?_)
  have m1 := hm.fry y1
  refine wp_aload_n dL_law_219 rfl ?_
  refine wp_V0 dL_law_220 vlL_22 (by decide) rfl (Nat.le_of_ble_eq_true rfl) ?_
  refine p4_wipe m1 hz (fun σ2 x2 m2 => ?_)
  have c2 := c1.frx x2
  refine wp_ic_eq 1222 dL_law_223 (by decide) (fun hh223 => ?_) (fun hh223 => ?_)
  · exact hK _ ⟨_, c2, m2, ZV_wipe hz⟩
  · exact absurd rfl hh223
set_option maxRecDepth 20000 in
theorem arm_undo {σ : aS} {Q : aQ} {z : aZ} {xl : Nat} {xs : Nat → Int} {i : Int} (hxl : xl < 2 ^ 31) (hxi : ∀ j, in32 (xs j)) (i0 : 0 ≤ i) (i6 : i + 6 ≤ xl) (i9 : i ≤ 400) (hc : CI σ z) (hm : MI σ z) (hz : ZV z) (hK : ∀ σ, LI σ → Wp RL cL_law 34 (aCall 34 9) Q 1 true xl xs 1222 [some (vr 99), some (vr 0), some (vr 18), some (vi i)] [] σ) : Wp RL cL_law 34 (aCall 34 9) Q 1 true xl xs 228 [some (vr 99), some (vr 0), some (vr 18), some (vi i)] [] σ := by
  refine wp_aload_n dL_law_228 rfl ?_
  refine wp_V0 dL_law_229 vlL_23 (by decide) rfl (Nat.le_of_ble_eq_true rfl) ?_
  refine p3_undo hc hz (fun σ1 y1 c1 => ?_)
  have m1 := hm.fry y1
  refine wp_aload_n dL_law_232 rfl ?_
  refine wp_V0 dL_law_233 vlL_26 (by decide) rfl (Nat.le_of_ble_eq_true rfl) ?_
  refine p4_undo m1 hz (fun σ2 x2 m2 => ?_)
  have c2 := c1.frx x2
  refine wp_ic_eq 1222 dL_law_236 (by decide) (fun hh236 => ?_) (fun hh236 => ?_)
  · exact hK _ ⟨_, c2, m2, ZV_undo hz⟩
  · exact absurd rfl hh236
set_option maxRecDepth 20000 in
theorem arm_fault {σ : aS} {Q : aQ} {z : aZ} {xl : Nat} {xs : Nat → Int} {i : Int} (hxl : xl < 2 ^ 31) (hxi : ∀ j, in32 (xs j)) (i0 : 0 ≤ i) (i6 : i + 6 ≤ xl) (i9 : i ≤ 400) (hc : CI σ z) (hm : MI σ z) (hz : ZV z) (hK : ∀ σ, LI σ → Wp RL cL_law 34 (aCall 34 9) Q 1 true xl xs 1222 [some (vr 99), some (vr 0), some (vr 18), some (vi i)] [] σ) : Wp RL cL_law 34 (aCall 34 9) Q 1 true xl xs 241 [some (vr 99), some (vr 0), some (vr 18), some (vi i)] [] σ := by
  refine wp_aload_n dL_law_241 rfl ?_
  refine wp_V0 dL_law_242 vlL_27 (by decide) rfl (Nat.le_of_ble_eq_true rfl) ?_
  refine p3_fault hc hz ?_
  have c1 := hc
  have m1 := hm
  refine wp_aload_n dL_law_245 rfl ?_
  refine wp_V0 dL_law_246 vlL_30 (by decide) rfl (Nat.le_of_ble_eq_true rfl) ?_
  refine s4_fault m1 hz (fun σ2 x2 r2 => ?_)
  have c2 := c1.frx x2.x
  have m2 := r2.1
  refine wp_ic_eq 1222 dL_law_249 (by decide) (fun hh249 => ?_) (fun hh249 => ?_)
  · exact hK _ ⟨_, c2, m2, hz⟩
  · exact absurd rfl hh249
set_option maxRecDepth 20000 in
theorem arm_cell {σ : aS} {Q : aQ} {z : aZ} {xl : Nat} {xs : Nat → Int} {i : Int} (hxl : xl < 2 ^ 31) (hxi : ∀ j, in32 (xs j)) (i0 : 0 ≤ i) (i6 : i + 6 ≤ xl) (i9 : i ≤ 400) (hc : CI σ z) (hm : MI σ z) (hz : ZV z) (hK : ∀ σ, LI σ → Wp RL cL_law 34 (aCall 34 9) Q 1 true xl xs 1222 [some (vr 99), some (vr 0), some (vr 18), some (vi i)] [] σ) : Wp RL cL_law 34 (aCall 34 9) Q 1 true xl xs 254 [some (vr 99), some (vr 0), some (vr 18), some (vi i)] [] σ := by
  refine wp_aload_n dL_law_254 rfl ?_
  refine wp_aload_n dL_law_255 rfl ?_
  refine wp_iload_n dL_law_256 rfl ?_
  refine wp_iconst dL_law_257 (by decide) ?_
  refine wp_iaddN dL_law_258 (by omega) ?_
  refine wp_ialoadX dL_law_259 rfl (by omega) (by omega) hxl ?_
  refine wp_aload_n dL_law_260 rfl ?_
  refine wp_iload_n dL_law_261 rfl ?_
  refine wp_iconst dL_law_262 (by decide) ?_
  refine wp_iaddN dL_law_263 (by omega) ?_
  refine wp_ialoadX dL_law_264 rfl (by omega) (by omega) hxl ?_
  refine wp_V2 dL_law_265 vlL_31 (by decide) rfl (Nat.le_of_ble_eq_true rfl) ?_
  refine p3_cell hc hz ?_
  have c1 := hc
  have m1 := hm
  refine wp_aload_n dL_law_268 rfl ?_
  refine wp_aload_n dL_law_269 rfl ?_
  refine wp_iload_n dL_law_270 rfl ?_
  refine wp_iconst dL_law_271 (by decide) ?_
  refine wp_iaddN dL_law_272 (by omega) ?_
  refine wp_ialoadX dL_law_273 rfl (by omega) (by omega) hxl ?_
  refine wp_aload_n dL_law_274 rfl ?_
  refine wp_iload_n dL_law_275 rfl ?_
  refine wp_iconst dL_law_276 (by decide) ?_
  refine wp_iaddN dL_law_277 (by omega) ?_
  refine wp_ialoadX dL_law_278 rfl (by omega) (by omega) hxl ?_
  refine wp_V2 dL_law_279 vlL_35 (by decide) rfl (Nat.le_of_ble_eq_true rfl) ?_
  refine p4_cell m1 hz (fun σ2 x2 m2 => ?_)
  have c2 := c1.frx x2.x
  refine wp_ic_eq 1222 dL_law_282 (by decide) (fun hh282 => ?_) (fun hh282 => ?_)
  · exact hK _ ⟨_, c2, m2, hz⟩
  · exact absurd rfl hh282
set_option maxRecDepth 20000 in
theorem arm_set {σ : aS} {Q : aQ} {z : aZ} {xl : Nat} {xs : Nat → Int} {i : Int} (hxl : xl < 2 ^ 31) (hxi : ∀ j, in32 (xs j)) (i0 : 0 ≤ i) (i6 : i + 6 ≤ xl) (i9 : i ≤ 400) (hc : CI σ z) (hm : MI σ z) (hz : ZV z) (hK : ∀ σ, LI σ → Wp RL cL_law 34 (aCall 34 9) Q 1 true xl xs 1222 [some (vr 99), some (vr 0), some (vr 18), some (vi i)] [] σ) : Wp RL cL_law 34 (aCall 34 9) Q 1 true xl xs 287 [some (vr 99), some (vr 0), some (vr 18), some (vi i)] [] σ := by
  refine wp_aload_n dL_law_287 rfl ?_
  refine wp_aload_n dL_law_288 rfl ?_
  refine wp_iload_n dL_law_289 rfl ?_
  refine wp_iconst dL_law_290 (by decide) ?_
  refine wp_iaddN dL_law_291 (by omega) ?_
  refine wp_ialoadX dL_law_292 rfl (by omega) (by omega) hxl ?_
  refine wp_aload_n dL_law_293 rfl ?_
  refine wp_iload_n dL_law_294 rfl ?_
  refine wp_iconst dL_law_295 (by decide) ?_
  refine wp_iaddN dL_law_296 (by omega) ?_
  refine wp_ialoadX dL_law_297 rfl (by omega) (by omega) hxl ?_
  refine wp_V2 dL_law_298 vlL_36 (by decide) rfl (Nat.le_of_ble_eq_true rfl) ?_
  refine p3_set hc hz (fun σ1 y1 c1 => ?_)
  have m1 := hm.fry y1
  refine wp_aload_n dL_law_301 rfl ?_
  refine wp_aload_n dL_law_302 rfl ?_
  refine wp_iload_n dL_law_303 rfl ?_
  refine wp_iconst dL_law_304 (by decide) ?_
  refine wp_iaddN dL_law_305 (by omega) ?_
  refine wp_ialoadX dL_law_306 rfl (by omega) (by omega) hxl ?_
  refine wp_aload_n dL_law_307 rfl ?_
  refine wp_iload_n dL_law_308 rfl ?_
  refine wp_iconst dL_law_309 (by decide) ?_
  refine wp_iaddN dL_law_310 (by omega) ?_
  refine wp_ialoadX dL_law_311 rfl (by omega) (by omega) hxl ?_
  refine wp_V2 dL_law_312 vlL_39 (by decide) rfl (Nat.le_of_ble_eq_true rfl) ?_
  refine p4_set m1 hz (fun σ2 x2 m2 => ?_)
  have c2 := c1.frx x2
  refine wp_ic_eq 1222 dL_law_315 (by decide) (fun hh315 => ?_) (fun hh315 => ?_)
  · exact hK _ ⟨_, c2, m2, ZV_set hz⟩
  · exact absurd rfl hh315
set_option maxRecDepth 20000 in
theorem arm_thing {σ : aS} {Q : aQ} {z : aZ} {xl : Nat} {xs : Nat → Int} {i : Int} (hxl : xl < 2 ^ 31) (hxi : ∀ j, in32 (xs j)) (i0 : 0 ≤ i) (i6 : i + 6 ≤ xl) (i9 : i ≤ 400) (hc : CI σ z) (hm : MI σ z) (hz : ZV z) (hK : ∀ σ, LI σ → Wp RL cL_law 34 (aCall 34 9) Q 1 true xl xs 1222 [some (vr 99), some (vr 0), some (vr 18), some (vi i)] [] σ) : Wp RL cL_law 34 (aCall 34 9) Q 1 true xl xs 320 [some (vr 99), some (vr 0), some (vr 18), some (vi i)] [] σ := by
  refine wp_aload_n dL_law_320 rfl ?_
  refine wp_aload_n dL_law_321 rfl ?_
  refine wp_iload_n dL_law_322 rfl ?_
  refine wp_iconst dL_law_323 (by decide) ?_
  refine wp_iaddN dL_law_324 (by omega) ?_
  refine wp_ialoadX dL_law_325 rfl (by omega) (by omega) hxl ?_
  refine wp_aload_n dL_law_326 rfl ?_
  refine wp_iload_n dL_law_327 rfl ?_
  refine wp_iconst dL_law_328 (by decide) ?_
  refine wp_iaddN dL_law_329 (by omega) ?_
  refine wp_ialoadX dL_law_330 rfl (by omega) (by omega) hxl ?_
  refine wp_V2 dL_law_331 vlL_40 (by decide) rfl (Nat.le_of_ble_eq_true rfl) ?_
  refine p3_thing hc hz (fun σ1 y1 c1 => ?_)
  have m1 := hm.fry y1
  refine wp_aload_n dL_law_334 rfl ?_
  refine wp_aload_n dL_law_335 rfl ?_
  refine wp_iload_n dL_law_336 rfl ?_
  refine wp_iconst dL_law_337 (by decide) ?_
  refine wp_iaddN dL_law_338 (by omega) ?_
  refine wp_ialoadX dL_law_339 rfl (by omega) (by omega) hxl ?_
  refine wp_aload_n dL_law_340 rfl ?_
  refine wp_iload_n dL_law_341 rfl ?_
  refine wp_iconst dL_law_342 (by decide) ?_
  refine wp_iaddN dL_law_343 (by omega) ?_
  refine wp_ialoadX dL_law_344 rfl (by omega) (by omega) hxl ?_
  refine wp_V2 dL_law_345 vlL_43 (by decide) rfl (Nat.le_of_ble_eq_true rfl) ?_
  refine p4_thing m1 hz (fun σ2 x2 m2 => ?_)
  have c2 := c1.frx x2
  refine wp_ic_eq 1222 dL_law_348 (by decide) (fun hh348 => ?_) (fun hh348 => ?_)
  · exact hK _ ⟨_, c2, m2, ZV_thing hz _ _⟩
  · exact absurd rfl hh348
set_option maxRecDepth 20000 in
theorem arm_back {σ : aS} {Q : aQ} {z : aZ} {xl : Nat} {xs : Nat → Int} {i : Int} (hxl : xl < 2 ^ 31) (hxi : ∀ j, in32 (xs j)) (i0 : 0 ≤ i) (i6 : i + 6 ≤ xl) (i9 : i ≤ 400) (hc : CI σ z) (hm : MI σ z) (hz : ZV z) (hK : ∀ σ, LI σ → Wp RL cL_law 34 (aCall 34 9) Q 1 true xl xs 1222 [some (vr 99), some (vr 0), some (vr 18), some (vi i)] [] σ) : Wp RL cL_law 34 (aCall 34 9) Q 1 true xl xs 353 [some (vr 99), some (vr 0), some (vr 18), some (vi i)] [] σ := by
  refine wp_aload_n dL_law_353 rfl ?_
  refine wp_V0 dL_law_354 vlL_44 (by decide) rfl (Nat.le_of_ble_eq_true rfl) ?_
  refine p3_back hc hz (fun σ1 y1 c1 => ?_)
  have m1 := hm.fry y1
  refine wp_aload_n dL_law_357 rfl ?_
  refine wp_V0 dL_law_358 vlL_47 (by decide) rfl (Nat.le_of_ble_eq_true rfl) ?_
  refine p4_back m1 hz (fun σ2 x2 m2 => ?_)
  have c2 := c1.frx x2
  refine wp_ic_eq 1222 dL_law_361 (by decide) (fun hh361 => ?_) (fun hh361 => ?_)
  · exact hK _ ⟨_, c2, m2, ZV_back hz⟩
  · exact absurd rfl hh361
set_option maxRecDepth 20000 in
theorem arm_read {σ : aS} {Q : aQ} {z : aZ} {xl : Nat} {xs : Nat → Int} {i : Int} (hxl : xl < 2 ^ 31) (hxi : ∀ j, in32 (xs j)) (i0 : 0 ≤ i) (i6 : i + 6 ≤ xl) (i9 : i ≤ 400) (hc : CI σ z) (hm : MI σ z) (hz : ZV z) (hK : ∀ σ, LI σ → Wp RL cL_law 34 (aCall 34 9) Q 1 true xl xs 1222 [some (vr 99), some (vr 0), some (vr 18), some (vi i)] [] σ) : Wp RL cL_law 34 (aCall 34 9) Q 1 true xl xs 366 [some (vr 99), some (vr 0), some (vr 18), some (vi i)] [] σ := by
  refine wp_aload_n dL_law_366 rfl ?_
  refine wp_aload_n dL_law_367 rfl ?_
  refine wp_iload_n dL_law_368 rfl ?_
  refine wp_iconst dL_law_369 (by decide) ?_
  refine wp_iaddN dL_law_370 (by omega) ?_
  refine wp_ialoadX dL_law_371 rfl (by omega) (by omega) hxl ?_
  refine wp_V1 dL_law_372 vlL_48 (by decide) rfl (Nat.le_of_ble_eq_true rfl) ?_
  refine p3_read hc hz (fun σ1 y1 c1 => ?_)
  have m1 := hm.fry y1
  refine wp_aload_n dL_law_375 rfl ?_
  refine wp_aload_n dL_law_376 rfl ?_
  refine wp_iload_n dL_law_377 rfl ?_
  refine wp_iconst dL_law_378 (by decide) ?_
  refine wp_iaddN dL_law_379 (by omega) ?_
  refine wp_ialoadX dL_law_380 rfl (by omega) (by omega) hxl ?_
  refine wp_V1 dL_law_381 vlL_51 (by decide) rfl (Nat.le_of_ble_eq_true rfl) ?_
  refine p4_read m1 hz (fun σ2 x2 m2 => ?_)
  have c2 := c1.frx x2
  refine wp_ic_eq 1222 dL_law_384 (by decide) (fun hh384 => ?_) (fun hh384 => ?_)
  · exact hK _ ⟨_, c2, m2, ZV_read hz⟩
  · exact absurd rfl hh384
set_option maxRecDepth 20000 in
theorem arm_at {σ : aS} {Q : aQ} {z : aZ} {xl : Nat} {xs : Nat → Int} {i : Int} (hxl : xl < 2 ^ 31) (hxi : ∀ j, in32 (xs j)) (i0 : 0 ≤ i) (i6 : i + 6 ≤ xl) (i9 : i ≤ 400) (hc : CI σ z) (hm : MI σ z) (hz : ZV z) (hK : ∀ σ, LI σ → Wp RL cL_law 34 (aCall 34 9) Q 1 true xl xs 1222 [some (vr 99), some (vr 0), some (vr 18), some (vi i)] [] σ) : Wp RL cL_law 34 (aCall 34 9) Q 1 true xl xs 389 [some (vr 99), some (vr 0), some (vr 18), some (vi i)] [] σ := by
  refine wp_aload_n dL_law_389 rfl ?_
  refine wp_aload_n dL_law_390 rfl ?_
  refine wp_iload_n dL_law_391 rfl ?_
  refine wp_iconst dL_law_392 (by decide) ?_
  refine wp_iaddN dL_law_393 (by omega) ?_
  refine wp_ialoadX dL_law_394 rfl (by omega) (by omega) hxl ?_
  refine wp_aload_n dL_law_395 rfl ?_
  refine wp_iload_n dL_law_396 rfl ?_
  refine wp_iconst dL_law_397 (by decide) ?_
  refine wp_iaddN dL_law_398 (by omega) ?_
  refine wp_ialoadX dL_law_399 rfl (by omega) (by omega) hxl ?_
  refine wp_V2 dL_law_400 vlL_52 (by decide) rfl (Nat.le_of_ble_eq_true rfl) ?_
  refine p3_at hc hz ?_
  have c1 := hc
  have m1 := hm
  refine wp_aload_n dL_law_403 rfl ?_
  refine wp_aload_n dL_law_404 rfl ?_
  refine wp_iload_n dL_law_405 rfl ?_
  refine wp_iconst dL_law_406 (by decide) ?_
  refine wp_iaddN dL_law_407 (by omega) ?_
  refine wp_ialoadX dL_law_408 rfl (by omega) (by omega) hxl ?_
  refine wp_aload_n dL_law_409 rfl ?_
  refine wp_iload_n dL_law_410 rfl ?_
  refine wp_iconst dL_law_411 (by decide) ?_
  refine wp_iaddN dL_law_412 (by omega) ?_
  refine wp_ialoadX dL_law_413 rfl (by omega) (by omega) hxl ?_
  refine wp_V2 dL_law_414 vlL_55 (by decide) rfl (Nat.le_of_ble_eq_true rfl) ?_
  refine p4_at m1 hz (fun σ2 x2 m2 => ?_)
  have c2 := c1.frx x2.x
  refine wp_ic_eq 1222 dL_law_417 (by decide) (fun hh417 => ?_) (fun hh417 => ?_)
  · exact hK _ ⟨_, c2, m2, hz⟩
  · exact absurd rfl hh417
set_option maxRecDepth 20000 in
theorem arm_rests {σ : aS} {Q : aQ} {z : aZ} {xl : Nat} {xs : Nat → Int} {i : Int} (hxl : xl < 2 ^ 31) (hxi : ∀ j, in32 (xs j)) (i0 : 0 ≤ i) (i6 : i + 6 ≤ xl) (i9 : i ≤ 400) (hc : CI σ z) (hm : MI σ z) (hz : ZV z) (hK : ∀ σ, LI σ → Wp RL cL_law 34 (aCall 34 9) Q 1 true xl xs 1222 [some (vr 99), some (vr 0), some (vr 18), some (vi i)] [] σ) : Wp RL cL_law 34 (aCall 34 9) Q 1 true xl xs 422 [some (vr 99), some (vr 0), some (vr 18), some (vi i)] [] σ := by
  refine wp_aload_n dL_law_422 rfl ?_
  refine wp_aload_n dL_law_423 rfl ?_
  refine wp_iload_n dL_law_424 rfl ?_
  refine wp_iconst dL_law_425 (by decide) ?_
  refine wp_iaddN dL_law_426 (by omega) ?_
  refine wp_ialoadX dL_law_427 rfl (by omega) (by omega) hxl ?_
  refine wp_aload_n dL_law_428 rfl ?_
  refine wp_iload_n dL_law_429 rfl ?_
  refine wp_iconst dL_law_430 (by decide) ?_
  refine wp_iaddN dL_law_431 (by omega) ?_
  refine wp_ialoadX dL_law_432 rfl (by omega) (by omega) hxl ?_
  refine wp_V2 dL_law_433 vlL_56 (by decide) rfl (Nat.le_of_ble_eq_true rfl) ?_
  refine p3_rests hc hz ?_
  have c1 := hc
  have m1 := hm
  refine wp_aload_n dL_law_436 rfl ?_
  refine wp_aload_n dL_law_437 rfl ?_
  refine wp_iload_n dL_law_438 rfl ?_
  refine wp_iconst dL_law_439 (by decide) ?_
  refine wp_iaddN dL_law_440 (by omega) ?_
  refine wp_ialoadX dL_law_441 rfl (by omega) (by omega) hxl ?_
  refine wp_aload_n dL_law_442 rfl ?_
  refine wp_iload_n dL_law_443 rfl ?_
  refine wp_iconst dL_law_444 (by decide) ?_
  refine wp_iaddN dL_law_445 (by omega) ?_
  refine wp_ialoadX dL_law_446 rfl (by omega) (by omega) hxl ?_
  refine wp_V2 dL_law_447 vlL_59 (by decide) rfl (Nat.le_of_ble_eq_true rfl) ?_
  refine p4_rests m1 hz (fun σ2 x2 m2 => ?_)
  have c2 := c1.frx x2.x
  refine wp_ic_eq 1222 dL_law_450 (by decide) (fun hh450 => ?_) (fun hh450 => ?_)
  · exact hK _ ⟨_, c2, m2, hz⟩
  · exact absurd rfl hh450
set_option maxRecDepth 20000 in
theorem arm_longest {σ : aS} {Q : aQ} {z : aZ} {xl : Nat} {xs : Nat → Int} {i : Int} (hxl : xl < 2 ^ 31) (hxi : ∀ j, in32 (xs j)) (i0 : 0 ≤ i) (i6 : i + 6 ≤ xl) (i9 : i ≤ 400) (hc : CI σ z) (hm : MI σ z) (hz : ZV z) (hK : ∀ σ, LI σ → Wp RL cL_law 34 (aCall 34 9) Q 1 true xl xs 1222 [some (vr 99), some (vr 0), some (vr 18), some (vi i)] [] σ) : Wp RL cL_law 34 (aCall 34 9) Q 1 true xl xs 455 [some (vr 99), some (vr 0), some (vr 18), some (vi i)] [] σ := by
  refine wp_aload_n dL_law_455 rfl ?_
  refine wp_V0 dL_law_456 vlL_60 (by decide) rfl (Nat.le_of_ble_eq_true rfl) ?_
  refine p3_longest hc hz ?_
  have c1 := hc
  have m1 := hm
  refine wp_aload_n dL_law_459 rfl ?_
  refine wp_V0 dL_law_460 vlL_63 (by decide) rfl (Nat.le_of_ble_eq_true rfl) ?_
  refine p4_longest m1 hz (fun σ2 x2 m2 => ?_)
  have c2 := c1.frx x2.x
  refine wp_ic_eq 1222 dL_law_463 (by decide) (fun hh463 => ?_) (fun hh463 => ?_)
  · exact hK _ ⟨_, c2, m2, hz⟩
  · exact absurd rfl hh463
set_option maxRecDepth 20000 in
theorem arm_meet {σ : aS} {Q : aQ} {z : aZ} {xl : Nat} {xs : Nat → Int} {i : Int} (hxl : xl < 2 ^ 31) (hxi : ∀ j, in32 (xs j)) (i0 : 0 ≤ i) (i6 : i + 6 ≤ xl) (i9 : i ≤ 400) (hc : CI σ z) (hm : MI σ z) (hz : ZV z) (hK : ∀ σ, LI σ → Wp RL cL_law 34 (aCall 34 9) Q 1 true xl xs 1222 [some (vr 99), some (vr 0), some (vr 18), some (vi i)] [] σ) : Wp RL cL_law 34 (aCall 34 9) Q 1 true xl xs 468 [some (vr 99), some (vr 0), some (vr 18), some (vi i)] [] σ := by
  refine wp_aload_n dL_law_468 rfl ?_
  refine wp_aload_n dL_law_469 rfl ?_
  refine wp_iload_n dL_law_470 rfl ?_
  refine wp_iconst dL_law_471 (by decide) ?_
  refine wp_iaddN dL_law_472 (by omega) ?_
  refine wp_ialoadX dL_law_473 rfl (by omega) (by omega) hxl ?_
  refine wp_aload_n dL_law_474 rfl ?_
  refine wp_iload_n dL_law_475 rfl ?_
  refine wp_iconst dL_law_476 (by decide) ?_
  refine wp_iaddN dL_law_477 (by omega) ?_
  refine wp_ialoadX dL_law_478 rfl (by omega) (by omega) hxl ?_
  refine wp_V2 dL_law_479 vlL_64 (by decide) rfl (Nat.le_of_ble_eq_true rfl) ?_
  refine p3_meet hc hz ?_
  have c1 := hc
  have m1 := hm
  refine wp_aload_n dL_law_482 rfl ?_
  refine wp_aload_n dL_law_483 rfl ?_
  refine wp_iload_n dL_law_484 rfl ?_
  refine wp_iconst dL_law_485 (by decide) ?_
  refine wp_iaddN dL_law_486 (by omega) ?_
  refine wp_ialoadX dL_law_487 rfl (by omega) (by omega) hxl ?_
  refine wp_aload_n dL_law_488 rfl ?_
  refine wp_iload_n dL_law_489 rfl ?_
  refine wp_iconst dL_law_490 (by decide) ?_
  refine wp_iaddN dL_law_491 (by omega) ?_
  refine wp_ialoadX dL_law_492 rfl (by omega) (by omega) hxl ?_
  refine wp_V2 dL_law_493 vlL_67 (by decide) rfl (Nat.le_of_ble_eq_true rfl) ?_
  refine p4_meet m1 hz (fun σ2 x2 m2 => ?_)
  have c2 := c1.frx x2.x
  refine wp_ic_eq 1222 dL_law_496 (by decide) (fun hh496 => ?_) (fun hh496 => ?_)
  · exact hK _ ⟨_, c2, m2, hz⟩
  · exact absurd rfl hh496
set_option maxRecDepth 20000 in
theorem arm_way {σ : aS} {Q : aQ} {z : aZ} {xl : Nat} {xs : Nat → Int} {i : Int} (hxl : xl < 2 ^ 31) (hxi : ∀ j, in32 (xs j)) (i0 : 0 ≤ i) (i6 : i + 6 ≤ xl) (i9 : i ≤ 400) (hc : CI σ z) (hm : MI σ z) (hz : ZV z) (hK : ∀ σ, LI σ → Wp RL cL_law 34 (aCall 34 9) Q 1 true xl xs 1222 [some (vr 99), some (vr 0), some (vr 18), some (vi i)] [] σ) : Wp RL cL_law 34 (aCall 34 9) Q 1 true xl xs 501 [some (vr 99), some (vr 0), some (vr 18), some (vi i)] [] σ := by
  refine wp_aload_n dL_law_501 rfl ?_
  refine wp_aload_n dL_law_502 rfl ?_
  refine wp_iload_n dL_law_503 rfl ?_
  refine wp_iconst dL_law_504 (by decide) ?_
  refine wp_iaddN dL_law_505 (by omega) ?_
  refine wp_ialoadX dL_law_506 rfl (by omega) (by omega) hxl ?_
  refine wp_aload_n dL_law_507 rfl ?_
  refine wp_iload_n dL_law_508 rfl ?_
  refine wp_iconst dL_law_509 (by decide) ?_
  refine wp_iaddN dL_law_510 (by omega) ?_
  refine wp_ialoadX dL_law_511 rfl (by omega) (by omega) hxl ?_
  refine wp_V2 dL_law_512 vlL_68 (by decide) rfl (Nat.le_of_ble_eq_true rfl) ?_
  refine p3_way hc hz (fun σ1 y1 c1 => ?_)
  have m1 := hm.fry y1
  refine wp_aload_n dL_law_515 rfl ?_
  refine wp_aload_n dL_law_516 rfl ?_
  refine wp_iload_n dL_law_517 rfl ?_
  refine wp_iconst dL_law_518 (by decide) ?_
  refine wp_iaddN dL_law_519 (by omega) ?_
  refine wp_ialoadX dL_law_520 rfl (by omega) (by omega) hxl ?_
  refine wp_aload_n dL_law_521 rfl ?_
  refine wp_iload_n dL_law_522 rfl ?_
  refine wp_iconst dL_law_523 (by decide) ?_
  refine wp_iaddN dL_law_524 (by omega) ?_
  refine wp_ialoadX dL_law_525 rfl (by omega) (by omega) hxl ?_
  refine wp_V2 dL_law_526 vlL_71 (by decide) rfl (Nat.le_of_ble_eq_true rfl) ?_
  refine p4_way m1 hz (fun σ2 x2 m2 => ?_)
  have c2 := c1.frx x2.x
  refine wp_ic_eq 1222 dL_law_529 (by decide) (fun hh529 => ?_) (fun hh529 => ?_)
  · exact hK _ ⟨_, c2, m2, hz⟩
  · exact absurd rfl hh529
set_option maxRecDepth 20000 in
theorem arm_next {σ : aS} {Q : aQ} {z : aZ} {xl : Nat} {xs : Nat → Int} {i : Int} (hxl : xl < 2 ^ 31) (hxi : ∀ j, in32 (xs j)) (i0 : 0 ≤ i) (i6 : i + 6 ≤ xl) (i9 : i ≤ 400) (hc : CI σ z) (hm : MI σ z) (hz : ZV z) (hK : ∀ σ, LI σ → Wp RL cL_law 34 (aCall 34 9) Q 1 true xl xs 1222 [some (vr 99), some (vr 0), some (vr 18), some (vi i)] [] σ) : Wp RL cL_law 34 (aCall 34 9) Q 1 true xl xs 534 [some (vr 99), some (vr 0), some (vr 18), some (vi i)] [] σ := by
  refine wp_aload_n dL_law_534 rfl ?_
  refine wp_aload_n dL_law_535 rfl ?_
  refine wp_iload_n dL_law_536 rfl ?_
  refine wp_iconst dL_law_537 (by decide) ?_
  refine wp_iaddN dL_law_538 (by omega) ?_
  refine wp_ialoadX dL_law_539 rfl (by omega) (by omega) hxl ?_
  refine wp_aload_n dL_law_540 rfl ?_
  refine wp_iload_n dL_law_541 rfl ?_
  refine wp_iconst dL_law_542 (by decide) ?_
  refine wp_iaddN dL_law_543 (by omega) ?_
  refine wp_ialoadX dL_law_544 rfl (by omega) (by omega) hxl ?_
  refine wp_V2 dL_law_545 vlL_72 (by decide) rfl (Nat.le_of_ble_eq_true rfl) ?_
  refine p3_next hc hz (fun σ1 y1 c1 => ?_)
  have m1 := hm.fry y1
  refine wp_aload_n dL_law_548 rfl ?_
  refine wp_aload_n dL_law_549 rfl ?_
  refine wp_iload_n dL_law_550 rfl ?_
  refine wp_iconst dL_law_551 (by decide) ?_
  refine wp_iaddN dL_law_552 (by omega) ?_
  refine wp_ialoadX dL_law_553 rfl (by omega) (by omega) hxl ?_
  refine wp_aload_n dL_law_554 rfl ?_
  refine wp_iload_n dL_law_555 rfl ?_
  refine wp_iconst dL_law_556 (by decide) ?_
  refine wp_iaddN dL_law_557 (by omega) ?_
  refine wp_ialoadX dL_law_558 rfl (by omega) (by omega) hxl ?_
  refine wp_V2 dL_law_559 vlL_75 (by decide) rfl (Nat.le_of_ble_eq_true rfl) ?_
  refine p4_next m1 hz (fun σ2 x2 m2 => ?_)
  have c2 := c1.frx x2.x
  refine wp_ic_eq 1222 dL_law_562 (by decide) (fun hh562 => ?_) (fun hh562 => ?_)
  · exact hK _ ⟨_, c2, m2, hz⟩
  · exact absurd rfl hh562
set_option maxRecDepth 20000 in
theorem arm_race {σ : aS} {Q : aQ} {z : aZ} {xl : Nat} {xs : Nat → Int} {i : Int} (hxl : xl < 2 ^ 31) (hxi : ∀ j, in32 (xs j)) (i0 : 0 ≤ i) (i6 : i + 6 ≤ xl) (i9 : i ≤ 400) (hc : CI σ z) (hm : MI σ z) (hz : ZV z) (hK : ∀ σ, LI σ → Wp RL cL_law 34 (aCall 34 9) Q 1 true xl xs 1222 [some (vr 99), some (vr 0), some (vr 18), some (vi i)] [] σ) : Wp RL cL_law 34 (aCall 34 9) Q 1 true xl xs 567 [some (vr 99), some (vr 0), some (vr 18), some (vi i)] [] σ := by
  refine wp_aload_n dL_law_567 rfl ?_
  refine wp_aload_n dL_law_568 rfl ?_
  refine wp_iload_n dL_law_569 rfl ?_
  refine wp_iconst dL_law_570 (by decide) ?_
  refine wp_iaddN dL_law_571 (by omega) ?_
  refine wp_ialoadX dL_law_572 rfl (by omega) (by omega) hxl ?_
  refine wp_aload_n dL_law_573 rfl ?_
  refine wp_iload_n dL_law_574 rfl ?_
  refine wp_iconst dL_law_575 (by decide) ?_
  refine wp_iaddN dL_law_576 (by omega) ?_
  refine wp_ialoadX dL_law_577 rfl (by omega) (by omega) hxl ?_
  refine wp_aload_n dL_law_578 rfl ?_
  refine wp_iload_n dL_law_579 rfl ?_
  refine wp_iconst dL_law_580 (by decide) ?_
  refine wp_iaddN dL_law_581 (by omega) ?_
  refine wp_ialoadX dL_law_582 rfl (by omega) (by omega) hxl ?_
  refine wp_V3 dL_law_583 vlL_76 (by decide) rfl (Nat.le_of_ble_eq_true rfl) ?_
  refine p3_race hc hz (fun σ1 y1 c1 => ?_)
  have m1 := hm.fry y1
  refine wp_aload_n dL_law_586 rfl ?_
  refine wp_aload_n dL_law_587 rfl ?_
  refine wp_iload_n dL_law_588 rfl ?_
  refine wp_iconst dL_law_589 (by decide) ?_
  refine wp_iaddN dL_law_590 (by omega) ?_
  refine wp_ialoadX dL_law_591 rfl (by omega) (by omega) hxl ?_
  refine wp_aload_n dL_law_592 rfl ?_
  refine wp_iload_n dL_law_593 rfl ?_
  refine wp_iconst dL_law_594 (by decide) ?_
  refine wp_iaddN dL_law_595 (by omega) ?_
  refine wp_ialoadX dL_law_596 rfl (by omega) (by omega) hxl ?_
  refine wp_aload_n dL_law_597 rfl ?_
  refine wp_iload_n dL_law_598 rfl ?_
  refine wp_iconst dL_law_599 (by decide) ?_
  refine wp_iaddN dL_law_600 (by omega) ?_
  refine wp_ialoadX dL_law_601 rfl (by omega) (by omega) hxl ?_
  refine wp_V3 dL_law_602 vlL_80 (by decide) rfl (Nat.le_of_ble_eq_true rfl) ?_
  refine p4_race m1 hz (fun σ2 x2 m2 => ?_)
  have c2 := c1.frx x2.x
  refine wp_ic_eq 1222 dL_law_605 (by decide) (fun hh605 => ?_) (fun hh605 => ?_)
  · exact hK _ ⟨_, c2, m2, hz⟩
  · exact absurd rfl hh605
set_option maxRecDepth 20000 in
theorem arm_reach {σ : aS} {Q : aQ} {z : aZ} {xl : Nat} {xs : Nat → Int} {i : Int} (hxl : xl < 2 ^ 31) (hxi : ∀ j, in32 (xs j)) (i0 : 0 ≤ i) (i6 : i + 6 ≤ xl) (i9 : i ≤ 400) (hc : CI σ z) (hm : MI σ z) (hz : ZV z) (hK : ∀ σ, LI σ → Wp RL cL_law 34 (aCall 34 9) Q 1 true xl xs 1222 [some (vr 99), some (vr 0), some (vr 18), some (vi i)] [] σ) : Wp RL cL_law 34 (aCall 34 9) Q 1 true xl xs 610 [some (vr 99), some (vr 0), some (vr 18), some (vi i)] [] σ := by
  refine wp_aload_n dL_law_610 rfl ?_
  refine wp_aload_n dL_law_611 rfl ?_
  refine wp_iload_n dL_law_612 rfl ?_
  refine wp_iconst dL_law_613 (by decide) ?_
  refine wp_iaddN dL_law_614 (by omega) ?_
  refine wp_ialoadX dL_law_615 rfl (by omega) (by omega) hxl ?_
  refine wp_V1 dL_law_616 vlL_81 (by decide) rfl (Nat.le_of_ble_eq_true rfl) ?_
  refine p3_reach hc hz (fun σ1 y1 c1 => ?_)
  have m1 := hm.fry y1
  refine wp_aload_n dL_law_619 rfl ?_
  refine wp_aload_n dL_law_620 rfl ?_
  refine wp_iload_n dL_law_621 rfl ?_
  refine wp_iconst dL_law_622 (by decide) ?_
  refine wp_iaddN dL_law_623 (by omega) ?_
  refine wp_ialoadX dL_law_624 rfl (by omega) (by omega) hxl ?_
  refine wp_V1 dL_law_625 vlL_84 (by decide) rfl (Nat.le_of_ble_eq_true rfl) ?_
  refine p4_reach m1 hz (fun σ2 x2 m2 => ?_)
  have c2 := c1.frx x2.x
  refine wp_ic_eq 1222 dL_law_628 (by decide) (fun hh628 => ?_) (fun hh628 => ?_)
  · exact hK _ ⟨_, c2, m2, hz⟩
  · exact absurd rfl hh628
set_option maxRecDepth 20000 in
theorem arm_wet {σ : aS} {Q : aQ} {z : aZ} {xl : Nat} {xs : Nat → Int} {i : Int} (hxl : xl < 2 ^ 31) (hxi : ∀ j, in32 (xs j)) (i0 : 0 ≤ i) (i6 : i + 6 ≤ xl) (i9 : i ≤ 400) (hc : CI σ z) (hm : MI σ z) (hz : ZV z) (hK : ∀ σ, LI σ → Wp RL cL_law 34 (aCall 34 9) Q 1 true xl xs 1222 [some (vr 99), some (vr 0), some (vr 18), some (vi i)] [] σ) : Wp RL cL_law 34 (aCall 34 9) Q 1 true xl xs 633 [some (vr 99), some (vr 0), some (vr 18), some (vi i)] [] σ := by
  refine wp_aload_n dL_law_633 rfl ?_
  refine wp_aload_n dL_law_634 rfl ?_
  refine wp_iload_n dL_law_635 rfl ?_
  refine wp_iconst dL_law_636 (by decide) ?_
  refine wp_iaddN dL_law_637 (by omega) ?_
  refine wp_ialoadX dL_law_638 rfl (by omega) (by omega) hxl ?_
  refine wp_V1 dL_law_639 vlL_85 (by decide) rfl (Nat.le_of_ble_eq_true rfl) ?_
  refine p3_wet hc hz ?_
  have c1 := hc
  have m1 := hm
  refine wp_aload_n dL_law_642 rfl ?_
  refine wp_aload_n dL_law_643 rfl ?_
  refine wp_iload_n dL_law_644 rfl ?_
  refine wp_iconst dL_law_645 (by decide) ?_
  refine wp_iaddN dL_law_646 (by omega) ?_
  refine wp_ialoadX dL_law_647 rfl (by omega) (by omega) hxl ?_
  refine wp_V1 dL_law_648 vlL_88 (by decide) rfl (Nat.le_of_ble_eq_true rfl) ?_
  refine p4_wet m1 hz (fun σ2 x2 m2 => ?_)
  have c2 := c1.frx x2.x
  refine wp_ic_eq 1222 dL_law_651 (by decide) (fun hh651 => ?_) (fun hh651 => ?_)
  · exact hK _ ⟨_, c2, m2, hz⟩
  · exact absurd rfl hh651
set_option maxRecDepth 20000 in
theorem arm_plug {σ : aS} {Q : aQ} {z : aZ} {xl : Nat} {xs : Nat → Int} {i : Int} (hxl : xl < 2 ^ 31) (hxi : ∀ j, in32 (xs j)) (i0 : 0 ≤ i) (i6 : i + 6 ≤ xl) (i9 : i ≤ 400) (hc : CI σ z) (hm : MI σ z) (hz : ZV z) (hK : ∀ σ, LI σ → Wp RL cL_law 34 (aCall 34 9) Q 1 true xl xs 1222 [some (vr 99), some (vr 0), some (vr 18), some (vi i)] [] σ) : Wp RL cL_law 34 (aCall 34 9) Q 1 true xl xs 656 [some (vr 99), some (vr 0), some (vr 18), some (vi i)] [] σ := by
  refine wp_aload_n dL_law_656 rfl ?_
  refine wp_aload_n dL_law_657 rfl ?_
  refine wp_iload_n dL_law_658 rfl ?_
  refine wp_iconst dL_law_659 (by decide) ?_
  refine wp_iaddN dL_law_660 (by omega) ?_
  refine wp_ialoadX dL_law_661 rfl (by omega) (by omega) hxl ?_
  refine wp_aload_n dL_law_662 rfl ?_
  refine wp_iload_n dL_law_663 rfl ?_
  refine wp_iconst dL_law_664 (by decide) ?_
  refine wp_iaddN dL_law_665 (by omega) ?_
  refine wp_ialoadX dL_law_666 rfl (by omega) (by omega) hxl ?_
  refine wp_V2 dL_law_667 vlL_89 (by decide) rfl (Nat.le_of_ble_eq_true rfl) ?_
  refine p3_plug hc hz ?_
  have c1 := hc
  have m1 := hm
  refine wp_aload_n dL_law_670 rfl ?_
  refine wp_aload_n dL_law_671 rfl ?_
  refine wp_iload_n dL_law_672 rfl ?_
  refine wp_iconst dL_law_673 (by decide) ?_
  refine wp_iaddN dL_law_674 (by omega) ?_
  refine wp_ialoadX dL_law_675 rfl (by omega) (by omega) hxl ?_
  refine wp_aload_n dL_law_676 rfl ?_
  refine wp_iload_n dL_law_677 rfl ?_
  refine wp_iconst dL_law_678 (by decide) ?_
  refine wp_iaddN dL_law_679 (by omega) ?_
  refine wp_ialoadX dL_law_680 rfl (by omega) (by omega) hxl ?_
  refine wp_V2 dL_law_681 vlL_92 (by decide) rfl (Nat.le_of_ble_eq_true rfl) ?_
  refine p4_plug m1 hz (fun σ2 x2 m2 => ?_)
  have c2 := c1.frx x2.x
  refine wp_ic_eq 1222 dL_law_684 (by decide) (fun hh684 => ?_) (fun hh684 => ?_)
  · exact hK _ ⟨_, c2, m2, hz⟩
  · exact absurd rfl hh684
set_option maxRecDepth 20000 in
theorem arm_plumb {σ : aS} {Q : aQ} {z : aZ} {xl : Nat} {xs : Nat → Int} {i : Int} (hxl : xl < 2 ^ 31) (hxi : ∀ j, in32 (xs j)) (i0 : 0 ≤ i) (i6 : i + 6 ≤ xl) (i9 : i ≤ 400) (hc : CI σ z) (hm : MI σ z) (hz : ZV z) (hK : ∀ σ, LI σ → Wp RL cL_law 34 (aCall 34 9) Q 1 true xl xs 1222 [some (vr 99), some (vr 0), some (vr 18), some (vi i)] [] σ) : Wp RL cL_law 34 (aCall 34 9) Q 1 true xl xs 689 [some (vr 99), some (vr 0), some (vr 18), some (vi i)] [] σ := by
  refine wp_aload_n dL_law_689 rfl ?_
  refine wp_aload_n dL_law_690 rfl ?_
  refine wp_iload_n dL_law_691 rfl ?_
  refine wp_iconst dL_law_692 (by decide) ?_
  refine wp_iaddN dL_law_693 (by omega) ?_
  refine wp_ialoadX dL_law_694 rfl (by omega) (by omega) hxl ?_
  refine wp_aload_n dL_law_695 rfl ?_
  refine wp_iload_n dL_law_696 rfl ?_
  refine wp_iconst dL_law_697 (by decide) ?_
  refine wp_iaddN dL_law_698 (by omega) ?_
  refine wp_ialoadX dL_law_699 rfl (by omega) (by omega) hxl ?_
  refine wp_V2 dL_law_700 vlL_93 (by decide) rfl (Nat.le_of_ble_eq_true rfl) ?_
  refine p3_plumb hc hz (fun σ1 y1 c1 => ?_)
  have m1 := hm.fry y1
  refine wp_aload_n dL_law_703 rfl ?_
  refine wp_aload_n dL_law_704 rfl ?_
  refine wp_iload_n dL_law_705 rfl ?_
  refine wp_iconst dL_law_706 (by decide) ?_
  refine wp_iaddN dL_law_707 (by omega) ?_
  refine wp_ialoadX dL_law_708 rfl (by omega) (by omega) hxl ?_
  refine wp_aload_n dL_law_709 rfl ?_
  refine wp_iload_n dL_law_710 rfl ?_
  refine wp_iconst dL_law_711 (by decide) ?_
  refine wp_iaddN dL_law_712 (by omega) ?_
  refine wp_ialoadX dL_law_713 rfl (by omega) (by omega) hxl ?_
  refine wp_V2 dL_law_714 vlL_96 (by decide) rfl (Nat.le_of_ble_eq_true rfl) ?_
  refine p4_plumb m1 hz (fun σ2 x2 m2 => ?_)
  have c2 := c1.frx x2
  refine wp_ic_eq 1222 dL_law_717 (by decide) (fun hh717 => ?_) (fun hh717 => ?_)
  · exact hK _ ⟨_, c2, m2, ZV_plumb hz⟩
  · exact absurd rfl hh717
set_option maxRecDepth 20000 in
theorem arm_forget {σ : aS} {Q : aQ} {z : aZ} {xl : Nat} {xs : Nat → Int} {i : Int} (hxl : xl < 2 ^ 31) (hxi : ∀ j, in32 (xs j)) (i0 : 0 ≤ i) (i6 : i + 6 ≤ xl) (i9 : i ≤ 400) (hc : CI σ z) (hm : MI σ z) (hz : ZV z) (hK : ∀ σ, LI σ → Wp RL cL_law 34 (aCall 34 9) Q 1 true xl xs 1222 [some (vr 99), some (vr 0), some (vr 18), some (vi i)] [] σ) : Wp RL cL_law 34 (aCall 34 9) Q 1 true xl xs 722 [some (vr 99), some (vr 0), some (vr 18), some (vi i)] [] σ := by
  refine wp_aload_n dL_law_722 rfl ?_
  refine wp_V0 dL_law_723 vlL_97 (by decide) rfl (Nat.le_of_ble_eq_true rfl) ?_
  refine p3_forget hc hz (fun σ1 y1 c1 => ?_)
  have m1 := hm.fry y1
  refine wp_aload_n dL_law_726 rfl ?_
  refine wp_V0 dL_law_727 vlL_100 (by decide) rfl (Nat.le_of_ble_eq_true rfl) ?_
  refine p4_forget m1 hz (fun σ2 x2 m2 => ?_)
  have c2 := c1.frx x2
  refine wp_ic_eq 1222 dL_law_730 (by decide) (fun hh730 => ?_) (fun hh730 => ?_)
  · exact hK _ ⟨_, c2, m2, ZV_forget hz⟩
  · exact absurd rfl hh730
set_option maxRecDepth 20000 in
theorem arm_where {σ : aS} {Q : aQ} {z : aZ} {xl : Nat} {xs : Nat → Int} {i : Int} (hxl : xl < 2 ^ 31) (hxi : ∀ j, in32 (xs j)) (i0 : 0 ≤ i) (i6 : i + 6 ≤ xl) (i9 : i ≤ 400) (hc : CI σ z) (hm : MI σ z) (hz : ZV z) (hK : ∀ σ, LI σ → Wp RL cL_law 34 (aCall 34 9) Q 1 true xl xs 1222 [some (vr 99), some (vr 0), some (vr 18), some (vi i)] [] σ) : Wp RL cL_law 34 (aCall 34 9) Q 1 true xl xs 735 [some (vr 99), some (vr 0), some (vr 18), some (vi i)] [] σ := by
  refine wp_aload_n dL_law_735 rfl ?_
  refine wp_V0 dL_law_736 vlL_101 (by decide) rfl (Nat.le_of_ble_eq_true rfl) ?_
  refine p3_where hc hz ?_
  have c1 := hc
  have m1 := hm
  refine wp_aload_n dL_law_739 rfl ?_
  refine wp_V0 dL_law_740 vlL_104 (by decide) rfl (Nat.le_of_ble_eq_true rfl) ?_
  refine p4_where m1 hz ?_
  have c2 := c1
  have m2 := m1
  refine wp_ic_eq 1222 dL_law_743 (by decide) (fun hh743 => ?_) (fun hh743 => ?_)
  · exact hK _ ⟨_, c2, m2, hz⟩
  · exact absurd rfl hh743
set_option maxRecDepth 20000 in
theorem arm_hang {σ : aS} {Q : aQ} {z : aZ} {xl : Nat} {xs : Nat → Int} {i : Int} (hxl : xl < 2 ^ 31) (hxi : ∀ j, in32 (xs j)) (i0 : 0 ≤ i) (i6 : i + 6 ≤ xl) (i9 : i ≤ 400) (hc : CI σ z) (hm : MI σ z) (hz : ZV z) (hK : ∀ σ, LI σ → Wp RL cL_law 34 (aCall 34 9) Q 1 true xl xs 1222 [some (vr 99), some (vr 0), some (vr 18), some (vi i)] [] σ) : Wp RL cL_law 34 (aCall 34 9) Q 1 true xl xs 748 [some (vr 99), some (vr 0), some (vr 18), some (vi i)] [] σ := by
  refine wp_aload_n dL_law_748 rfl ?_
  refine wp_V0 dL_law_749 vlL_105 (by decide) rfl (Nat.le_of_ble_eq_true rfl) ?_
  refine p3_hang hc hz ?_
  have c1 := hc
  have m1 := hm
  refine wp_aload_n dL_law_752 rfl ?_
  refine wp_V0 dL_law_753 vlL_108 (by decide) rfl (Nat.le_of_ble_eq_true rfl) ?_
  refine p4_hang m1 hz (fun σ2 x2 m2 => ?_)
  have c2 := c1.frx x2.x
  refine wp_ic_eq 1222 dL_law_756 (by decide) (fun hh756 => ?_) (fun hh756 => ?_)
  · exact hK _ ⟨_, c2, m2, hz⟩
  · exact absurd rfl hh756
set_option maxRecDepth 20000 in
theorem arm_from {σ : aS} {Q : aQ} {z : aZ} {xl : Nat} {xs : Nat → Int} {i : Int} (hxl : xl < 2 ^ 31) (hxi : ∀ j, in32 (xs j)) (i0 : 0 ≤ i) (i6 : i + 6 ≤ xl) (i9 : i ≤ 400) (hc : CI σ z) (hm : MI σ z) (hz : ZV z) (hK : ∀ σ, LI σ → Wp RL cL_law 34 (aCall 34 9) Q 1 true xl xs 1222 [some (vr 99), some (vr 0), some (vr 18), some (vi i)] [] σ) : Wp RL cL_law 34 (aCall 34 9) Q 1 true xl xs 761 [some (vr 99), some (vr 0), some (vr 18), some (vi i)] [] σ := by
  refine wp_aload_n dL_law_761 rfl ?_
  refine wp_aload_n dL_law_762 rfl ?_
  refine wp_iload_n dL_law_763 rfl ?_
  refine wp_iconst dL_law_764 (by decide) ?_
  refine wp_iaddN dL_law_765 (by omega) ?_
  refine wp_ialoadX dL_law_766 rfl (by omega) (by omega) hxl ?_
  refine wp_aload_n dL_law_767 rfl ?_
  refine wp_iload_n dL_law_768 rfl ?_
  refine wp_iconst dL_law_769 (by decide) ?_
  refine wp_iaddN dL_law_770 (by omega) ?_
  refine wp_ialoadX dL_law_771 rfl (by omega) (by omega) hxl ?_
  refine wp_aload_n dL_law_772 rfl ?_
  refine wp_iload_n dL_law_773 rfl ?_
  refine wp_iconst dL_law_774 (by decide) ?_
  refine wp_iaddN dL_law_775 (by omega) ?_
  refine wp_ialoadX dL_law_776 rfl (by omega) (by omega) hxl ?_
  refine wp_V3 dL_law_777 vlL_109 (by decide) rfl (Nat.le_of_ble_eq_true rfl) ?_
  refine p3_from hc hz ?_
  have c1 := hc
  have m1 := hm
  refine wp_aload_n dL_law_780 rfl ?_
  refine wp_aload_n dL_law_781 rfl ?_
  refine wp_iload_n dL_law_782 rfl ?_
  refine wp_iconst dL_law_783 (by decide) ?_
  refine wp_iaddN dL_law_784 (by omega) ?_
  refine wp_ialoadX dL_law_785 rfl (by omega) (by omega) hxl ?_
  refine wp_aload_n dL_law_786 rfl ?_
  refine wp_iload_n dL_law_787 rfl ?_
  refine wp_iconst dL_law_788 (by decide) ?_
  refine wp_iaddN dL_law_789 (by omega) ?_
  refine wp_ialoadX dL_law_790 rfl (by omega) (by omega) hxl ?_
  refine wp_aload_n dL_law_791 rfl ?_
  refine wp_iload_n dL_law_792 rfl ?_
  refine wp_iconst dL_law_793 (by decide) ?_
  refine wp_iaddN dL_law_794 (by omega) ?_
  refine wp_ialoadX dL_law_795 rfl (by omega) (by omega) hxl ?_
  refine wp_V3 dL_law_796 vlL_112 (by decide) rfl (Nat.le_of_ble_eq_true rfl) ?_
  refine p4_from m1 hz (fun σ2 x2 m2 => ?_)
  have c2 := c1.frx x2.x
  refine wp_ic_eq 1222 dL_law_799 (by decide) (fun hh799 => ?_) (fun hh799 => ?_)
  · exact hK _ ⟨_, c2, m2, hz⟩
  · exact absurd rfl hh799
set_option maxRecDepth 20000 in
theorem arm_joined {σ : aS} {Q : aQ} {z : aZ} {xl : Nat} {xs : Nat → Int} {i : Int} (hxl : xl < 2 ^ 31) (hxi : ∀ j, in32 (xs j)) (i0 : 0 ≤ i) (i6 : i + 6 ≤ xl) (i9 : i ≤ 400) (hc : CI σ z) (hm : MI σ z) (hz : ZV z) (hK : ∀ σ, LI σ → Wp RL cL_law 34 (aCall 34 9) Q 1 true xl xs 1222 [some (vr 99), some (vr 0), some (vr 18), some (vi i)] [] σ) : Wp RL cL_law 34 (aCall 34 9) Q 1 true xl xs 804 [some (vr 99), some (vr 0), some (vr 18), some (vi i)] [] σ := by
  refine wp_aload_n dL_law_804 rfl ?_
  refine wp_V0 dL_law_805 vlL_113 (by decide) rfl (Nat.le_of_ble_eq_true rfl) ?_
  refine p3_joined hc hz ?_
  have c1 := hc
  have m1 := hm
  refine wp_aload_n dL_law_808 rfl ?_
  refine wp_V0 dL_law_809 vlL_116 (by decide) rfl (Nat.le_of_ble_eq_true rfl) ?_
  refine p4_joined m1 hz (fun σ2 x2 m2 => ?_)
  have c2 := c1.frx x2.x
  refine wp_ic_eq 1222 dL_law_812 (by decide) (fun hh812 => ?_) (fun hh812 => ?_)
  · exact hK _ ⟨_, c2, m2, hz⟩
  · exact absurd rfl hh812
set_option maxRecDepth 20000 in
theorem arm_like {σ : aS} {Q : aQ} {z : aZ} {xl : Nat} {xs : Nat → Int} {i : Int} (hxl : xl < 2 ^ 31) (hxi : ∀ j, in32 (xs j)) (i0 : 0 ≤ i) (i6 : i + 6 ≤ xl) (i9 : i ≤ 400) (hc : CI σ z) (hm : MI σ z) (hz : ZV z) (hK : ∀ σ, LI σ → Wp RL cL_law 34 (aCall 34 9) Q 1 true xl xs 1222 [some (vr 99), some (vr 0), some (vr 18), some (vi i)] [] σ) : Wp RL cL_law 34 (aCall 34 9) Q 1 true xl xs 817 [some (vr 99), some (vr 0), some (vr 18), some (vi i)] [] σ := by
  refine wp_aload_n dL_law_817 rfl ?_
  refine wp_aload_n dL_law_818 rfl ?_
  refine wp_iload_n dL_law_819 rfl ?_
  refine wp_iconst dL_law_820 (by decide) ?_
  refine wp_iaddN dL_law_821 (by omega) ?_
  refine wp_ialoadX dL_law_822 rfl (by omega) (by omega) hxl ?_
  refine wp_V1 dL_law_823 vlL_117 (by decide) rfl (Nat.le_of_ble_eq_true rfl) ?_
  refine p3_like hc hz ?_
  have c1 := hc
  have m1 := hm
  refine wp_aload_n dL_law_826 rfl ?_
  refine wp_aload_n dL_law_827 rfl ?_
  refine wp_iload_n dL_law_828 rfl ?_
  refine wp_iconst dL_law_829 (by decide) ?_
  refine wp_iaddN dL_law_830 (by omega) ?_
  refine wp_ialoadX dL_law_831 rfl (by omega) (by omega) hxl ?_
  refine wp_V1 dL_law_832 vlL_120 (by decide) rfl (Nat.le_of_ble_eq_true rfl) ?_
  refine p4_like m1 hz (fun σ2 x2 m2 => ?_)
  have c2 := c1.frx x2.x
  refine wp_ic_eq 1222 dL_law_835 (by decide) (fun hh835 => ?_) (fun hh835 => ?_)
  · exact hK _ ⟨_, c2, m2, hz⟩
  · exact absurd rfl hh835
set_option maxRecDepth 20000 in
theorem arm_flood {σ : aS} {Q : aQ} {z : aZ} {xl : Nat} {xs : Nat → Int} {i : Int} (hxl : xl < 2 ^ 31) (hxi : ∀ j, in32 (xs j)) (i0 : 0 ≤ i) (i6 : i + 6 ≤ xl) (i9 : i ≤ 400) (hc : CI σ z) (hm : MI σ z) (hz : ZV z) (hK : ∀ σ, LI σ → Wp RL cL_law 34 (aCall 34 9) Q 1 true xl xs 1222 [some (vr 99), some (vr 0), some (vr 18), some (vi i)] [] σ) : Wp RL cL_law 34 (aCall 34 9) Q 1 true xl xs 840 [some (vr 99), some (vr 0), some (vr 18), some (vi i)] [] σ := by
  refine wp_aload_n dL_law_840 rfl ?_
  refine wp_aload_n dL_law_841 rfl ?_
  refine wp_iload_n dL_law_842 rfl ?_
  refine wp_iconst dL_law_843 (by decide) ?_
  refine wp_iaddN dL_law_844 (by omega) ?_
  refine wp_ialoadX dL_law_845 rfl (by omega) (by omega) hxl ?_
  refine wp_aload_n dL_law_846 rfl ?_
  refine wp_iload_n dL_law_847 rfl ?_
  refine wp_iconst dL_law_848 (by decide) ?_
  refine wp_iaddN dL_law_849 (by omega) ?_
  refine wp_ialoadX dL_law_850 rfl (by omega) (by omega) hxl ?_
  refine wp_aload_n dL_law_851 rfl ?_
  refine wp_iload_n dL_law_852 rfl ?_
  refine wp_iconst dL_law_853 (by decide) ?_
  refine wp_iaddN dL_law_854 (by omega) ?_
  refine wp_ialoadX dL_law_855 rfl (by omega) (by omega) hxl ?_
  refine wp_V3 dL_law_856 vlL_121 (by decide) rfl (Nat.le_of_ble_eq_true rfl) ?_
  refine p3_flood hc hz ?_
  have c1 := hc
  have m1 := hm
  refine wp_aload_n dL_law_859 rfl ?_
  refine wp_aload_n dL_law_860 rfl ?_
  refine wp_iload_n dL_law_861 rfl ?_
  refine wp_iconst dL_law_862 (by decide) ?_
  refine wp_iaddN dL_law_863 (by omega) ?_
  refine wp_ialoadX dL_law_864 rfl (by omega) (by omega) hxl ?_
  refine wp_aload_n dL_law_865 rfl ?_
  refine wp_iload_n dL_law_866 rfl ?_
  refine wp_iconst dL_law_867 (by decide) ?_
  refine wp_iaddN dL_law_868 (by omega) ?_
  refine wp_ialoadX dL_law_869 rfl (by omega) (by omega) hxl ?_
  refine wp_aload_n dL_law_870 rfl ?_
  refine wp_iload_n dL_law_871 rfl ?_
  refine wp_iconst dL_law_872 (by decide) ?_
  refine wp_iaddN dL_law_873 (by omega) ?_
  refine wp_ialoadX dL_law_874 rfl (by omega) (by omega) hxl ?_
  refine wp_V3 dL_law_875 vlL_125 (by decide) rfl (Nat.le_of_ble_eq_true rfl) ?_
  refine p4_flood m1 hz (fun σ2 x2 m2 => ?_)
  have c2 := c1.frx x2.x
  refine wp_lcmp dL_law_878 ?_
  refine wp_if_eq 1222 dL_law_879 (by decide) (fun hh879 => ?_) (fun hh879 => ?_)
  · exact hK _ ⟨_, c2, m2, hz⟩
  · exact absurd (lcm_z.mpr rfl) hh879
set_option maxRecDepth 20000 in
theorem arm_kicks {σ : aS} {Q : aQ} {z : aZ} {xl : Nat} {xs : Nat → Int} {i : Int} (hxl : xl < 2 ^ 31) (hxi : ∀ j, in32 (xs j)) (i0 : 0 ≤ i) (i6 : i + 6 ≤ xl) (i9 : i ≤ 400) (hc : CI σ z) (hm : MI σ z) (hz : ZV z) (hK : ∀ σ, LI σ → Wp RL cL_law 34 (aCall 34 9) Q 1 true xl xs 1222 [some (vr 99), some (vr 0), some (vr 18), some (vi i)] [] σ) : Wp RL cL_law 34 (aCall 34 9) Q 1 true xl xs 884 [some (vr 99), some (vr 0), some (vr 18), some (vi i)] [] σ := by
  refine wp_aload_n dL_law_884 rfl ?_
  refine wp_aload_n dL_law_885 rfl ?_
  refine wp_iload_n dL_law_886 rfl ?_
  refine wp_iconst dL_law_887 (by decide) ?_
  refine wp_iaddN dL_law_888 (by omega) ?_
  refine wp_ialoadX dL_law_889 rfl (by omega) (by omega) hxl ?_
  refine wp_aload_n dL_law_890 rfl ?_
  refine wp_iload_n dL_law_891 rfl ?_
  refine wp_iconst dL_law_892 (by decide) ?_
  refine wp_iaddN dL_law_893 (by omega) ?_
  refine wp_ialoadX dL_law_894 rfl (by omega) (by omega) hxl ?_
  refine wp_aload_n dL_law_895 rfl ?_
  refine wp_iload_n dL_law_896 rfl ?_
  refine wp_iconst dL_law_897 (by decide) ?_
  refine wp_iaddN dL_law_898 (by omega) ?_
  refine wp_ialoadX dL_law_899 rfl (by omega) (by omega) hxl ?_
  refine wp_V3 dL_law_900 vlL_126 (by decide) rfl (Nat.le_of_ble_eq_true rfl) ?_
  refine p3_kicks hc hz ?_
  have c1 := hc
  have m1 := hm
  refine wp_aload_n dL_law_903 rfl ?_
  refine wp_aload_n dL_law_904 rfl ?_
  refine wp_iload_n dL_law_905 rfl ?_
  refine wp_iconst dL_law_906 (by decide) ?_
  refine wp_iaddN dL_law_907 (by omega) ?_
  refine wp_ialoadX dL_law_908 rfl (by omega) (by omega) hxl ?_
  refine wp_aload_n dL_law_909 rfl ?_
  refine wp_iload_n dL_law_910 rfl ?_
  refine wp_iconst dL_law_911 (by decide) ?_
  refine wp_iaddN dL_law_912 (by omega) ?_
  refine wp_ialoadX dL_law_913 rfl (by omega) (by omega) hxl ?_
  refine wp_aload_n dL_law_914 rfl ?_
  refine wp_iload_n dL_law_915 rfl ?_
  refine wp_iconst dL_law_916 (by decide) ?_
  refine wp_iaddN dL_law_917 (by omega) ?_
  refine wp_ialoadX dL_law_918 rfl (by omega) (by omega) hxl ?_
  refine wp_V3 dL_law_919 vlL_129 (by decide) rfl (Nat.le_of_ble_eq_true rfl) ?_
  refine p4_kicks m1 hz (fun σ2 x2 m2 => ?_)
  have c2 := c1.frx x2.x
  refine wp_ic_eq 1222 dL_law_922 (by decide) (fun hh922 => ?_) (fun hh922 => ?_)
  · exact hK _ ⟨_, c2, m2, hz⟩
  · exact absurd rfl hh922
set_option maxRecDepth 20000 in
theorem arm_sheet {σ : aS} {Q : aQ} {z : aZ} {xl : Nat} {xs : Nat → Int} {i : Int} (hxl : xl < 2 ^ 31) (hxi : ∀ j, in32 (xs j)) (i0 : 0 ≤ i) (i6 : i + 6 ≤ xl) (i9 : i ≤ 400) (hc : CI σ z) (hm : MI σ z) (hz : ZV z) (hK : ∀ σ, LI σ → Wp RL cL_law 34 (aCall 34 9) Q 1 true xl xs 1222 [some (vr 99), some (vr 0), some (vr 18), some (vi i)] [] σ) : Wp RL cL_law 34 (aCall 34 9) Q 1 true xl xs 927 [some (vr 99), some (vr 0), some (vr 18), some (vi i)] [] σ := by
  refine wp_aload_n dL_law_927 rfl ?_
  refine wp_aload_n dL_law_928 rfl ?_
  refine wp_iload_n dL_law_929 rfl ?_
  refine wp_iconst dL_law_930 (by decide) ?_
  refine wp_iaddN dL_law_931 (by omega) ?_
  refine wp_ialoadX dL_law_932 rfl (by omega) (by omega) hxl ?_
  refine wp_aload_n dL_law_933 rfl ?_
  refine wp_iload_n dL_law_934 rfl ?_
  refine wp_iconst dL_law_935 (by decide) ?_
  refine wp_iaddN dL_law_936 (by omega) ?_
  refine wp_ialoadX dL_law_937 rfl (by omega) (by omega) hxl ?_
  refine wp_aload_n dL_law_938 rfl ?_
  refine wp_iload_n dL_law_939 rfl ?_
  refine wp_iconst dL_law_940 (by decide) ?_
  refine wp_iaddN dL_law_941 (by omega) ?_
  refine wp_ialoadX dL_law_942 rfl (by omega) (by omega) hxl ?_
  refine wp_V3 dL_law_943 vlL_130 (by decide) rfl (Nat.le_of_ble_eq_true rfl) ?_
  refine p3_sheet hc hz (fun σ1 y1 c1 => ?_)
  have m1 := hm.fry y1
  refine wp_aload_n dL_law_946 rfl ?_
  refine wp_aload_n dL_law_947 rfl ?_
  refine wp_iload_n dL_law_948 rfl ?_
  refine wp_iconst dL_law_949 (by decide) ?_
  refine wp_iaddN dL_law_950 (by omega) ?_
  refine wp_ialoadX dL_law_951 rfl (by omega) (by omega) hxl ?_
  refine wp_aload_n dL_law_952 rfl ?_
  refine wp_iload_n dL_law_953 rfl ?_
  refine wp_iconst dL_law_954 (by decide) ?_
  refine wp_iaddN dL_law_955 (by omega) ?_
  refine wp_ialoadX dL_law_956 rfl (by omega) (by omega) hxl ?_
  refine wp_aload_n dL_law_957 rfl ?_
  refine wp_iload_n dL_law_958 rfl ?_
  refine wp_iconst dL_law_959 (by decide) ?_
  refine wp_iaddN dL_law_960 (by omega) ?_
  refine wp_ialoadX dL_law_961 rfl (by omega) (by omega) hxl ?_
  refine wp_V3 dL_law_962 vlL_133 (by decide) rfl (Nat.le_of_ble_eq_true rfl) ?_
  refine p4_sheet m1 hz (fun σ2 x2 m2 => ?_)
  have c2 := c1.frx x2
  refine wp_ic_eq 1222 dL_law_965 (by decide) (fun hh965 => ?_) (fun hh965 => ?_)
  · exact hK _ ⟨_, c2, m2, ZV_sheet hz⟩
  · exact absurd rfl hh965
set_option maxRecDepth 20000 in
theorem arm_lose {σ : aS} {Q : aQ} {z : aZ} {xl : Nat} {xs : Nat → Int} {i : Int} (hxl : xl < 2 ^ 31) (hxi : ∀ j, in32 (xs j)) (i0 : 0 ≤ i) (i6 : i + 6 ≤ xl) (i9 : i ≤ 400) (hc : CI σ z) (hm : MI σ z) (hz : ZV z) (hK : ∀ σ, LI σ → Wp RL cL_law 34 (aCall 34 9) Q 1 true xl xs 1222 [some (vr 99), some (vr 0), some (vr 18), some (vi i)] [] σ) : Wp RL cL_law 34 (aCall 34 9) Q 1 true xl xs 970 [some (vr 99), some (vr 0), some (vr 18), some (vi i)] [] σ := by
  refine wp_aload_n dL_law_970 rfl ?_
  refine wp_aload_n dL_law_971 rfl ?_
  refine wp_iload_n dL_law_972 rfl ?_
  refine wp_iconst dL_law_973 (by decide) ?_
  refine wp_iaddN dL_law_974 (by omega) ?_
  refine wp_ialoadX dL_law_975 rfl (by omega) (by omega) hxl ?_
  refine wp_V1 dL_law_976 vlL_134 (by decide) rfl (Nat.le_of_ble_eq_true rfl) ?_
  refine p3_lose hc hz (fun σ1 y1 c1 => ?_)
  have m1 := hm.fry y1
  refine wp_aload_n dL_law_979 rfl ?_
  refine wp_aload_n dL_law_980 rfl ?_
  refine wp_iload_n dL_law_981 rfl ?_
  refine wp_iconst dL_law_982 (by decide) ?_
  refine wp_iaddN dL_law_983 (by omega) ?_
  refine wp_ialoadX dL_law_984 rfl (by omega) (by omega) hxl ?_
  refine wp_V1 dL_law_985 vlL_137 (by decide) rfl (Nat.le_of_ble_eq_true rfl) ?_
  refine p4_lose m1 hz (fun σ2 x2 m2 => ?_)
  have c2 := c1.frx x2
  refine wp_ic_eq 1222 dL_law_988 (by decide) (fun hh988 => ?_) (fun hh988 => ?_)
  · exact hK _ ⟨_, c2, m2, ZV_lose hz⟩
  · exact absurd rfl hh988
set_option maxRecDepth 20000 in
theorem arm_put {σ : aS} {Q : aQ} {z : aZ} {xl : Nat} {xs : Nat → Int} {i : Int} (hxl : xl < 2 ^ 31) (hxi : ∀ j, in32 (xs j)) (i0 : 0 ≤ i) (i6 : i + 6 ≤ xl) (i9 : i ≤ 400) (hc : CI σ z) (hm : MI σ z) (hz : ZV z) (hK : ∀ σ, LI σ → Wp RL cL_law 34 (aCall 34 9) Q 1 true xl xs 1222 [some (vr 99), some (vr 0), some (vr 18), some (vi i)] [] σ) : Wp RL cL_law 34 (aCall 34 9) Q 1 true xl xs 993 [some (vr 99), some (vr 0), some (vr 18), some (vi i)] [] σ := by
  refine wp_aload_n dL_law_993 rfl ?_
  refine wp_aload_n dL_law_994 rfl ?_
  refine wp_iload_n dL_law_995 rfl ?_
  refine wp_iconst dL_law_996 (by decide) ?_
  refine wp_iaddN dL_law_997 (by omega) ?_
  refine wp_ialoadX dL_law_998 rfl (by omega) (by omega) hxl ?_
  refine wp_aload_n dL_law_999 rfl ?_
  refine wp_iload_n dL_law_1000 rfl ?_
  refine wp_iconst dL_law_1001 (by decide) ?_
  refine wp_iaddN dL_law_1002 (by omega) ?_
  refine wp_ialoadX dL_law_1003 rfl (by omega) (by omega) hxl ?_
  refine wp_aload_n dL_law_1004 rfl ?_
  refine wp_iload_n dL_law_1005 rfl ?_
  refine wp_iconst dL_law_1006 (by decide) ?_
  refine wp_iaddN dL_law_1007 (by omega) ?_
  refine wp_ialoadX dL_law_1008 rfl (by omega) (by omega) hxl ?_
  refine wp_aload_n dL_law_1009 rfl ?_
  refine wp_iload_n dL_law_1010 rfl ?_
  refine wp_iconst dL_law_1011 (by decide) ?_
  refine wp_iaddN dL_law_1012 (by omega) ?_
  refine wp_ialoadX dL_law_1013 rfl (by omega) (by omega) hxl ?_
  refine wp_V4 dL_law_1014 vlL_138 (by decide) rfl (Nat.le_of_ble_eq_true rfl) ?_
  refine p3_put hc hz (fun σ1 y1 c1 => ?_)
  have m1 := hm.fry y1
  refine wp_aload_n dL_law_1017 rfl ?_
  refine wp_aload_n dL_law_1018 rfl ?_
  refine wp_iload_n dL_law_1019 rfl ?_
  refine wp_iconst dL_law_1020 (by decide) ?_
  refine wp_iaddN dL_law_1021 (by omega) ?_
  refine wp_ialoadX dL_law_1022 rfl (by omega) (by omega) hxl ?_
  refine wp_aload_n dL_law_1023 rfl ?_
  refine wp_iload_n dL_law_1024 rfl ?_
  refine wp_iconst dL_law_1025 (by decide) ?_
  refine wp_iaddN dL_law_1026 (by omega) ?_
  refine wp_ialoadX dL_law_1027 rfl (by omega) (by omega) hxl ?_
  refine wp_aload_n dL_law_1028 rfl ?_
  refine wp_iload_n dL_law_1029 rfl ?_
  refine wp_iconst dL_law_1030 (by decide) ?_
  refine wp_iaddN dL_law_1031 (by omega) ?_
  refine wp_ialoadX dL_law_1032 rfl (by omega) (by omega) hxl ?_
  refine wp_aload_n dL_law_1033 rfl ?_
  refine wp_iload_n dL_law_1034 rfl ?_
  refine wp_iconst dL_law_1035 (by decide) ?_
  refine wp_iaddN dL_law_1036 (by omega) ?_
  refine wp_ialoadX dL_law_1037 rfl (by omega) (by omega) hxl ?_
  refine wp_V4 dL_law_1038 vlL_142 (by decide) rfl (Nat.le_of_ble_eq_true rfl) ?_
  refine p4_put m1 hz (fun σ2 x2 m2 => ?_)
  have c2 := c1.frx x2
  refine wp_ic_eq 1222 dL_law_1041 (by decide) (fun hh1041 => ?_) (fun hh1041 => ?_)
  · exact hK _ ⟨_, c2, m2, ZV_put hz⟩
  · exact absurd rfl hh1041
set_option maxRecDepth 20000 in
theorem arm_get {σ : aS} {Q : aQ} {z : aZ} {xl : Nat} {xs : Nat → Int} {i : Int} (hxl : xl < 2 ^ 31) (hxi : ∀ j, in32 (xs j)) (i0 : 0 ≤ i) (i6 : i + 6 ≤ xl) (i9 : i ≤ 400) (hc : CI σ z) (hm : MI σ z) (hz : ZV z) (hK : ∀ σ, LI σ → Wp RL cL_law 34 (aCall 34 9) Q 1 true xl xs 1222 [some (vr 99), some (vr 0), some (vr 18), some (vi i)] [] σ) : Wp RL cL_law 34 (aCall 34 9) Q 1 true xl xs 1046 [some (vr 99), some (vr 0), some (vr 18), some (vi i)] [] σ := by
  refine wp_aload_n dL_law_1046 rfl ?_
  refine wp_aload_n dL_law_1047 rfl ?_
  refine wp_iload_n dL_law_1048 rfl ?_
  refine wp_iconst dL_law_1049 (by decide) ?_
  refine wp_iaddN dL_law_1050 (by omega) ?_
  refine wp_ialoadX dL_law_1051 rfl (by omega) (by omega) hxl ?_
  refine wp_aload_n dL_law_1052 rfl ?_
  refine wp_iload_n dL_law_1053 rfl ?_
  refine wp_iconst dL_law_1054 (by decide) ?_
  refine wp_iaddN dL_law_1055 (by omega) ?_
  refine wp_ialoadX dL_law_1056 rfl (by omega) (by omega) hxl ?_
  refine wp_aload_n dL_law_1057 rfl ?_
  refine wp_iload_n dL_law_1058 rfl ?_
  refine wp_iconst dL_law_1059 (by decide) ?_
  refine wp_iaddN dL_law_1060 (by omega) ?_
  refine wp_ialoadX dL_law_1061 rfl (by omega) (by omega) hxl ?_
  refine wp_V3 dL_law_1062 vlL_143 (by decide) rfl (Nat.le_of_ble_eq_true rfl) ?_
  refine p3_get hc hz (fun σ1 y1 c1 => ?_)
  have m1 := hm.fry y1
  refine wp_aload_n dL_law_1065 rfl ?_
  refine wp_aload_n dL_law_1066 rfl ?_
  refine wp_iload_n dL_law_1067 rfl ?_
  refine wp_iconst dL_law_1068 (by decide) ?_
  refine wp_iaddN dL_law_1069 (by omega) ?_
  refine wp_ialoadX dL_law_1070 rfl (by omega) (by omega) hxl ?_
  refine wp_aload_n dL_law_1071 rfl ?_
  refine wp_iload_n dL_law_1072 rfl ?_
  refine wp_iconst dL_law_1073 (by decide) ?_
  refine wp_iaddN dL_law_1074 (by omega) ?_
  refine wp_ialoadX dL_law_1075 rfl (by omega) (by omega) hxl ?_
  refine wp_aload_n dL_law_1076 rfl ?_
  refine wp_iload_n dL_law_1077 rfl ?_
  refine wp_iconst dL_law_1078 (by decide) ?_
  refine wp_iaddN dL_law_1079 (by omega) ?_
  refine wp_ialoadX dL_law_1080 rfl (by omega) (by omega) hxl ?_
  refine wp_V3 dL_law_1081 vlL_146 (by decide) rfl (Nat.le_of_ble_eq_true rfl) ?_
  refine p4_get m1 hz (fun σ2 x2 m2 => ?_)
  have c2 := c1.frx x2
  refine wp_ic_eq 1222 dL_law_1084 (by decide) (fun hh1084 => ?_) (fun hh1084 => ?_)
  · exact hK _ ⟨_, c2, m2, ZV_get hz⟩
  · exact absurd rfl hh1084
set_option maxRecDepth 20000 in
theorem arm_copy {σ : aS} {Q : aQ} {z : aZ} {xl : Nat} {xs : Nat → Int} {i : Int} (hxl : xl < 2 ^ 31) (hxi : ∀ j, in32 (xs j)) (i0 : 0 ≤ i) (i6 : i + 6 ≤ xl) (i9 : i ≤ 400) (hc : CI σ z) (hm : MI σ z) (hz : ZV z) (hK : ∀ σ, LI σ → Wp RL cL_law 34 (aCall 34 9) Q 1 true xl xs 1222 [some (vr 99), some (vr 0), some (vr 18), some (vi i)] [] σ) : Wp RL cL_law 34 (aCall 34 9) Q 1 true xl xs 1089 [some (vr 99), some (vr 0), some (vr 18), some (vi i)] [] σ := by
  refine wp_aload_n dL_law_1089 rfl ?_
  refine wp_aload_n dL_law_1090 rfl ?_
  refine wp_iload_n dL_law_1091 rfl ?_
  refine wp_iconst dL_law_1092 (by decide) ?_
  refine wp_iaddN dL_law_1093 (by omega) ?_
  refine wp_ialoadX dL_law_1094 rfl (by omega) (by omega) hxl ?_
  refine wp_aload_n dL_law_1095 rfl ?_
  refine wp_iload_n dL_law_1096 rfl ?_
  refine wp_iconst dL_law_1097 (by decide) ?_
  refine wp_iaddN dL_law_1098 (by omega) ?_
  refine wp_ialoadX dL_law_1099 rfl (by omega) (by omega) hxl ?_
  refine wp_aload_n dL_law_1100 rfl ?_
  refine wp_iload_n dL_law_1101 rfl ?_
  refine wp_iconst dL_law_1102 (by decide) ?_
  refine wp_iaddN dL_law_1103 (by omega) ?_
  refine wp_ialoadX dL_law_1104 rfl (by omega) (by omega) hxl ?_
  refine wp_aload_n dL_law_1105 rfl ?_
  refine wp_iload_n dL_law_1106 rfl ?_
  refine wp_iconst dL_law_1107 (by decide) ?_
  refine wp_iaddN dL_law_1108 (by omega) ?_
  refine wp_ialoadX dL_law_1109 rfl (by omega) (by omega) hxl ?_
  refine wp_aload_n dL_law_1110 rfl ?_
  refine wp_iload_n dL_law_1111 rfl ?_
  refine wp_iconst dL_law_1112 (by decide) ?_
  refine wp_iaddN dL_law_1113 (by omega) ?_
  refine wp_ialoadX dL_law_1114 rfl (by omega) (by omega) hxl ?_
  refine wp_V5 dL_law_1115 vlL_147 (by decide) rfl (Nat.le_of_ble_eq_true rfl) ?_
  refine p3_copy hc hz (fun σ1 y1 c1 => ?_)
  have m1 := hm.fry y1
  refine wp_aload_n dL_law_1118 rfl ?_
  refine wp_aload_n dL_law_1119 rfl ?_
  refine wp_iload_n dL_law_1120 rfl ?_
  refine wp_iconst dL_law_1121 (by decide) ?_
  refine wp_iaddN dL_law_1122 (by omega) ?_
  refine wp_ialoadX dL_law_1123 rfl (by omega) (by omega) hxl ?_
  refine wp_aload_n dL_law_1124 rfl ?_
  refine wp_iload_n dL_law_1125 rfl ?_
  refine wp_iconst dL_law_1126 (by decide) ?_
  refine wp_iaddN dL_law_1127 (by omega) ?_
  refine wp_ialoadX dL_law_1128 rfl (by omega) (by omega) hxl ?_
  refine wp_aload_n dL_law_1129 rfl ?_
  refine wp_iload_n dL_law_1130 rfl ?_
  refine wp_iconst dL_law_1131 (by decide) ?_
  refine wp_iaddN dL_law_1132 (by omega) ?_
  refine wp_ialoadX dL_law_1133 rfl (by omega) (by omega) hxl ?_
  refine wp_aload_n dL_law_1134 rfl ?_
  refine wp_iload_n dL_law_1135 rfl ?_
  refine wp_iconst dL_law_1136 (by decide) ?_
  refine wp_iaddN dL_law_1137 (by omega) ?_
  refine wp_ialoadX dL_law_1138 rfl (by omega) (by omega) hxl ?_
  refine wp_aload_n dL_law_1139 rfl ?_
  refine wp_iload_n dL_law_1140 rfl ?_
  refine wp_iconst dL_law_1141 (by decide) ?_
  refine wp_iaddN dL_law_1142 (by omega) ?_
  refine wp_ialoadX dL_law_1143 rfl (by omega) (by omega) hxl ?_
  refine wp_V5 dL_law_1144 vlL_151 (by decide) rfl (Nat.le_of_ble_eq_true rfl) ?_
  refine p4_copy m1 hz (hxi _) (hxi _) (hxi _) (fun σ2 x2 m2 => ?_)
  have c2 := c1.frx x2
  refine wp_ic_eq 1222 dL_law_1147 (by decide) (fun hh1147 => ?_) (fun hh1147 => ?_)
  · exact hK _ ⟨_, c2, m2, ZV_copy hz⟩
  · exact absurd rfl hh1147
set_option maxRecDepth 20000 in
theorem arm_write {σ : aS} {Q : aQ} {z : aZ} {xl : Nat} {xs : Nat → Int} {i : Int} (hxl : xl < 2 ^ 31) (hxi : ∀ j, in32 (xs j)) (i0 : 0 ≤ i) (i6 : i + 6 ≤ xl) (i9 : i ≤ 400) (hc : CI σ z) (hm : MI σ z) (hz : ZV z) (hK : ∀ σ, LI σ → Wp RL cL_law 34 (aCall 34 9) Q 1 true xl xs 1222 [some (vr 99), some (vr 0), some (vr 18), some (vi i)] [] σ) : Wp RL cL_law 34 (aCall 34 9) Q 1 true xl xs 1152 [some (vr 99), some (vr 0), some (vr 18), some (vi i)] [] σ := by
  refine wp_aload_n dL_law_1152 rfl ?_
  refine wp_aload_n dL_law_1153 rfl ?_
  refine wp_iload_n dL_law_1154 rfl ?_
  refine wp_iconst dL_law_1155 (by decide) ?_
  refine wp_iaddN dL_law_1156 (by omega) ?_
  refine wp_ialoadX dL_law_1157 rfl (by omega) (by omega) hxl ?_
  refine wp_aload_n dL_law_1158 rfl ?_
  refine wp_iload_n dL_law_1159 rfl ?_
  refine wp_iconst dL_law_1160 (by decide) ?_
  refine wp_iaddN dL_law_1161 (by omega) ?_
  refine wp_ialoadX dL_law_1162 rfl (by omega) (by omega) hxl ?_
  refine wp_V2 dL_law_1163 vlL_152 (by decide) rfl (Nat.le_of_ble_eq_true rfl) ?_
  refine p3_write hc hz (fun σ1 y1 c1 => ?_)
  have m1 := hm.fry y1
  refine wp_aload_n dL_law_1166 rfl ?_
  refine wp_aload_n dL_law_1167 rfl ?_
  refine wp_iload_n dL_law_1168 rfl ?_
  refine wp_iconst dL_law_1169 (by decide) ?_
  refine wp_iaddN dL_law_1170 (by omega) ?_
  refine wp_ialoadX dL_law_1171 rfl (by omega) (by omega) hxl ?_
  refine wp_aload_n dL_law_1172 rfl ?_
  refine wp_iload_n dL_law_1173 rfl ?_
  refine wp_iconst dL_law_1174 (by decide) ?_
  refine wp_iaddN dL_law_1175 (by omega) ?_
  refine wp_ialoadX dL_law_1176 rfl (by omega) (by omega) hxl ?_
  refine wp_V2 dL_law_1177 vlL_155 (by decide) rfl (Nat.le_of_ble_eq_true rfl) ?_
  refine p4_write m1 hz (fun σ2 x2 m2 => ?_)
  have c2 := c1.frx x2
  refine wp_ic_eq 1222 dL_law_1180 (by decide) (fun hh1180 => ?_) (fun hh1180 => ?_)
  · exact hK _ ⟨_, c2, m2, ZV_write hz⟩
  · exact absurd rfl hh1180
set_option maxRecDepth 20000 in
theorem arm_count {σ : aS} {Q : aQ} {z : aZ} {xl : Nat} {xs : Nat → Int} {i : Int} (hxl : xl < 2 ^ 31) (hxi : ∀ j, in32 (xs j)) (i0 : 0 ≤ i) (i6 : i + 6 ≤ xl) (i9 : i ≤ 400) (hc : CI σ z) (hm : MI σ z) (hz : ZV z) (hK : ∀ σ, LI σ → Wp RL cL_law 34 (aCall 34 9) Q 1 true xl xs 1222 [some (vr 99), some (vr 0), some (vr 18), some (vi i)] [] σ) : Wp RL cL_law 34 (aCall 34 9) Q 1 true xl xs 1185 [some (vr 99), some (vr 0), some (vr 18), some (vi i)] [] σ := by
  refine wp_aload_n dL_law_1185 rfl ?_
  refine wp_aload_n dL_law_1186 rfl ?_
  refine wp_iload_n dL_law_1187 rfl ?_
  refine wp_iconst dL_law_1188 (by decide) ?_
  refine wp_iaddN dL_law_1189 (by omega) ?_
  refine wp_ialoadX dL_law_1190 rfl (by omega) (by omega) hxl ?_
  refine wp_V1 dL_law_1191 vlL_156 (by decide) rfl (Nat.le_of_ble_eq_true rfl) ?_
  refine p3_count hc hz ?_
  have c1 := hc
  have m1 := hm
  refine wp_aload_n dL_law_1194 rfl ?_
  refine wp_aload_n dL_law_1195 rfl ?_
  refine wp_iload_n dL_law_1196 rfl ?_
  refine wp_iconst dL_law_1197 (by decide) ?_
  refine wp_iaddN dL_law_1198 (by omega) ?_
  refine wp_ialoadX dL_law_1199 rfl (by omega) (by omega) hxl ?_
  refine wp_V1 dL_law_1200 vlL_159 (by decide) rfl (Nat.le_of_ble_eq_true rfl) ?_
  refine p4_count m1 hz (fun σ2 x2 m2 => ?_)
  have c2 := c1.frx x2.x
  refine wp_ic_eq 1222 dL_law_1203 (by decide) (fun hh1203 => ?_) (fun hh1203 => ?_)
  · exact hK _ ⟨_, c2, m2, hz⟩
  · exact absurd rfl hh1203
set_option maxRecDepth 20000 in
theorem arm_digest {σ : aS} {Q : aQ} {z : aZ} {xl : Nat} {xs : Nat → Int} {i : Int} (hxl : xl < 2 ^ 31) (hxi : ∀ j, in32 (xs j)) (i0 : 0 ≤ i) (i6 : i + 6 ≤ xl) (i9 : i ≤ 400) (hc : CI σ z) (hm : MI σ z) (hz : ZV z) (hK : ∀ σ, LI σ → Wp RL cL_law 34 (aCall 34 9) Q 1 true xl xs 1222 [some (vr 99), some (vr 0), some (vr 18), some (vi i)] [] σ) : Wp RL cL_law 34 (aCall 34 9) Q 1 true xl xs 1208 [some (vr 99), some (vr 0), some (vr 18), some (vi i)] [] σ := by
  refine wp_aload_n dL_law_1208 rfl ?_
  refine wp_V0 dL_law_1209 vlL_160 (by decide) rfl (Nat.le_of_ble_eq_true rfl) ?_
  refine p3_digest hc hz (fun σ1 y1 c1 => ?_)
  have m1 := hm.fry y1
  refine wp_aload_n dL_law_1212 rfl ?_
  refine wp_V0 dL_law_1213 vlL_164 (by decide) rfl (Nat.le_of_ble_eq_true rfl) ?_
  refine p4_digest m1 hz (fun σ2 x2 m2 => ?_)
  have c2 := c1.frx x2.x
  refine wp_lcmp dL_law_1216 ?_
  refine wp_if_eq 1222 dL_law_1217 (by decide) (fun hh1217 => ?_) (fun hh1217 => ?_)
  · exact hK _ ⟨_, c2, m2, hz⟩
  · exact absurd (lcm_z.mpr rfl) hh1217
