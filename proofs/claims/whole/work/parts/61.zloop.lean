set_option maxRecDepth 10000 in
theorem zk_0 {x : zLx} {j : Nat} {u v : List zE} (hx : zLO x) (hj : j + 6 ≤ zxL x) (h : zRel u v) (ke : ∀ u2 v2, zRel u2 v2 → zLV x 1240 j [] u2 v2) : zLV x 192 j [] u v := by
  obtain ⟨hu, hv, ⟨fu, hu0⟩, fv, hv0⟩ := zRel_len h
  obtain ⟨nc, nm, Qc, Qm, hc, hm, h1, h2, h3⟩ := zr_row h (zxx x (j + 1)) (zxx x (j + 2)) (zxx x (j + 3))
  refine zl_aloadC hx dL_law_192 ?_
  refine zl_arg (i := 1) hx hj (by decide) dL_law_193 dL_law_194 dL_law_195 dL_law_196 dL_law_197 ?_
  refine zl_arg (i := 2) hx hj (by decide) dL_law_198 dL_law_199 dL_law_200 dL_law_201 dL_law_202 ?_
  refine zl_arg (i := 3) hx hj (by decide) dL_law_203 dL_law_204 dL_law_205 dL_law_206 dL_law_207 ?_
  refine zl_callC (av := [.int (zxx x (j + 1)), .int (zxx x (j + 2)), .int (zxx x (j + 3))]) (rest := []) hx hu hv h1 hc rfl hu0 sL_13 rfl (fun _ => rfl) (Nat.le_of_ble_eq_true rfl) dL_law_208 rfl (fun z u2 hu2 hq1 => ?_)
  refine zl_aloadM hx dL_law_211 ?_
  refine zl_arg (i := 1) hx hj (by decide) dL_law_212 dL_law_213 dL_law_214 dL_law_215 dL_law_216 ?_
  refine zl_arg (i := 2) hx hj (by decide) dL_law_217 dL_law_218 dL_law_219 dL_law_220 dL_law_221 ?_
  refine zl_arg (i := 3) hx hj (by decide) dL_law_222 dL_law_223 dL_law_224 dL_law_225 dL_law_226 ?_
  refine zl_callM (av := [.int (zxx x (j + 1)), .int (zxx x (j + 2)), .int (zxx x (j + 3))]) (rest := [.int z]) hx hu2 hv h2 hm rfl hv0 sL_17 rfl (fun _ => rfl) (Nat.le_of_ble_eq_true rfl) dL_law_227 rfl (fun z2 v2 hv2 hq2 => ?_)
  exact zl_eq (tgt := 1240) hx dL_law_230 (by decide) (h3 z u2 z2 v2 hq1 hq2).1 (ke u2 v2 (h3 z u2 z2 v2 hq1 hq2).2)
set_option maxRecDepth 10000 in
theorem zk_1 {x : zLx} {j : Nat} {u v : List zE} (hx : zLO x) (hj : j + 6 ≤ zxL x) (h : zRel u v) (ke : ∀ u2 v2, zRel u2 v2 → zLV x 1240 j [] u2 v2) : zLV x 235 j [] u v := by
  obtain ⟨hu, hv, ⟨fu, hu0⟩, fv, hv0⟩ := zRel_len h
  obtain ⟨nc, nm, Qc, Qm, hc, hm, h1, h2, h3⟩ := zr_set h (zxx x (j + 1)) (zxx x (j + 2)) (zxx x (j + 3))
  refine zl_aloadC hx dL_law_235 ?_
  refine zl_arg (i := 1) hx hj (by decide) dL_law_236 dL_law_237 dL_law_238 dL_law_239 dL_law_240 ?_
  refine zl_arg (i := 2) hx hj (by decide) dL_law_241 dL_law_242 dL_law_243 dL_law_244 dL_law_245 ?_
  refine zl_arg (i := 3) hx hj (by decide) dL_law_246 dL_law_247 dL_law_248 dL_law_249 dL_law_250 ?_
  refine zl_callC (av := [.int (zxx x (j + 1)), .int (zxx x (j + 2)), .int (zxx x (j + 3))]) (rest := []) hx hu hv h1 hc rfl hu0 sL_18 rfl (fun _ => rfl) (Nat.le_of_ble_eq_true rfl) dL_law_251 rfl (fun z u2 hu2 hq1 => ?_)
  refine zl_aloadM hx dL_law_254 ?_
  refine zl_arg (i := 1) hx hj (by decide) dL_law_255 dL_law_256 dL_law_257 dL_law_258 dL_law_259 ?_
  refine zl_arg (i := 2) hx hj (by decide) dL_law_260 dL_law_261 dL_law_262 dL_law_263 dL_law_264 ?_
  refine zl_arg (i := 3) hx hj (by decide) dL_law_265 dL_law_266 dL_law_267 dL_law_268 dL_law_269 ?_
  refine zl_callM (av := [.int (zxx x (j + 1)), .int (zxx x (j + 2)), .int (zxx x (j + 3))]) (rest := [.int z]) hx hu2 hv h2 hm rfl hv0 sL_21 rfl (fun _ => rfl) (Nat.le_of_ble_eq_true rfl) dL_law_270 rfl (fun z2 v2 hv2 hq2 => ?_)
  exact zl_eq (tgt := 1240) hx dL_law_273 (by decide) (h3 z u2 z2 v2 hq1 hq2).1 (ke u2 v2 (h3 z u2 z2 v2 hq1 hq2).2)
set_option maxRecDepth 10000 in
theorem zk_2 {x : zLx} {j : Nat} {u v : List zE} (hx : zLO x) (hj : j + 6 ≤ zxL x) (h : zRel u v) (ke : ∀ u2 v2, zRel u2 v2 → zLV x 1240 j [] u2 v2) : zLV x 278 j [] u v := by
  obtain ⟨hu, hv, ⟨fu, hu0⟩, fv, hv0⟩ := zRel_len h
  obtain ⟨nc, nm, Qc, Qm, hc, hm, h1, h2, h3⟩ := zr_copy h (zxx x (j + 1)) (zxx x (j + 2)) (zxx x (j + 3)) (zxx x (j + 4)) (zxx x (j + 5))
  refine zl_aloadC hx dL_law_278 ?_
  refine zl_arg (i := 1) hx hj (by decide) dL_law_279 dL_law_280 dL_law_281 dL_law_282 dL_law_283 ?_
  refine zl_arg (i := 2) hx hj (by decide) dL_law_284 dL_law_285 dL_law_286 dL_law_287 dL_law_288 ?_
  refine zl_arg (i := 3) hx hj (by decide) dL_law_289 dL_law_290 dL_law_291 dL_law_292 dL_law_293 ?_
  refine zl_arg (i := 4) hx hj (by decide) dL_law_294 dL_law_295 dL_law_296 dL_law_297 dL_law_298 ?_
  refine zl_arg (i := 5) hx hj (by decide) dL_law_299 dL_law_300 dL_law_301 dL_law_302 dL_law_303 ?_
  refine zl_callC (av := [.int (zxx x (j + 1)), .int (zxx x (j + 2)), .int (zxx x (j + 3)), .int (zxx x (j + 4)), .int (zxx x (j + 5))]) (rest := []) hx hu hv h1 hc rfl hu0 sL_22 rfl (fun _ => rfl) (Nat.le_of_ble_eq_true rfl) dL_law_304 rfl (fun z u2 hu2 hq1 => ?_)
  refine zl_aloadM hx dL_law_307 ?_
  refine zl_arg (i := 1) hx hj (by decide) dL_law_308 dL_law_309 dL_law_310 dL_law_311 dL_law_312 ?_
  refine zl_arg (i := 2) hx hj (by decide) dL_law_313 dL_law_314 dL_law_315 dL_law_316 dL_law_317 ?_
  refine zl_arg (i := 3) hx hj (by decide) dL_law_318 dL_law_319 dL_law_320 dL_law_321 dL_law_322 ?_
  refine zl_arg (i := 4) hx hj (by decide) dL_law_323 dL_law_324 dL_law_325 dL_law_326 dL_law_327 ?_
  refine zl_arg (i := 5) hx hj (by decide) dL_law_328 dL_law_329 dL_law_330 dL_law_331 dL_law_332 ?_
  refine zl_callM (av := [.int (zxx x (j + 1)), .int (zxx x (j + 2)), .int (zxx x (j + 3)), .int (zxx x (j + 4)), .int (zxx x (j + 5))]) (rest := [.int z]) hx hu2 hv h2 hm rfl hv0 sL_26 rfl (fun _ => rfl) (Nat.le_of_ble_eq_true rfl) dL_law_333 rfl (fun z2 v2 hv2 hq2 => ?_)
  exact zl_eq (tgt := 1240) hx dL_law_336 (by decide) (h3 z u2 z2 v2 hq1 hq2).1 (ke u2 v2 (h3 z u2 z2 v2 hq1 hq2).2)
set_option maxRecDepth 10000 in
theorem zk_3 {x : zLx} {j : Nat} {u v : List zE} (hx : zLO x) (hj : j + 6 ≤ zxL x) (h : zRel u v) (ke : ∀ u2 v2, zRel u2 v2 → zLV x 1240 j [] u2 v2) : zLV x 341 j [] u v := by
  obtain ⟨hu, hv, ⟨fu, hu0⟩, fv, hv0⟩ := zRel_len h
  obtain ⟨nc, nm, Qc, Qm, hc, hm, h1, h2, h3⟩ := zr_drop h (zxx x (j + 1))
  refine zl_aloadC hx dL_law_341 ?_
  refine zl_arg (i := 1) hx hj (by decide) dL_law_342 dL_law_343 dL_law_344 dL_law_345 dL_law_346 ?_
  refine zl_callC (av := [.int (zxx x (j + 1))]) (rest := []) hx hu hv h1 hc rfl hu0 sL_27 rfl (fun _ => rfl) (Nat.le_of_ble_eq_true rfl) dL_law_347 rfl (fun z u2 hu2 hq1 => ?_)
  refine zl_aloadM hx dL_law_350 ?_
  refine zl_arg (i := 1) hx hj (by decide) dL_law_351 dL_law_352 dL_law_353 dL_law_354 dL_law_355 ?_
  refine zl_callM (av := [.int (zxx x (j + 1))]) (rest := [.int z]) hx hu2 hv h2 hm rfl hv0 sL_31 rfl (fun _ => rfl) (Nat.le_of_ble_eq_true rfl) dL_law_356 rfl (fun z2 v2 hv2 hq2 => ?_)
  exact zl_eq (tgt := 1240) hx dL_law_359 (by decide) (h3 z u2 z2 v2 hq1 hq2).1 (ke u2 v2 (h3 z u2 z2 v2 hq1 hq2).2)
set_option maxRecDepth 10000 in
theorem zk_4 {x : zLx} {j : Nat} {u v : List zE} (hx : zLO x) (hj : j + 6 ≤ zxL x) (h : zRel u v) (ke : ∀ u2 v2, zRel u2 v2 → zLV x 1240 j [] u2 v2) : zLV x 364 j [] u v := by
  obtain ⟨hu, hv, ⟨fu, hu0⟩, fv, hv0⟩ := zRel_len h
  obtain ⟨nc, nm, Qc, Qm, hc, hm, h1, h2, h3⟩ := zr_feed h (zxx x (j + 1))
  refine zl_aloadC hx dL_law_364 ?_
  refine zl_arg (i := 1) hx hj (by decide) dL_law_365 dL_law_366 dL_law_367 dL_law_368 dL_law_369 ?_
  refine zl_callC (av := [.int (zxx x (j + 1))]) (rest := []) hx hu hv h1 hc rfl hu0 sL_32 rfl (fun _ => rfl) (Nat.le_of_ble_eq_true rfl) dL_law_370 rfl (fun z u2 hu2 hq1 => ?_)
  refine zl_aloadM hx dL_law_373 ?_
  refine zl_arg (i := 1) hx hj (by decide) dL_law_374 dL_law_375 dL_law_376 dL_law_377 dL_law_378 ?_
  refine zl_callM (av := [.int (zxx x (j + 1))]) (rest := [.int z]) hx hu2 hv h2 hm rfl hv0 sL_35 rfl (fun _ => rfl) (Nat.le_of_ble_eq_true rfl) dL_law_379 rfl (fun z2 v2 hv2 hq2 => ?_)
  exact zl_eq (tgt := 1240) hx dL_law_382 (by decide) (h3 z u2 z2 v2 hq1 hq2).1 (ke u2 v2 (h3 z u2 z2 v2 hq1 hq2).2)
set_option maxRecDepth 10000 in
theorem zk_5 {x : zLx} {j : Nat} {u v : List zE} (hx : zLO x) (hj : j + 6 ≤ zxL x) (h : zRel u v) (ke : ∀ u2 v2, zRel u2 v2 → zLV x 1240 j [] u2 v2) : zLV x 387 j [] u v := by
  obtain ⟨hu, hv, ⟨fu, hu0⟩, fv, hv0⟩ := zRel_len h
  obtain ⟨nc, nm, Qc, Qm, hc, hm, h1, h2, h3⟩ := zr_line h 
  refine zl_aloadC hx dL_law_387 ?_
  refine zl_callC (av := []) (rest := []) hx hu hv h1 hc rfl hu0 sL_36 rfl (fun _ => rfl) (Nat.le_of_ble_eq_true rfl) dL_law_388 rfl (fun z u2 hu2 hq1 => ?_)
  refine zl_aloadM hx dL_law_391 ?_
  refine zl_callM (av := []) (rest := [.int z]) hx hu2 hv h2 hm rfl hv0 sL_40 rfl (fun _ => rfl) (Nat.le_of_ble_eq_true rfl) dL_law_392 rfl (fun z2 v2 hv2 hq2 => ?_)
  exact zl_eq (tgt := 1240) hx dL_law_395 (by decide) (h3 z u2 z2 v2 hq1 hq2).1 (ke u2 v2 (h3 z u2 z2 v2 hq1 hq2).2)
set_option maxRecDepth 10000 in
theorem zk_6 {x : zLx} {j : Nat} {u v : List zE} (hx : zLO x) (hj : j + 6 ≤ zxL x) (h : zRel u v) (ke : ∀ u2 v2, zRel u2 v2 → zLV x 1240 j [] u2 v2) : zLV x 400 j [] u v := by
  obtain ⟨hu, hv, ⟨fu, hu0⟩, fv, hv0⟩ := zRel_len h
  obtain ⟨nc, nm, Qc, Qm, hc, hm, h1, h2, h3⟩ := zr_fault h 
  refine zl_aloadC hx dL_law_400 ?_
  refine zl_callC (av := []) (rest := []) hx hu hv h1 hc rfl hu0 sL_41 rfl (fun _ => rfl) (Nat.le_of_ble_eq_true rfl) dL_law_401 rfl (fun z u2 hu2 hq1 => ?_)
  refine zl_aloadM hx dL_law_404 ?_
  refine zl_callM (av := []) (rest := [.int z]) hx hu2 hv h2 hm rfl hv0 sL_44 rfl (fun _ => rfl) (Nat.le_of_ble_eq_true rfl) dL_law_405 rfl (fun z2 v2 hv2 hq2 => ?_)
  exact zl_eq (tgt := 1240) hx dL_law_408 (by decide) (h3 z u2 z2 v2 hq1 hq2).1 (ke u2 v2 (h3 z u2 z2 v2 hq1 hq2).2)
set_option maxRecDepth 10000 in
theorem zk_7 {x : zLx} {j : Nat} {u v : List zE} (hx : zLO x) (hj : j + 6 ≤ zxL x) (h : zRel u v) (ke : ∀ u2 v2, zRel u2 v2 → zLV x 1240 j [] u2 v2) : zLV x 413 j [] u v := by
  obtain ⟨hu, hv, ⟨fu, hu0⟩, fv, hv0⟩ := zRel_len h
  obtain ⟨nc, nm, Qc, Qm, hc, hm, h1, h2, h3⟩ := zr_minutes h (zxx x (j + 1))
  refine zl_aloadC hx dL_law_413 ?_
  refine zl_arg (i := 1) hx hj (by decide) dL_law_414 dL_law_415 dL_law_416 dL_law_417 dL_law_418 ?_
  refine zl_callC (av := [.int (zxx x (j + 1))]) (rest := []) hx hu hv h1 hc rfl hu0 sL_45 rfl (fun _ => rfl) (Nat.le_of_ble_eq_true rfl) dL_law_419 rfl (fun z u2 hu2 hq1 => ?_)
  refine zl_aloadM hx dL_law_422 ?_
  refine zl_arg (i := 1) hx hj (by decide) dL_law_423 dL_law_424 dL_law_425 dL_law_426 dL_law_427 ?_
  refine zl_callM (av := [.int (zxx x (j + 1))]) (rest := [.int z]) hx hu2 hv h2 hm rfl hv0 sL_48 rfl (fun _ => rfl) (Nat.le_of_ble_eq_true rfl) dL_law_428 rfl (fun z2 v2 hv2 hq2 => ?_)
  exact zl_eq (tgt := 1240) hx dL_law_431 (by decide) (h3 z u2 z2 v2 hq1 hq2).1 (ke u2 v2 (h3 z u2 z2 v2 hq1 hq2).2)
set_option maxRecDepth 10000 in
theorem zk_8 {x : zLx} {j : Nat} {u v : List zE} (hx : zLO x) (hj : j + 6 ≤ zxL x) (h : zRel u v) (ke : ∀ u2 v2, zRel u2 v2 → zLV x 1240 j [] u2 v2) : zLV x 436 j [] u v := by
  obtain ⟨hu, hv, ⟨fu, hu0⟩, fv, hv0⟩ := zRel_len h
  obtain ⟨nc, nm, Qc, Qm, hc, hm, h1, h2, h3⟩ := zr_walk h (zxx x (j + 1)) (zxx x (j + 2))
  refine zl_aloadC hx dL_law_436 ?_
  refine zl_arg (i := 1) hx hj (by decide) dL_law_437 dL_law_438 dL_law_439 dL_law_440 dL_law_441 ?_
  refine zl_arg (i := 2) hx hj (by decide) dL_law_442 dL_law_443 dL_law_444 dL_law_445 dL_law_446 ?_
  refine zl_callC (av := [.int (zxx x (j + 1)), .int (zxx x (j + 2))]) (rest := []) hx hu hv h1 hc rfl hu0 sL_49 rfl (fun _ => rfl) (Nat.le_of_ble_eq_true rfl) dL_law_447 rfl (fun z u2 hu2 hq1 => ?_)
  refine zl_aloadM hx dL_law_450 ?_
  refine zl_arg (i := 1) hx hj (by decide) dL_law_451 dL_law_452 dL_law_453 dL_law_454 dL_law_455 ?_
  refine zl_arg (i := 2) hx hj (by decide) dL_law_456 dL_law_457 dL_law_458 dL_law_459 dL_law_460 ?_
  refine zl_callM (av := [.int (zxx x (j + 1)), .int (zxx x (j + 2))]) (rest := [.int z]) hx hu2 hv h2 hm rfl hv0 sL_53 rfl (fun _ => rfl) (Nat.le_of_ble_eq_true rfl) dL_law_461 rfl (fun z2 v2 hv2 hq2 => ?_)
  exact zl_eq (tgt := 1240) hx dL_law_464 (by decide) (h3 z u2 z2 v2 hq1 hq2).1 (ke u2 v2 (h3 z u2 z2 v2 hq1 hq2).2)
set_option maxRecDepth 10000 in
theorem zk_9 {x : zLx} {j : Nat} {u v : List zE} (hx : zLO x) (hj : j + 6 ≤ zxL x) (h : zRel u v) (ke : ∀ u2 v2, zRel u2 v2 → zLV x 1240 j [] u2 v2) : zLV x 469 j [] u v := by
  obtain ⟨hu, hv, ⟨fu, hu0⟩, fv, hv0⟩ := zRel_len h
  obtain ⟨nc, nm, Qc, Qm, hc, hm, h1, h2, h3⟩ := zr_preach h (zxx x (j + 1)) (zxx x (j + 2))
  refine zl_aloadC hx dL_law_469 ?_
  refine zl_arg (i := 1) hx hj (by decide) dL_law_470 dL_law_471 dL_law_472 dL_law_473 dL_law_474 ?_
  refine zl_arg (i := 2) hx hj (by decide) dL_law_475 dL_law_476 dL_law_477 dL_law_478 dL_law_479 ?_
  refine zl_callC (av := [.int (zxx x (j + 1)), .int (zxx x (j + 2))]) (rest := []) hx hu hv h1 hc rfl hu0 sL_54 rfl (fun _ => rfl) (Nat.le_of_ble_eq_true rfl) dL_law_480 rfl (fun z u2 hu2 hq1 => ?_)
  refine zl_aloadM hx dL_law_483 ?_
  refine zl_arg (i := 1) hx hj (by decide) dL_law_484 dL_law_485 dL_law_486 dL_law_487 dL_law_488 ?_
  refine zl_arg (i := 2) hx hj (by decide) dL_law_489 dL_law_490 dL_law_491 dL_law_492 dL_law_493 ?_
  refine zl_callM (av := [.int (zxx x (j + 1)), .int (zxx x (j + 2))]) (rest := [.int z]) hx hu2 hv h2 hm rfl hv0 sL_57 rfl (fun _ => rfl) (Nat.le_of_ble_eq_true rfl) dL_law_494 rfl (fun z2 v2 hv2 hq2 => ?_)
  exact zl_eq (tgt := 1240) hx dL_law_497 (by decide) (h3 z u2 z2 v2 hq1 hq2).1 (ke u2 v2 (h3 z u2 z2 v2 hq1 hq2).2)
set_option maxRecDepth 10000 in
theorem zk_10 {x : zLx} {j : Nat} {u v : List zE} (hx : zLO x) (hj : j + 6 ≤ zxL x) (h : zRel u v) (ke : ∀ u2 v2, zRel u2 v2 → zLV x 1240 j [] u2 v2) : zLV x 502 j [] u v := by
  obtain ⟨hu, hv, ⟨fu, hu0⟩, fv, hv0⟩ := zRel_len h
  obtain ⟨nc, nm, Qc, Qm, hc, hm, h1, h2, h3⟩ := zr_wish h (zxx x (j + 1)) (zxx x (j + 2))
  refine zl_aloadC hx dL_law_502 ?_
  refine zl_arg (i := 1) hx hj (by decide) dL_law_503 dL_law_504 dL_law_505 dL_law_506 dL_law_507 ?_
  refine zl_arg (i := 2) hx hj (by decide) dL_law_508 dL_law_509 dL_law_510 dL_law_511 dL_law_512 ?_
  refine zl_callC (av := [.int (zxx x (j + 1)), .int (zxx x (j + 2))]) (rest := []) hx hu hv h1 hc rfl hu0 sL_58 rfl (fun _ => rfl) (Nat.le_of_ble_eq_true rfl) dL_law_513 rfl (fun z u2 hu2 hq1 => ?_)
  refine zl_aloadM hx dL_law_516 ?_
  refine zl_arg (i := 1) hx hj (by decide) dL_law_517 dL_law_518 dL_law_519 dL_law_520 dL_law_521 ?_
  refine zl_arg (i := 2) hx hj (by decide) dL_law_522 dL_law_523 dL_law_524 dL_law_525 dL_law_526 ?_
  refine zl_callM (av := [.int (zxx x (j + 1)), .int (zxx x (j + 2))]) (rest := [.int z]) hx hu2 hv h2 hm rfl hv0 sL_61 rfl (fun _ => rfl) (Nat.le_of_ble_eq_true rfl) dL_law_527 rfl (fun z2 v2 hv2 hq2 => ?_)
  exact zl_eq (tgt := 1240) hx dL_law_530 (by decide) (h3 z u2 z2 v2 hq1 hq2).1 (ke u2 v2 (h3 z u2 z2 v2 hq1 hq2).2)
set_option maxRecDepth 10000 in
theorem zk_11 {x : zLx} {j : Nat} {u v : List zE} (hx : zLO x) (hj : j + 6 ≤ zxL x) (h : zRel u v) (ke : ∀ u2 v2, zRel u2 v2 → zLV x 1240 j [] u2 v2) : zLV x 535 j [] u v := by
  obtain ⟨hu, hv, ⟨fu, hu0⟩, fv, hv0⟩ := zRel_len h
  obtain ⟨nc, nm, Qc, Qm, hc, hm, h1, h2, h3⟩ := zr_undo h 
  refine zl_aloadC hx dL_law_535 ?_
  refine zl_callC (av := []) (rest := []) hx hu hv h1 hc rfl hu0 sL_62 rfl (fun _ => rfl) (Nat.le_of_ble_eq_true rfl) dL_law_536 rfl (fun z u2 hu2 hq1 => ?_)
  refine zl_aloadM hx dL_law_539 ?_
  refine zl_callM (av := []) (rest := [.int z]) hx hu2 hv h2 hm rfl hv0 sL_65 rfl (fun _ => rfl) (Nat.le_of_ble_eq_true rfl) dL_law_540 rfl (fun z2 v2 hv2 hq2 => ?_)
  exact zl_eq (tgt := 1240) hx dL_law_543 (by decide) (h3 z u2 z2 v2 hq1 hq2).1 (ke u2 v2 (h3 z u2 z2 v2 hq1 hq2).2)
set_option maxRecDepth 10000 in
theorem zk_12 {x : zLx} {j : Nat} {u v : List zE} (hx : zLO x) (hj : j + 6 ≤ zxL x) (h : zRel u v) (ke : ∀ u2 v2, zRel u2 v2 → zLV x 1240 j [] u2 v2) : zLV x 548 j [] u v := by
  obtain ⟨hu, hv, ⟨fu, hu0⟩, fv, hv0⟩ := zRel_len h
  obtain ⟨nc, nm, Qc, Qm, hc, hm, h1, h2, h3⟩ := zr_person h (zxx x (j + 1)) (zxx x (j + 2))
  refine zl_aloadC hx dL_law_548 ?_
  refine zl_arg (i := 1) hx hj (by decide) dL_law_549 dL_law_550 dL_law_551 dL_law_552 dL_law_553 ?_
  refine zl_arg (i := 2) hx hj (by decide) dL_law_554 dL_law_555 dL_law_556 dL_law_557 dL_law_558 ?_
  refine zl_callC (av := [.int (zxx x (j + 1)), .int (zxx x (j + 2))]) (rest := []) hx hu hv h1 hc rfl hu0 sL_66 rfl (fun _ => rfl) (Nat.le_of_ble_eq_true rfl) dL_law_559 rfl (fun z u2 hu2 hq1 => ?_)
  refine zl_aloadM hx dL_law_562 ?_
  refine zl_arg (i := 1) hx hj (by decide) dL_law_563 dL_law_564 dL_law_565 dL_law_566 dL_law_567 ?_
  refine zl_arg (i := 2) hx hj (by decide) dL_law_568 dL_law_569 dL_law_570 dL_law_571 dL_law_572 ?_
  refine zl_callM (av := [.int (zxx x (j + 1)), .int (zxx x (j + 2))]) (rest := [.int z]) hx hu2 hv h2 hm rfl hv0 sL_69 rfl (fun _ => rfl) (Nat.le_of_ble_eq_true rfl) dL_law_573 rfl (fun z2 v2 hv2 hq2 => ?_)
  exact zl_eq (tgt := 1240) hx dL_law_576 (by decide) (h3 z u2 z2 v2 hq1 hq2).1 (ke u2 v2 (h3 z u2 z2 v2 hq1 hq2).2)
set_option maxRecDepth 10000 in
theorem zk_13 {x : zLx} {j : Nat} {u v : List zE} (hx : zLO x) (hj : j + 6 ≤ zxL x) (h : zRel u v) (ke : ∀ u2 v2, zRel u2 v2 → zLV x 1240 j [] u2 v2) : zLV x 581 j [] u v := by
  obtain ⟨hu, hv, ⟨fu, hu0⟩, fv, hv0⟩ := zRel_len h
  obtain ⟨nc, nm, Qc, Qm, hc, hm, h1, h2, h3⟩ := zr_stop h (zxx x (j + 1)) (zxx x (j + 2))
  refine zl_aloadC hx dL_law_581 ?_
  refine zl_arg (i := 1) hx hj (by decide) dL_law_582 dL_law_583 dL_law_584 dL_law_585 dL_law_586 ?_
  refine zl_arg (i := 2) hx hj (by decide) dL_law_587 dL_law_588 dL_law_589 dL_law_590 dL_law_591 ?_
  refine zl_callC (av := [.int (zxx x (j + 1)), .int (zxx x (j + 2))]) (rest := []) hx hu hv h1 hc rfl hu0 sL_70 rfl (fun _ => rfl) (Nat.le_of_ble_eq_true rfl) dL_law_592 rfl (fun z u2 hu2 hq1 => ?_)
  refine zl_aloadM hx dL_law_595 ?_
  refine zl_arg (i := 1) hx hj (by decide) dL_law_596 dL_law_597 dL_law_598 dL_law_599 dL_law_600 ?_
  refine zl_arg (i := 2) hx hj (by decide) dL_law_601 dL_law_602 dL_law_603 dL_law_604 dL_law_605 ?_
  refine zl_callM (av := [.int (zxx x (j + 1)), .int (zxx x (j + 2))]) (rest := [.int z]) hx hu2 hv h2 hm rfl hv0 sL_73 rfl (fun _ => rfl) (Nat.le_of_ble_eq_true rfl) dL_law_606 rfl (fun z2 v2 hv2 hq2 => ?_)
  exact zl_eq (tgt := 1240) hx dL_law_609 (by decide) (h3 z u2 z2 v2 hq1 hq2).1 (ke u2 v2 (h3 z u2 z2 v2 hq1 hq2).2)
set_option maxRecDepth 10000 in
theorem zk_14 {x : zLx} {j : Nat} {u v : List zE} (hx : zLO x) (hj : j + 6 ≤ zxL x) (h : zRel u v) (ke : ∀ u2 v2, zRel u2 v2 → zLV x 1240 j [] u2 v2) : zLV x 614 j [] u v := by
  obtain ⟨hu, hv, ⟨fu, hu0⟩, fv, hv0⟩ := zRel_len h
  obtain ⟨nc, nm, Qc, Qm, hc, hm, h1, h2, h3⟩ := zr_where h (zxx x (j + 1)) (zxx x (j + 2))
  refine zl_aloadC hx dL_law_614 ?_
  refine zl_arg (i := 1) hx hj (by decide) dL_law_615 dL_law_616 dL_law_617 dL_law_618 dL_law_619 ?_
  refine zl_arg (i := 2) hx hj (by decide) dL_law_620 dL_law_621 dL_law_622 dL_law_623 dL_law_624 ?_
  refine zl_callC (av := [.int (zxx x (j + 1)), .int (zxx x (j + 2))]) (rest := []) hx hu hv h1 hc rfl hu0 sL_74 rfl (fun _ => rfl) (Nat.le_of_ble_eq_true rfl) dL_law_625 rfl (fun z u2 hu2 hq1 => ?_)
  refine zl_aloadM hx dL_law_628 ?_
  refine zl_arg (i := 1) hx hj (by decide) dL_law_629 dL_law_630 dL_law_631 dL_law_632 dL_law_633 ?_
  refine zl_arg (i := 2) hx hj (by decide) dL_law_634 dL_law_635 dL_law_636 dL_law_637 dL_law_638 ?_
  refine zl_callM (av := [.int (zxx x (j + 1)), .int (zxx x (j + 2))]) (rest := [.int z]) hx hu2 hv h2 hm rfl hv0 sL_77 rfl (fun _ => rfl) (Nat.le_of_ble_eq_true rfl) dL_law_639 rfl (fun z2 v2 hv2 hq2 => ?_)
  exact zl_eq (tgt := 1240) hx dL_law_642 (by decide) (h3 z u2 z2 v2 hq1 hq2).1 (ke u2 v2 (h3 z u2 z2 v2 hq1 hq2).2)
set_option maxRecDepth 10000 in
theorem zk_15 {x : zLx} {j : Nat} {u v : List zE} (hx : zLO x) (hj : j + 6 ≤ zxL x) (h : zRel u v) (ke : ∀ u2 v2, zRel u2 v2 → zLV x 1240 j [] u2 v2) : zLV x 647 j [] u v := by
  obtain ⟨hu, hv, ⟨fu, hu0⟩, fv, hv0⟩ := zRel_len h
  obtain ⟨nc, nm, Qc, Qm, hc, hm, h1, h2, h3⟩ := zr_tram h (zxx x (j + 1))
  refine zl_aloadC hx dL_law_647 ?_
  refine zl_arg (i := 1) hx hj (by decide) dL_law_648 dL_law_649 dL_law_650 dL_law_651 dL_law_652 ?_
  refine zl_callC (av := [.int (zxx x (j + 1))]) (rest := []) hx hu hv h1 hc rfl hu0 sL_78 rfl (fun _ => rfl) (Nat.le_of_ble_eq_true rfl) dL_law_653 rfl (fun z u2 hu2 hq1 => ?_)
  refine zl_aloadM hx dL_law_656 ?_
  refine zl_arg (i := 1) hx hj (by decide) dL_law_657 dL_law_658 dL_law_659 dL_law_660 dL_law_661 ?_
  refine zl_callM (av := [.int (zxx x (j + 1))]) (rest := [.int z]) hx hu2 hv h2 hm rfl hv0 sL_81 rfl (fun _ => rfl) (Nat.le_of_ble_eq_true rfl) dL_law_662 rfl (fun z2 v2 hv2 hq2 => ?_)
  exact zl_eq (tgt := 1240) hx dL_law_665 (by decide) (h3 z u2 z2 v2 hq1 hq2).1 (ke u2 v2 (h3 z u2 z2 v2 hq1 hq2).2)
set_option maxRecDepth 10000 in
theorem zk_16 {x : zLx} {j : Nat} {u v : List zE} (hx : zLO x) (hj : j + 6 ≤ zxL x) (h : zRel u v) (ke : ∀ u2 v2, zRel u2 v2 → zLV x 1240 j [] u2 v2) : zLV x 670 j [] u v := by
  obtain ⟨hu, hv, ⟨fu, hu0⟩, fv, hv0⟩ := zRel_len h
  obtain ⟨nc, nm, Qc, Qm, hc, hm, h1, h2, h3⟩ := zr_there h (zxx x (j + 1))
  refine zl_aloadC hx dL_law_670 ?_
  refine zl_arg (i := 1) hx hj (by decide) dL_law_671 dL_law_672 dL_law_673 dL_law_674 dL_law_675 ?_
  refine zl_callC (av := [.int (zxx x (j + 1))]) (rest := []) hx hu hv h1 hc rfl hu0 sL_82 rfl (fun _ => rfl) (Nat.le_of_ble_eq_true rfl) dL_law_676 rfl (fun z u2 hu2 hq1 => ?_)
  refine zl_aloadM hx dL_law_679 ?_
  refine zl_arg (i := 1) hx hj (by decide) dL_law_680 dL_law_681 dL_law_682 dL_law_683 dL_law_684 ?_
  refine zl_callM (av := [.int (zxx x (j + 1))]) (rest := [.int z]) hx hu2 hv h2 hm rfl hv0 sL_85 rfl (fun _ => rfl) (Nat.le_of_ble_eq_true rfl) dL_law_685 rfl (fun z2 v2 hv2 hq2 => ?_)
  exact zl_eq (tgt := 1240) hx dL_law_688 (by decide) (h3 z u2 z2 v2 hq1 hq2).1 (ke u2 v2 (h3 z u2 z2 v2 hq1 hq2).2)
set_option maxRecDepth 10000 in
theorem zk_17 {x : zLx} {j : Nat} {u v : List zE} (hx : zLO x) (hj : j + 6 ≤ zxL x) (h : zRel u v) (ke : ∀ u2 v2, zRel u2 v2 → zLV x 1240 j [] u2 v2) : zLV x 693 j [] u v := by
  obtain ⟨hu, hv, ⟨fu, hu0⟩, fv, hv0⟩ := zRel_len h
  obtain ⟨nc, nm, Qc, Qm, hc, hm, h1, h2, h3⟩ := zr_when h (zxx x (j + 1))
  refine zl_aloadC hx dL_law_693 ?_
  refine zl_arg (i := 1) hx hj (by decide) dL_law_694 dL_law_695 dL_law_696 dL_law_697 dL_law_698 ?_
  refine zl_callC (av := [.int (zxx x (j + 1))]) (rest := []) hx hu hv h1 hc rfl hu0 sL_86 rfl (fun _ => rfl) (Nat.le_of_ble_eq_true rfl) dL_law_699 rfl (fun z u2 hu2 hq1 => ?_)
  refine zl_aloadM hx dL_law_702 ?_
  refine zl_arg (i := 1) hx hj (by decide) dL_law_703 dL_law_704 dL_law_705 dL_law_706 dL_law_707 ?_
  refine zl_callM (av := [.int (zxx x (j + 1))]) (rest := [.int z]) hx hu2 hv h2 hm rfl hv0 sL_89 rfl (fun _ => rfl) (Nat.le_of_ble_eq_true rfl) dL_law_708 rfl (fun z2 v2 hv2 hq2 => ?_)
  exact zl_eq (tgt := 1240) hx dL_law_711 (by decide) (h3 z u2 z2 v2 hq1 hq2).1 (ke u2 v2 (h3 z u2 z2 v2 hq1 hq2).2)
set_option maxRecDepth 10000 in
theorem zk_18 {x : zLx} {j : Nat} {u v : List zE} (hx : zLO x) (hj : j + 6 ≤ zxL x) (h : zRel u v) (ke : ∀ u2 v2, zRel u2 v2 → zLV x 1240 j [] u2 v2) : zLV x 716 j [] u v := by
  obtain ⟨hu, hv, ⟨fu, hu0⟩, fv, hv0⟩ := zRel_len h
  obtain ⟨nc, nm, Qc, Qm, hc, hm, h1, h2, h3⟩ := zr_all h 
  refine zl_aloadC hx dL_law_716 ?_
  refine zl_callC (av := []) (rest := []) hx hu hv h1 hc rfl hu0 sL_90 rfl (fun _ => rfl) (Nat.le_of_ble_eq_true rfl) dL_law_717 rfl (fun z u2 hu2 hq1 => ?_)
  refine zl_aloadM hx dL_law_720 ?_
  refine zl_callM (av := []) (rest := [.int z]) hx hu2 hv h2 hm rfl hv0 sL_93 rfl (fun _ => rfl) (Nat.le_of_ble_eq_true rfl) dL_law_721 rfl (fun z2 v2 hv2 hq2 => ?_)
  exact zl_eq (tgt := 1240) hx dL_law_724 (by decide) (h3 z u2 z2 v2 hq1 hq2).1 (ke u2 v2 (h3 z u2 z2 v2 hq1 hq2).2)
set_option maxRecDepth 10000 in
theorem zk_19 {x : zLx} {j : Nat} {u v : List zE} (hx : zLO x) (hj : j + 6 ≤ zxL x) (h : zRel u v) (ke : ∀ u2 v2, zRel u2 v2 → zLV x 1240 j [] u2 v2) : zLV x 729 j [] u v := by
  obtain ⟨hu, hv, ⟨fu, hu0⟩, fv, hv0⟩ := zRel_len h
  obtain ⟨nc, nm, Qc, Qm, hc, hm, h1, h2, h3⟩ := zr_never h 
  refine zl_aloadC hx dL_law_729 ?_
  refine zl_callC (av := []) (rest := []) hx hu hv h1 hc rfl hu0 sL_94 rfl (fun _ => rfl) (Nat.le_of_ble_eq_true rfl) dL_law_730 rfl (fun z u2 hu2 hq1 => ?_)
  refine zl_aloadM hx dL_law_733 ?_
  refine zl_callM (av := []) (rest := [.int z]) hx hu2 hv h2 hm rfl hv0 sL_97 rfl (fun _ => rfl) (Nat.le_of_ble_eq_true rfl) dL_law_734 rfl (fun z2 v2 hv2 hq2 => ?_)
  exact zl_eq (tgt := 1240) hx dL_law_737 (by decide) (h3 z u2 z2 v2 hq1 hq2).1 (ke u2 v2 (h3 z u2 z2 v2 hq1 hq2).2)
set_option maxRecDepth 10000 in
theorem zk_20 {x : zLx} {j : Nat} {u v : List zE} (hx : zLO x) (hj : j + 6 ≤ zxL x) (h : zRel u v) (ke : ∀ u2 v2, zRel u2 v2 → zLV x 1240 j [] u2 v2) : zLV x 742 j [] u v := by
  obtain ⟨hu, hv, ⟨fu, hu0⟩, fv, hv0⟩ := zRel_len h
  obtain ⟨nc, nm, Qc, Qm, hc, hm, h1, h2, h3⟩ := zr_holding h 
  refine zl_aloadC hx dL_law_742 ?_
  refine zl_callC (av := []) (rest := []) hx hu hv h1 hc rfl hu0 sL_98 rfl (fun _ => rfl) (Nat.le_of_ble_eq_true rfl) dL_law_743 rfl (fun z u2 hu2 hq1 => ?_)
  refine zl_aloadM hx dL_law_746 ?_
  refine zl_callM (av := []) (rest := [.int z]) hx hu2 hv h2 hm rfl hv0 sL_101 rfl (fun _ => rfl) (Nat.le_of_ble_eq_true rfl) dL_law_747 rfl (fun z2 v2 hv2 hq2 => ?_)
  exact zl_eq (tgt := 1240) hx dL_law_750 (by decide) (h3 z u2 z2 v2 hq1 hq2).1 (ke u2 v2 (h3 z u2 z2 v2 hq1 hq2).2)
set_option maxRecDepth 10000 in
theorem zk_21 {x : zLx} {j : Nat} {u v : List zE} (hx : zLO x) (hj : j + 6 ≤ zxL x) (h : zRel u v) (ke : ∀ u2 v2, zRel u2 v2 → zLV x 1240 j [] u2 v2) : zLV x 755 j [] u v := by
  obtain ⟨hu, hv, ⟨fu, hu0⟩, fv, hv0⟩ := zRel_len h
  obtain ⟨nc, nm, Qc, Qm, hc, hm, h1, h2, h3⟩ := zr_call h (zxx x (j + 1)) (zxx x (j + 2))
  refine zl_aloadC hx dL_law_755 ?_
  refine zl_arg (i := 1) hx hj (by decide) dL_law_756 dL_law_757 dL_law_758 dL_law_759 dL_law_760 ?_
  refine zl_arg (i := 2) hx hj (by decide) dL_law_761 dL_law_762 dL_law_763 dL_law_764 dL_law_765 ?_
  refine zl_callC (av := [.int (zxx x (j + 1)), .int (zxx x (j + 2))]) (rest := []) hx hu hv h1 hc rfl hu0 sL_102 rfl (fun _ => rfl) (Nat.le_of_ble_eq_true rfl) dL_law_766 rfl (fun z u2 hu2 hq1 => ?_)
  refine zl_aloadM hx dL_law_769 ?_
  refine zl_arg (i := 1) hx hj (by decide) dL_law_770 dL_law_771 dL_law_772 dL_law_773 dL_law_774 ?_
  refine zl_arg (i := 2) hx hj (by decide) dL_law_775 dL_law_776 dL_law_777 dL_law_778 dL_law_779 ?_
  refine zl_callM (av := [.int (zxx x (j + 1)), .int (zxx x (j + 2))]) (rest := [.int z]) hx hu2 hv h2 hm rfl hv0 sL_105 rfl (fun _ => rfl) (Nat.le_of_ble_eq_true rfl) dL_law_780 rfl (fun z2 v2 hv2 hq2 => ?_)
  exact zl_eq (tgt := 1240) hx dL_law_783 (by decide) (h3 z u2 z2 v2 hq1 hq2).1 (ke u2 v2 (h3 z u2 z2 v2 hq1 hq2).2)
set_option maxRecDepth 10000 in
theorem zk_22 {x : zLx} {j : Nat} {u v : List zE} (hx : zLO x) (hj : j + 6 ≤ zxL x) (h : zRel u v) (ke : ∀ u2 v2, zRel u2 v2 → zLV x 1240 j [] u2 v2) : zLV x 788 j [] u v := by
  obtain ⟨hu, hv, ⟨fu, hu0⟩, fv, hv0⟩ := zRel_len h
  obtain ⟨nc, nm, Qc, Qm, hc, hm, h1, h2, h3⟩ := zr_go h (zxx x (j + 1)) (zxx x (j + 2))
  refine zl_aloadC hx dL_law_788 ?_
  refine zl_arg (i := 1) hx hj (by decide) dL_law_789 dL_law_790 dL_law_791 dL_law_792 dL_law_793 ?_
  refine zl_arg (i := 2) hx hj (by decide) dL_law_794 dL_law_795 dL_law_796 dL_law_797 dL_law_798 ?_
  refine zl_callC (av := [.int (zxx x (j + 1)), .int (zxx x (j + 2))]) (rest := []) hx hu hv h1 hc rfl hu0 sL_106 rfl (fun _ => rfl) (Nat.le_of_ble_eq_true rfl) dL_law_799 rfl (fun z u2 hu2 hq1 => ?_)
  refine zl_aloadM hx dL_law_802 ?_
  refine zl_arg (i := 1) hx hj (by decide) dL_law_803 dL_law_804 dL_law_805 dL_law_806 dL_law_807 ?_
  refine zl_arg (i := 2) hx hj (by decide) dL_law_808 dL_law_809 dL_law_810 dL_law_811 dL_law_812 ?_
  refine zl_callM (av := [.int (zxx x (j + 1)), .int (zxx x (j + 2))]) (rest := [.int z]) hx hu2 hv h2 hm rfl hv0 sL_109 rfl (fun _ => rfl) (Nat.le_of_ble_eq_true rfl) dL_law_813 rfl (fun z2 v2 hv2 hq2 => ?_)
  exact zl_eq (tgt := 1240) hx dL_law_816 (by decide) (h3 z u2 z2 v2 hq1 hq2).1 (ke u2 v2 (h3 z u2 z2 v2 hq1 hq2).2)
set_option maxRecDepth 10000 in
theorem zk_23 {x : zLx} {j : Nat} {u v : List zE} (hx : zLO x) (hj : j + 6 ≤ zxL x) (h : zRel u v) (ke : ∀ u2 v2, zRel u2 v2 → zLV x 1240 j [] u2 v2) : zLV x 821 j [] u v := by
  obtain ⟨hu, hv, ⟨fu, hu0⟩, fv, hv0⟩ := zRel_len h
  obtain ⟨nc, nm, Qc, Qm, hc, hm, h1, h2, h3⟩ := zr_walkers h (zxx x (j + 1)) (zxx x (j + 2))
  refine zl_aloadC hx dL_law_821 ?_
  refine zl_arg (i := 1) hx hj (by decide) dL_law_822 dL_law_823 dL_law_824 dL_law_825 dL_law_826 ?_
  refine zl_arg (i := 2) hx hj (by decide) dL_law_827 dL_law_828 dL_law_829 dL_law_830 dL_law_831 ?_
  refine zl_callC (av := [.int (zxx x (j + 1)), .int (zxx x (j + 2))]) (rest := []) hx hu hv h1 hc rfl hu0 sL_110 rfl (fun _ => rfl) (Nat.le_of_ble_eq_true rfl) dL_law_832 rfl (fun z u2 hu2 hq1 => ?_)
  refine zl_aloadM hx dL_law_835 ?_
  refine zl_arg (i := 1) hx hj (by decide) dL_law_836 dL_law_837 dL_law_838 dL_law_839 dL_law_840 ?_
  refine zl_arg (i := 2) hx hj (by decide) dL_law_841 dL_law_842 dL_law_843 dL_law_844 dL_law_845 ?_
  refine zl_callM (av := [.int (zxx x (j + 1)), .int (zxx x (j + 2))]) (rest := [.int z]) hx hu2 hv h2 hm rfl hv0 sL_113 rfl (fun _ => rfl) (Nat.le_of_ble_eq_true rfl) dL_law_846 rfl (fun z2 v2 hv2 hq2 => ?_)
  exact zl_eq (tgt := 1240) hx dL_law_849 (by decide) (h3 z u2 z2 v2 hq1 hq2).1 (ke u2 v2 (h3 z u2 z2 v2 hq1 hq2).2)
set_option maxRecDepth 10000 in
theorem zk_24 {x : zLx} {j : Nat} {u v : List zE} (hx : zLO x) (hj : j + 6 ≤ zxL x) (h : zRel u v) (ke : ∀ u2 v2, zRel u2 v2 → zLV x 1240 j [] u2 v2) : zLV x 854 j [] u v := by
  obtain ⟨hu, hv, ⟨fu, hu0⟩, fv, hv0⟩ := zRel_len h
  obtain ⟨nc, nm, Qc, Qm, hc, hm, h1, h2, h3⟩ := zr_fits h (zxx x (j + 1)) (zxx x (j + 2)) (zxx x (j + 3)) (zxx x (j + 4)) (zxx x (j + 5))
  refine zl_aloadC hx dL_law_854 ?_
  refine zl_arg (i := 1) hx hj (by decide) dL_law_855 dL_law_856 dL_law_857 dL_law_858 dL_law_859 ?_
  refine zl_arg (i := 2) hx hj (by decide) dL_law_860 dL_law_861 dL_law_862 dL_law_863 dL_law_864 ?_
  refine zl_arg (i := 3) hx hj (by decide) dL_law_865 dL_law_866 dL_law_867 dL_law_868 dL_law_869 ?_
  refine zl_arg (i := 4) hx hj (by decide) dL_law_870 dL_law_871 dL_law_872 dL_law_873 dL_law_874 ?_
  refine zl_arg (i := 5) hx hj (by decide) dL_law_875 dL_law_876 dL_law_877 dL_law_878 dL_law_879 ?_
  refine zl_callC (av := [.int (zxx x (j + 1)), .int (zxx x (j + 2)), .int (zxx x (j + 3)), .int (zxx x (j + 4)), .int (zxx x (j + 5))]) (rest := []) hx hu hv h1 hc rfl hu0 sL_114 rfl (fun _ => rfl) (Nat.le_of_ble_eq_true rfl) dL_law_880 rfl (fun z u2 hu2 hq1 => ?_)
  refine zl_aloadM hx dL_law_883 ?_
  refine zl_arg (i := 1) hx hj (by decide) dL_law_884 dL_law_885 dL_law_886 dL_law_887 dL_law_888 ?_
  refine zl_arg (i := 2) hx hj (by decide) dL_law_889 dL_law_890 dL_law_891 dL_law_892 dL_law_893 ?_
  refine zl_arg (i := 3) hx hj (by decide) dL_law_894 dL_law_895 dL_law_896 dL_law_897 dL_law_898 ?_
  refine zl_arg (i := 4) hx hj (by decide) dL_law_899 dL_law_900 dL_law_901 dL_law_902 dL_law_903 ?_
  refine zl_arg (i := 5) hx hj (by decide) dL_law_904 dL_law_905 dL_law_906 dL_law_907 dL_law_908 ?_
  refine zl_callM (av := [.int (zxx x (j + 1)), .int (zxx x (j + 2)), .int (zxx x (j + 3)), .int (zxx x (j + 4)), .int (zxx x (j + 5))]) (rest := [.int z]) hx hu2 hv h2 hm rfl hv0 sL_117 rfl (fun _ => rfl) (Nat.le_of_ble_eq_true rfl) dL_law_909 rfl (fun z2 v2 hv2 hq2 => ?_)
  exact zl_eq (tgt := 1240) hx dL_law_912 (by decide) (h3 z u2 z2 v2 hq1 hq2).1 (ke u2 v2 (h3 z u2 z2 v2 hq1 hq2).2)
set_option maxRecDepth 10000 in
theorem zk_25 {x : zLx} {j : Nat} {u v : List zE} (hx : zLO x) (hj : j + 6 ≤ zxL x) (h : zRel u v) (ke : ∀ u2 v2, zRel u2 v2 → zLV x 1240 j [] u2 v2) : zLV x 917 j [] u v := by
  obtain ⟨hu, hv, ⟨fu, hu0⟩, fv, hv0⟩ := zRel_len h
  obtain ⟨nc, nm, Qc, Qm, hc, hm, h1, h2, h3⟩ := zr_bounds h (zxx x (j + 1)) (zxx x (j + 2)) (zxx x (j + 3))
  refine zl_aloadC hx dL_law_917 ?_
  refine zl_arg (i := 1) hx hj (by decide) dL_law_918 dL_law_919 dL_law_920 dL_law_921 dL_law_922 ?_
  refine zl_arg (i := 2) hx hj (by decide) dL_law_923 dL_law_924 dL_law_925 dL_law_926 dL_law_927 ?_
  refine zl_arg (i := 3) hx hj (by decide) dL_law_928 dL_law_929 dL_law_930 dL_law_931 dL_law_932 ?_
  refine zl_callC (av := [.int (zxx x (j + 1)), .int (zxx x (j + 2)), .int (zxx x (j + 3))]) (rest := []) hx hu hv h1 hc rfl hu0 sL_118 rfl (fun _ => rfl) (Nat.le_of_ble_eq_true rfl) dL_law_933 rfl (fun z u2 hu2 hq1 => ?_)
  refine zl_aloadM hx dL_law_936 ?_
  refine zl_arg (i := 1) hx hj (by decide) dL_law_937 dL_law_938 dL_law_939 dL_law_940 dL_law_941 ?_
  refine zl_arg (i := 2) hx hj (by decide) dL_law_942 dL_law_943 dL_law_944 dL_law_945 dL_law_946 ?_
  refine zl_arg (i := 3) hx hj (by decide) dL_law_947 dL_law_948 dL_law_949 dL_law_950 dL_law_951 ?_
  refine zl_callM (av := [.int (zxx x (j + 1)), .int (zxx x (j + 2)), .int (zxx x (j + 3))]) (rest := [.int z]) hx hu2 hv h2 hm rfl hv0 sL_121 rfl (fun _ => rfl) (Nat.le_of_ble_eq_true rfl) dL_law_952 rfl (fun z2 v2 hv2 hq2 => ?_)
  exact zl_eq (tgt := 1240) hx dL_law_955 (by decide) (h3 z u2 z2 v2 hq1 hq2).1 (ke u2 v2 (h3 z u2 z2 v2 hq1 hq2).2)
set_option maxRecDepth 10000 in
theorem zk_26 {x : zLx} {j : Nat} {u v : List zE} (hx : zLO x) (hj : j + 6 ≤ zxL x) (h : zRel u v) (ke : ∀ u2 v2, zRel u2 v2 → zLV x 1240 j [] u2 v2) : zLV x 960 j [] u v := by
  obtain ⟨hu, hv, ⟨fu, hu0⟩, fv, hv0⟩ := zRel_len h
  obtain ⟨nc, nm, Qc, Qm, hc, hm, h1, h2, h3⟩ := zr_rain h (zxx x (j + 1)) (zxx x (j + 2)) (zxx x (j + 3))
  refine zl_aloadC hx dL_law_960 ?_
  refine zl_arg (i := 1) hx hj (by decide) dL_law_961 dL_law_962 dL_law_963 dL_law_964 dL_law_965 ?_
  refine zl_arg (i := 2) hx hj (by decide) dL_law_966 dL_law_967 dL_law_968 dL_law_969 dL_law_970 ?_
  refine zl_arg (i := 3) hx hj (by decide) dL_law_971 dL_law_972 dL_law_973 dL_law_974 dL_law_975 ?_
  refine zl_callC (av := [.int (zxx x (j + 1)), .int (zxx x (j + 2)), .int (zxx x (j + 3))]) (rest := []) hx hu hv h1 hc rfl hu0 sL_122 rfl (fun _ => rfl) (Nat.le_of_ble_eq_true rfl) dL_law_976 rfl (fun z u2 hu2 hq1 => ?_)
  refine zl_aloadM hx dL_law_979 ?_
  refine zl_arg (i := 1) hx hj (by decide) dL_law_980 dL_law_981 dL_law_982 dL_law_983 dL_law_984 ?_
  refine zl_arg (i := 2) hx hj (by decide) dL_law_985 dL_law_986 dL_law_987 dL_law_988 dL_law_989 ?_
  refine zl_arg (i := 3) hx hj (by decide) dL_law_990 dL_law_991 dL_law_992 dL_law_993 dL_law_994 ?_
  refine zl_callM (av := [.int (zxx x (j + 1)), .int (zxx x (j + 2)), .int (zxx x (j + 3))]) (rest := [.int z]) hx hu2 hv h2 hm rfl hv0 sL_125 rfl (fun _ => rfl) (Nat.le_of_ble_eq_true rfl) dL_law_995 rfl (fun z2 v2 hv2 hq2 => ?_)
  exact zl_eq (tgt := 1240) hx dL_law_998 (by decide) (h3 z u2 z2 v2 hq1 hq2).1 (ke u2 v2 (h3 z u2 z2 v2 hq1 hq2).2)
set_option maxRecDepth 10000 in
theorem zk_27 {x : zLx} {j : Nat} {u v : List zE} (hx : zLO x) (hj : j + 6 ≤ zxL x) (h : zRel u v) (ke : ∀ u2 v2, zRel u2 v2 → zLV x 1240 j [] u2 v2) : zLV x 1003 j [] u v := by
  obtain ⟨hu, hv, ⟨fu, hu0⟩, fv, hv0⟩ := zRel_len h
  obtain ⟨nc, nm, Qc, Qm, hc, hm, h1, h2, h3⟩ := zr_drawn h (zxx x (j + 1)) (zxx x (j + 2)) (zxx x (j + 3))
  refine zl_aloadC hx dL_law_1003 ?_
  refine zl_arg (i := 1) hx hj (by decide) dL_law_1004 dL_law_1005 dL_law_1006 dL_law_1007 dL_law_1008 ?_
  refine zl_arg (i := 2) hx hj (by decide) dL_law_1009 dL_law_1010 dL_law_1011 dL_law_1012 dL_law_1013 ?_
  refine zl_arg (i := 3) hx hj (by decide) dL_law_1014 dL_law_1015 dL_law_1016 dL_law_1017 dL_law_1018 ?_
  refine zl_callC (av := [.int (zxx x (j + 1)), .int (zxx x (j + 2)), .int (zxx x (j + 3))]) (rest := []) hx hu hv h1 hc rfl hu0 sL_126 rfl (fun _ => rfl) (Nat.le_of_ble_eq_true rfl) dL_law_1019 rfl (fun z u2 hu2 hq1 => ?_)
  refine zl_aloadM hx dL_law_1022 ?_
  refine zl_arg (i := 1) hx hj (by decide) dL_law_1023 dL_law_1024 dL_law_1025 dL_law_1026 dL_law_1027 ?_
  refine zl_arg (i := 2) hx hj (by decide) dL_law_1028 dL_law_1029 dL_law_1030 dL_law_1031 dL_law_1032 ?_
  refine zl_arg (i := 3) hx hj (by decide) dL_law_1033 dL_law_1034 dL_law_1035 dL_law_1036 dL_law_1037 ?_
  refine zl_callM (av := [.int (zxx x (j + 1)), .int (zxx x (j + 2)), .int (zxx x (j + 3))]) (rest := [.int z]) hx hu2 hv h2 hm rfl hv0 sL_129 rfl (fun _ => rfl) (Nat.le_of_ble_eq_true rfl) dL_law_1038 rfl (fun z2 v2 hv2 hq2 => ?_)
  exact zl_eq (tgt := 1240) hx dL_law_1041 (by decide) (h3 z u2 z2 v2 hq1 hq2).1 (ke u2 v2 (h3 z u2 z2 v2 hq1 hq2).2)
set_option maxRecDepth 10000 in
theorem zk_28 {x : zLx} {j : Nat} {u v : List zE} (hx : zLO x) (hj : j + 6 ≤ zxL x) (h : zRel u v) (ke : ∀ u2 v2, zRel u2 v2 → zLV x 1240 j [] u2 v2) : zLV x 1046 j [] u v := by
  obtain ⟨hu, hv, ⟨fu, hu0⟩, fv, hv0⟩ := zRel_len h
  obtain ⟨nc, nm, Qc, Qm, hc, hm, h1, h2, h3⟩ := zr_image h (zxx x (j + 1))
  refine zl_aloadC hx dL_law_1046 ?_
  refine zl_arg (i := 1) hx hj (by decide) dL_law_1047 dL_law_1048 dL_law_1049 dL_law_1050 dL_law_1051 ?_
  refine zl_callC (av := [.int (zxx x (j + 1))]) (rest := []) hx hu hv h1 hc rfl hu0 sL_130 rfl (fun _ => rfl) (Nat.le_of_ble_eq_true rfl) dL_law_1052 rfl (fun z u2 hu2 hq1 => ?_)
  refine zl_aloadM hx dL_law_1055 ?_
  refine zl_arg (i := 1) hx hj (by decide) dL_law_1056 dL_law_1057 dL_law_1058 dL_law_1059 dL_law_1060 ?_
  refine zl_callM (av := [.int (zxx x (j + 1))]) (rest := [.int z]) hx hu2 hv h2 hm rfl hv0 sL_133 rfl (fun _ => rfl) (Nat.le_of_ble_eq_true rfl) dL_law_1061 rfl (fun z2 v2 hv2 hq2 => ?_)
  exact zl_eq (tgt := 1240) hx dL_law_1064 (by decide) (h3 z u2 z2 v2 hq1 hq2).1 (ke u2 v2 (h3 z u2 z2 v2 hq1 hq2).2)
set_option maxRecDepth 10000 in
theorem zk_29 {x : zLx} {j : Nat} {u v : List zE} (hx : zLO x) (hj : j + 6 ≤ zxL x) (h : zRel u v) (ke : ∀ u2 v2, zRel u2 v2 → zLV x 1240 j [] u2 v2) : zLV x 1069 j [] u v := by
  obtain ⟨hu, hv, ⟨fu, hu0⟩, fv, hv0⟩ := zRel_len h
  obtain ⟨nc, nm, Qc, Qm, hc, hm, h1, h2, h3⟩ := zr_restore h (zxx x (j + 1))
  refine zl_aloadC hx dL_law_1069 ?_
  refine zl_arg (i := 1) hx hj (by decide) dL_law_1070 dL_law_1071 dL_law_1072 dL_law_1073 dL_law_1074 ?_
  refine zl_callC (av := [.int (zxx x (j + 1))]) (rest := []) hx hu hv h1 hc rfl hu0 sL_134 rfl (fun _ => rfl) (Nat.le_of_ble_eq_true rfl) dL_law_1075 rfl (fun z u2 hu2 hq1 => ?_)
  refine zl_aloadM hx dL_law_1078 ?_
  refine zl_arg (i := 1) hx hj (by decide) dL_law_1079 dL_law_1080 dL_law_1081 dL_law_1082 dL_law_1083 ?_
  refine zl_callM (av := [.int (zxx x (j + 1))]) (rest := [.int z]) hx hu2 hv h2 hm rfl hv0 sL_137 rfl (fun _ => rfl) (Nat.le_of_ble_eq_true rfl) dL_law_1084 rfl (fun z2 v2 hv2 hq2 => ?_)
  exact zl_eq (tgt := 1240) hx dL_law_1087 (by decide) (h3 z u2 z2 v2 hq1 hq2).1 (ke u2 v2 (h3 z u2 z2 v2 hq1 hq2).2)
set_option maxRecDepth 10000 in
theorem zk_30 {x : zLx} {j : Nat} {u v : List zE} (hx : zLO x) (hj : j + 6 ≤ zxL x) (h : zRel u v) (ke : ∀ u2 v2, zRel u2 v2 → zLV x 1240 j [] u2 v2) : zLV x 1092 j [] u v := by
  obtain ⟨hu, hv, ⟨fu, hu0⟩, fv, hv0⟩ := zRel_len h
  obtain ⟨nc, nm, Qc, Qm, hc, hm, h1, h2, h3⟩ := zr_kind h (zxx x (j + 1))
  refine zl_aloadC hx dL_law_1092 ?_
  refine zl_arg (i := 1) hx hj (by decide) dL_law_1093 dL_law_1094 dL_law_1095 dL_law_1096 dL_law_1097 ?_
  refine zl_callC (av := [.int (zxx x (j + 1))]) (rest := []) hx hu hv h1 hc rfl hu0 sL_138 rfl (fun _ => rfl) (Nat.le_of_ble_eq_true rfl) dL_law_1098 rfl (fun z u2 hu2 hq1 => ?_)
  refine zl_aloadM hx dL_law_1101 ?_
  refine zl_arg (i := 1) hx hj (by decide) dL_law_1102 dL_law_1103 dL_law_1104 dL_law_1105 dL_law_1106 ?_
  refine zl_callM (av := [.int (zxx x (j + 1))]) (rest := [.int z]) hx hu2 hv h2 hm rfl hv0 sL_141 rfl (fun _ => rfl) (Nat.le_of_ble_eq_true rfl) dL_law_1107 rfl (fun z2 v2 hv2 hq2 => ?_)
  exact zl_eq (tgt := 1240) hx dL_law_1110 (by decide) (h3 z u2 z2 v2 hq1 hq2).1 (ke u2 v2 (h3 z u2 z2 v2 hq1 hq2).2)
set_option maxRecDepth 10000 in
theorem zk_31 {x : zLx} {j : Nat} {u v : List zE} (hx : zLO x) (hj : j + 6 ≤ zxL x) (h : zRel u v) (ke : ∀ u2 v2, zRel u2 v2 → zLV x 1240 j [] u2 v2) : zLV x 1115 j [] u v := by
  obtain ⟨hu, hv, ⟨fu, hu0⟩, fv, hv0⟩ := zRel_len h
  obtain ⟨nc, nm, Qc, Qm, hc, hm, h1, h2, h3⟩ := zr_as h (zxx x (j + 1)) (zxx x (j + 2))
  refine zl_aloadC hx dL_law_1115 ?_
  refine zl_arg (i := 1) hx hj (by decide) dL_law_1116 dL_law_1117 dL_law_1118 dL_law_1119 dL_law_1120 ?_
  refine zl_arg (i := 2) hx hj (by decide) dL_law_1121 dL_law_1122 dL_law_1123 dL_law_1124 dL_law_1125 ?_
  refine zl_callC (av := [.int (zxx x (j + 1)), .int (zxx x (j + 2))]) (rest := []) hx hu hv h1 hc rfl hu0 sL_142 rfl (fun _ => rfl) (Nat.le_of_ble_eq_true rfl) dL_law_1126 rfl (fun z u2 hu2 hq1 => ?_)
  refine zl_aloadM hx dL_law_1129 ?_
  refine zl_arg (i := 1) hx hj (by decide) dL_law_1130 dL_law_1131 dL_law_1132 dL_law_1133 dL_law_1134 ?_
  refine zl_arg (i := 2) hx hj (by decide) dL_law_1135 dL_law_1136 dL_law_1137 dL_law_1138 dL_law_1139 ?_
  refine zl_callM (av := [.int (zxx x (j + 1)), .int (zxx x (j + 2))]) (rest := [.int z]) hx hu2 hv h2 hm rfl hv0 sL_145 rfl (fun _ => rfl) (Nat.le_of_ble_eq_true rfl) dL_law_1140 rfl (fun z2 v2 hv2 hq2 => ?_)
  exact zl_eq (tgt := 1240) hx dL_law_1143 (by decide) (h3 z u2 z2 v2 hq1 hq2).1 (ke u2 v2 (h3 z u2 z2 v2 hq1 hq2).2)
set_option maxRecDepth 10000 in
theorem zk_32 {x : zLx} {j : Nat} {u v : List zE} (hx : zLO x) (hj : j + 6 ≤ zxL x) (h : zRel u v) (ke : ∀ u2 v2, zRel u2 v2 → zLV x 1240 j [] u2 v2) : zLV x 1148 j [] u v := by
  obtain ⟨hu, hv, ⟨fu, hu0⟩, fv, hv0⟩ := zRel_len h
  obtain ⟨nc, nm, Qc, Qm, hc, hm, h1, h2, h3⟩ := zr_ask h (zxx x (j + 1)) (zxx x (j + 2))
  refine zl_aloadC hx dL_law_1148 ?_
  refine zl_arg (i := 1) hx hj (by decide) dL_law_1149 dL_law_1150 dL_law_1151 dL_law_1152 dL_law_1153 ?_
  refine zl_arg (i := 2) hx hj (by decide) dL_law_1154 dL_law_1155 dL_law_1156 dL_law_1157 dL_law_1158 ?_
  refine zl_callC (av := [.int (zxx x (j + 1)), .int (zxx x (j + 2))]) (rest := []) hx hu hv h1 hc rfl hu0 sL_146 rfl (fun _ => rfl) (Nat.le_of_ble_eq_true rfl) dL_law_1159 rfl (fun z u2 hu2 hq1 => ?_)
  refine zl_aloadM hx dL_law_1162 ?_
  refine zl_arg (i := 1) hx hj (by decide) dL_law_1163 dL_law_1164 dL_law_1165 dL_law_1166 dL_law_1167 ?_
  refine zl_arg (i := 2) hx hj (by decide) dL_law_1168 dL_law_1169 dL_law_1170 dL_law_1171 dL_law_1172 ?_
  refine zl_callM (av := [.int (zxx x (j + 1)), .int (zxx x (j + 2))]) (rest := [.int z]) hx hu2 hv h2 hm rfl hv0 sL_149 rfl (fun _ => rfl) (Nat.le_of_ble_eq_true rfl) dL_law_1173 rfl (fun z2 v2 hv2 hq2 => ?_)
  exact zl_eq (tgt := 1240) hx dL_law_1176 (by decide) (h3 z u2 z2 v2 hq1 hq2).1 (ke u2 v2 (h3 z u2 z2 v2 hq1 hq2).2)
set_option maxRecDepth 10000 in
theorem zk_33 {x : zLx} {j : Nat} {u v : List zE} (hx : zLO x) (hj : j + 6 ≤ zxL x) (h : zRel u v) (ke : ∀ u2 v2, zRel u2 v2 → zLV x 1240 j [] u2 v2) : zLV x 1181 j [] u v := by
  obtain ⟨hu, hv, ⟨fu, hu0⟩, fv, hv0⟩ := zRel_len h
  obtain ⟨nc, nm, Qc, Qm, hc, hm, h1, h2, h3⟩ := zr_trace h (zxx x (j + 1))
  refine zl_aloadC hx dL_law_1181 ?_
  refine zl_arg (i := 1) hx hj (by decide) dL_law_1182 dL_law_1183 dL_law_1184 dL_law_1185 dL_law_1186 ?_
  refine zl_callC (av := [.int (zxx x (j + 1))]) (rest := []) hx hu hv h1 hc rfl hu0 sL_150 rfl (fun _ => rfl) (Nat.le_of_ble_eq_true rfl) dL_law_1187 rfl (fun z u2 hu2 hq1 => ?_)
  refine zl_aloadM hx dL_law_1190 ?_
  refine zl_arg (i := 1) hx hj (by decide) dL_law_1191 dL_law_1192 dL_law_1193 dL_law_1194 dL_law_1195 ?_
  refine zl_callM (av := [.int (zxx x (j + 1))]) (rest := [.int z]) hx hu2 hv h2 hm rfl hv0 sL_153 rfl (fun _ => rfl) (Nat.le_of_ble_eq_true rfl) dL_law_1196 rfl (fun z2 v2 hv2 hq2 => ?_)
  exact zl_eq (tgt := 1240) hx dL_law_1199 (by decide) (h3 z u2 z2 v2 hq1 hq2).1 (ke u2 v2 (h3 z u2 z2 v2 hq1 hq2).2)
set_option maxRecDepth 10000 in
theorem zk_34 {x : zLx} {j : Nat} {u v : List zE} (hx : zLO x) (hj : j + 6 ≤ zxL x) (h : zRel u v) (ke : ∀ u2 v2, zRel u2 v2 → zLV x 1240 j [] u2 v2) : zLV x 1204 j [] u v := by
  obtain ⟨hu, hv, ⟨fu, hu0⟩, fv, hv0⟩ := zRel_len h
  obtain ⟨nc, nm, Qc, Qm, hc, hm, h1, h2, h3⟩ := zr_count h (zxx x (j + 1))
  refine zl_aloadC hx dL_law_1204 ?_
  refine zl_arg (i := 1) hx hj (by decide) dL_law_1205 dL_law_1206 dL_law_1207 dL_law_1208 dL_law_1209 ?_
  refine zl_callC (av := [.int (zxx x (j + 1))]) (rest := []) hx hu hv h1 hc rfl hu0 sL_154 rfl (fun _ => rfl) (Nat.le_of_ble_eq_true rfl) dL_law_1210 rfl (fun z u2 hu2 hq1 => ?_)
  refine zl_aloadM hx dL_law_1213 ?_
  refine zl_arg (i := 1) hx hj (by decide) dL_law_1214 dL_law_1215 dL_law_1216 dL_law_1217 dL_law_1218 ?_
  refine zl_callM (av := [.int (zxx x (j + 1))]) (rest := [.int z]) hx hu2 hv h2 hm rfl hv0 sL_157 rfl (fun _ => rfl) (Nat.le_of_ble_eq_true rfl) dL_law_1219 rfl (fun z2 v2 hv2 hq2 => ?_)
  exact zl_eq (tgt := 1240) hx dL_law_1222 (by decide) (h3 z u2 z2 v2 hq1 hq2).1 (ke u2 v2 (h3 z u2 z2 v2 hq1 hq2).2)
set_option maxRecDepth 10000 in
theorem zk_35 {x : zLx} {j : Nat} {u v : List zE} (hx : zLO x) (hj : j + 6 ≤ zxL x) (h : zRel u v) (ke : ∀ u2 v2, zRel u2 v2 → zLV x 1240 j [] u2 v2) : zLV x 1227 j [] u v := by
  obtain ⟨hu, hv, ⟨fu, hu0⟩, fv, hv0⟩ := zRel_len h
  obtain ⟨nc, nm, Qc, Qm, hc, hm, h1, h2, h3⟩ := zr_status h 
  refine zl_aloadC hx dL_law_1227 ?_
  refine zl_callC (av := []) (rest := []) hx hu hv h1 hc rfl hu0 sL_158 rfl (fun _ => rfl) (Nat.le_of_ble_eq_true rfl) dL_law_1228 rfl (fun z u2 hu2 hq1 => ?_)
  refine zl_aloadM hx dL_law_1231 ?_
  refine zl_callM (av := []) (rest := [.int z]) hx hu2 hv h2 hm rfl hv0 sL_161 rfl (fun _ => rfl) (Nat.le_of_ble_eq_true rfl) dL_law_1232 rfl (fun z2 v2 hv2 hq2 => ?_)
  exact zl_eq (tgt := 1240) hx dL_law_1235 (by decide) (h3 z u2 z2 v2 hq1 hq2).1 (ke u2 v2 (h3 z u2 z2 v2 hq1 hq2).2)
theorem zl_iand63 (y : Int32) : ∃ k : Nat, k < 64 ∧ (y &&& 63).toInt = k := by
  have h : (y &&& 63).toBitVec.toNat < 64 := by
    rw [Int32.toBitVec_and]
    have : (63 : Int32).toBitVec = 63#32 := rfl
    rw [this, BitVec.toNat_and]
    exact Nat.lt_of_le_of_lt Nat.and_le_right (by decide)
  refine ⟨(y &&& 63).toBitVec.toNat, h, ?_⟩
  show (y &&& 63).toBitVec.toInt = _
  rw [BitVec.toInt_eq_toNat_of_lt]
  omega
set_option maxHeartbeats 1000000 in
theorem zl_switch {x : zLx} {j : Nat} {u v : List zE} (hx : zLO x) (hj : j + 6 ≤ zxL x) (h : zRel u v) (ke : ∀ u2 v2, zRel u2 v2 → zLV x 1240 j [] u2 v2) : zLV x 27 j [] u v := by
  refine zl_at hx hj dL_law_27 dL_law_28 dL_law_29 ?_
  have hx0 := hx
  obtain ⟨k, hk, e⟩ := zl_iand63 (zxx x j)
  generalize zxx x j = y at e ⊢
  obtain ⟨p, l, e9, s, m, below, meth, c, D, ca, adC, adM, b, L, xs⟩ := x
  obtain ⟨⟨h1, h2, -⟩, -⟩ := hx
  intro H locs ls hl hP hQ hS
  refine lv_bipush (v := 63) h1 h2 dL_law_30 (by decide) ?_
  refine lv_iand h1 h2 dL_law_32 ?_
  by_cases hk2 : 36 ≤ k
  · refine lv_tableOut (tgt := 1240) h1 h2 dL_law_33 (Or.inr (by rw [e]; omega)) (by decide) ?_
    exact ke u v h H locs ls hl hP hQ hS
  have hk3 : k < 36 := by omega
  clear hk2 hk
  generalize (y &&& 63) = w at e ⊢
  match k, hk3, e with
  | 0, _, e =>
    refine lv_tableIn (off := 159) (tgt := 192) h1 h2 dL_law_33 (by rw [e]; decide) (by rw [e]; decide) (by rw [e]; rfl) (by decide) ?_
    exact zk_0 hx0 hj h ke H locs ls hl hP hQ hS
  | 1, _, e =>
    refine lv_tableIn (off := 202) (tgt := 235) h1 h2 dL_law_33 (by rw [e]; decide) (by rw [e]; decide) (by rw [e]; rfl) (by decide) ?_
    exact zk_1 hx0 hj h ke H locs ls hl hP hQ hS
  | 2, _, e =>
    refine lv_tableIn (off := 245) (tgt := 278) h1 h2 dL_law_33 (by rw [e]; decide) (by rw [e]; decide) (by rw [e]; rfl) (by decide) ?_
    exact zk_2 hx0 hj h ke H locs ls hl hP hQ hS
  | 3, _, e =>
    refine lv_tableIn (off := 308) (tgt := 341) h1 h2 dL_law_33 (by rw [e]; decide) (by rw [e]; decide) (by rw [e]; rfl) (by decide) ?_
    exact zk_3 hx0 hj h ke H locs ls hl hP hQ hS
  | 4, _, e =>
    refine lv_tableIn (off := 331) (tgt := 364) h1 h2 dL_law_33 (by rw [e]; decide) (by rw [e]; decide) (by rw [e]; rfl) (by decide) ?_
    exact zk_4 hx0 hj h ke H locs ls hl hP hQ hS
  | 5, _, e =>
    refine lv_tableIn (off := 354) (tgt := 387) h1 h2 dL_law_33 (by rw [e]; decide) (by rw [e]; decide) (by rw [e]; rfl) (by decide) ?_
    exact zk_5 hx0 hj h ke H locs ls hl hP hQ hS
  | 6, _, e =>
    refine lv_tableIn (off := 367) (tgt := 400) h1 h2 dL_law_33 (by rw [e]; decide) (by rw [e]; decide) (by rw [e]; rfl) (by decide) ?_
    exact zk_6 hx0 hj h ke H locs ls hl hP hQ hS
  | 7, _, e =>
    refine lv_tableIn (off := 380) (tgt := 413) h1 h2 dL_law_33 (by rw [e]; decide) (by rw [e]; decide) (by rw [e]; rfl) (by decide) ?_
    exact zk_7 hx0 hj h ke H locs ls hl hP hQ hS
  | 8, _, e =>
    refine lv_tableIn (off := 403) (tgt := 436) h1 h2 dL_law_33 (by rw [e]; decide) (by rw [e]; decide) (by rw [e]; rfl) (by decide) ?_
    exact zk_8 hx0 hj h ke H locs ls hl hP hQ hS
  | 9, _, e =>
    refine lv_tableIn (off := 436) (tgt := 469) h1 h2 dL_law_33 (by rw [e]; decide) (by rw [e]; decide) (by rw [e]; rfl) (by decide) ?_
    exact zk_9 hx0 hj h ke H locs ls hl hP hQ hS
  | 10, _, e =>
    refine lv_tableIn (off := 469) (tgt := 502) h1 h2 dL_law_33 (by rw [e]; decide) (by rw [e]; decide) (by rw [e]; rfl) (by decide) ?_
    exact zk_10 hx0 hj h ke H locs ls hl hP hQ hS
  | 11, _, e =>
    refine lv_tableIn (off := 502) (tgt := 535) h1 h2 dL_law_33 (by rw [e]; decide) (by rw [e]; decide) (by rw [e]; rfl) (by decide) ?_
    exact zk_11 hx0 hj h ke H locs ls hl hP hQ hS
  | 12, _, e =>
    refine lv_tableIn (off := 515) (tgt := 548) h1 h2 dL_law_33 (by rw [e]; decide) (by rw [e]; decide) (by rw [e]; rfl) (by decide) ?_
    exact zk_12 hx0 hj h ke H locs ls hl hP hQ hS
  | 13, _, e =>
    refine lv_tableIn (off := 548) (tgt := 581) h1 h2 dL_law_33 (by rw [e]; decide) (by rw [e]; decide) (by rw [e]; rfl) (by decide) ?_
    exact zk_13 hx0 hj h ke H locs ls hl hP hQ hS
  | 14, _, e =>
    refine lv_tableIn (off := 581) (tgt := 614) h1 h2 dL_law_33 (by rw [e]; decide) (by rw [e]; decide) (by rw [e]; rfl) (by decide) ?_
    exact zk_14 hx0 hj h ke H locs ls hl hP hQ hS
  | 15, _, e =>
    refine lv_tableIn (off := 614) (tgt := 647) h1 h2 dL_law_33 (by rw [e]; decide) (by rw [e]; decide) (by rw [e]; rfl) (by decide) ?_
    exact zk_15 hx0 hj h ke H locs ls hl hP hQ hS
  | 16, _, e =>
    refine lv_tableIn (off := 637) (tgt := 670) h1 h2 dL_law_33 (by rw [e]; decide) (by rw [e]; decide) (by rw [e]; rfl) (by decide) ?_
    exact zk_16 hx0 hj h ke H locs ls hl hP hQ hS
  | 17, _, e =>
    refine lv_tableIn (off := 660) (tgt := 693) h1 h2 dL_law_33 (by rw [e]; decide) (by rw [e]; decide) (by rw [e]; rfl) (by decide) ?_
    exact zk_17 hx0 hj h ke H locs ls hl hP hQ hS
  | 18, _, e =>
    refine lv_tableIn (off := 683) (tgt := 716) h1 h2 dL_law_33 (by rw [e]; decide) (by rw [e]; decide) (by rw [e]; rfl) (by decide) ?_
    exact zk_18 hx0 hj h ke H locs ls hl hP hQ hS
  | 19, _, e =>
    refine lv_tableIn (off := 696) (tgt := 729) h1 h2 dL_law_33 (by rw [e]; decide) (by rw [e]; decide) (by rw [e]; rfl) (by decide) ?_
    exact zk_19 hx0 hj h ke H locs ls hl hP hQ hS
  | 20, _, e =>
    refine lv_tableIn (off := 709) (tgt := 742) h1 h2 dL_law_33 (by rw [e]; decide) (by rw [e]; decide) (by rw [e]; rfl) (by decide) ?_
    exact zk_20 hx0 hj h ke H locs ls hl hP hQ hS
  | 21, _, e =>
    refine lv_tableIn (off := 722) (tgt := 755) h1 h2 dL_law_33 (by rw [e]; decide) (by rw [e]; decide) (by rw [e]; rfl) (by decide) ?_
    exact zk_21 hx0 hj h ke H locs ls hl hP hQ hS
  | 22, _, e =>
    refine lv_tableIn (off := 755) (tgt := 788) h1 h2 dL_law_33 (by rw [e]; decide) (by rw [e]; decide) (by rw [e]; rfl) (by decide) ?_
    exact zk_22 hx0 hj h ke H locs ls hl hP hQ hS
  | 23, _, e =>
    refine lv_tableIn (off := 788) (tgt := 821) h1 h2 dL_law_33 (by rw [e]; decide) (by rw [e]; decide) (by rw [e]; rfl) (by decide) ?_
    exact zk_23 hx0 hj h ke H locs ls hl hP hQ hS
  | 24, _, e =>
    refine lv_tableIn (off := 821) (tgt := 854) h1 h2 dL_law_33 (by rw [e]; decide) (by rw [e]; decide) (by rw [e]; rfl) (by decide) ?_
    exact zk_24 hx0 hj h ke H locs ls hl hP hQ hS
  | 25, _, e =>
    refine lv_tableIn (off := 884) (tgt := 917) h1 h2 dL_law_33 (by rw [e]; decide) (by rw [e]; decide) (by rw [e]; rfl) (by decide) ?_
    exact zk_25 hx0 hj h ke H locs ls hl hP hQ hS
  | 26, _, e =>
    refine lv_tableIn (off := 927) (tgt := 960) h1 h2 dL_law_33 (by rw [e]; decide) (by rw [e]; decide) (by rw [e]; rfl) (by decide) ?_
    exact zk_26 hx0 hj h ke H locs ls hl hP hQ hS
  | 27, _, e =>
    refine lv_tableIn (off := 970) (tgt := 1003) h1 h2 dL_law_33 (by rw [e]; decide) (by rw [e]; decide) (by rw [e]; rfl) (by decide) ?_
    exact zk_27 hx0 hj h ke H locs ls hl hP hQ hS
  | 28, _, e =>
    refine lv_tableIn (off := 1013) (tgt := 1046) h1 h2 dL_law_33 (by rw [e]; decide) (by rw [e]; decide) (by rw [e]; rfl) (by decide) ?_
    exact zk_28 hx0 hj h ke H locs ls hl hP hQ hS
  | 29, _, e =>
    refine lv_tableIn (off := 1036) (tgt := 1069) h1 h2 dL_law_33 (by rw [e]; decide) (by rw [e]; decide) (by rw [e]; rfl) (by decide) ?_
    exact zk_29 hx0 hj h ke H locs ls hl hP hQ hS
  | 30, _, e =>
    refine lv_tableIn (off := 1059) (tgt := 1092) h1 h2 dL_law_33 (by rw [e]; decide) (by rw [e]; decide) (by rw [e]; rfl) (by decide) ?_
    exact zk_30 hx0 hj h ke H locs ls hl hP hQ hS
  | 31, _, e =>
    refine lv_tableIn (off := 1082) (tgt := 1115) h1 h2 dL_law_33 (by rw [e]; decide) (by rw [e]; decide) (by rw [e]; rfl) (by decide) ?_
    exact zk_31 hx0 hj h ke H locs ls hl hP hQ hS
  | 32, _, e =>
    refine lv_tableIn (off := 1115) (tgt := 1148) h1 h2 dL_law_33 (by rw [e]; decide) (by rw [e]; decide) (by rw [e]; rfl) (by decide) ?_
    exact zk_32 hx0 hj h ke H locs ls hl hP hQ hS
  | 33, _, e =>
    refine lv_tableIn (off := 1148) (tgt := 1181) h1 h2 dL_law_33 (by rw [e]; decide) (by rw [e]; decide) (by rw [e]; rfl) (by decide) ?_
    exact zk_33 hx0 hj h ke H locs ls hl hP hQ hS
  | 34, _, e =>
    refine lv_tableIn (off := 1171) (tgt := 1204) h1 h2 dL_law_33 (by rw [e]; decide) (by rw [e]; decide) (by rw [e]; rfl) (by decide) ?_
    exact zk_34 hx0 hj h ke H locs ls hl hP hQ hS
  | 35, _, e =>
    refine lv_tableIn (off := 1194) (tgt := 1227) h1 h2 dL_law_33 (by rw [e]; decide) (by rw [e]; decide) (by rw [e]; rfl) (by decide) ?_
    exact zk_35 hx0 hj h ke H locs ls hl hP hQ hS
  | k + 36, h, _ => exact absurd h (by omega)

/-- THE LAW'S LOOP: at its head, with j ints read, class and reference are tied -/
theorem zl_loop {x : zLx} (hx : zLO x) : ∀ (n j : Nat), j ≤ zxL x + 5 → zxL x + 6 ≤ j + n → ∀ u v, zRel u v → zLV x 18 j [] u v := by
  intro n
  induction n with
  | zero => intro j h1 h2; exact absurd h2 (by omega)
  | succ n ih =>
    intro j hj hn u v h
    have hx0 := hx
    have ke : j + 6 ≤ zxL x → ∀ u2 v2, zRel u2 v2 → zLV x 1240 j [] u2 v2 := fun hj6 u2 v2 h2 => by
      have k := ih (j + 6) (by omega) (by omega) u2 v2 h2
      obtain ⟨p, l, e9, s, m, below, meth, c, D, ca, adC, adM, b, L, xs⟩ := x
      obtain ⟨⟨h1, h2, -⟩, -⟩ := hx
      intro H locs ls hl hP hQ hS
      refine lv_iinc (v := nI (j + 6)) (lv' := [(3, .int (nI (j + 6))), (0, .ref b), (1, .ref (adC 0)), (2, .ref (adM 0))]) h1 h2 dL_law_1240 hl (k := 3) rfl (nI_add j 6) (by decide) rfl (fun ls hl => ?_)
      refine lv_goto (tgt := 18) h1 h2 dL_law_1243 (by decide) ?_
      exact k H locs ls (lv_sub hl [1, 2, 3, 0] rfl) hP hQ hS
    have ks : j + 6 ≤ zxL x → zLV x 27 j [] u v := fun hj6 => zl_switch hx0 hj6 h (ke hj6)
    clear ke
    obtain ⟨p, l, e9, s, m, below, meth, c, D, ca, adC, adM, b, L, xs⟩ := x
    obtain ⟨⟨h1, h2, hr, -, -, -, hX, hbl, hlk, -⟩, hL, -⟩ := hx
    have ks : j + 6 ≤ L → _ := ks
    have hj : j ≤ L + 5 := hj
    intro H locs ls hl hP hQ hS
    refine lv_iload_n h1 h2 dL_law_18 rfl (lv_at hl 3 rfl) ?_
    refine lv_aload_n h1 h2 dL_law_19 rfl (lv_at hl 0 rfl) ?_
    refine va_slen h1 h2 hX hbl (Nat.not_le.mpr hbl) hS dL_law_20 ?_
    refine lv_bipush (v := 6) h1 h2 dL_law_21 (by decide) ?_
    refine lv_isub h1 h2 dL_law_23 ?_
    refine lv_icmp_gt (tgt := 1246) h1 h2 dL_law_24 (by decide) (fun c1 => ?_) (fun c1 => ?_)
    · refine lv_iconst (v := 1) h1 h2 dL_law_1246 (by decide) ?_
      refine va_forget (fun q hq => hS.2.2 q hq) ?_
      exact lw_ret h1 h2 hr hlk dL_law_1247
    · refine ks ?_ H locs ls hl hP hQ hS
      have e1 : (Int32.ofNat L - 6).toInt = (L : Int) - 6 := by
        rw [Int32.toInt_sub, show (Int32.ofNat L).toInt = (L : Int) from nI_toInt (by omega), show (6 : Int32).toInt = 6 from rfl]
        rw [Int.bmod_eq_of_le] <;> omega
      have e2 : (nI j).toInt = (j : Int) := nI_toInt (by omega)
      have c2 : ¬ (Int32.ofNat L - 6 < nI j) := c1
      rw [Int32.lt_iff_toInt_lt, e1, e2] at c2
      omega
