section LCS
variable {p : Program} {l : Launch} {e : Env} {s : State} {m : MethodId} {below : List Frame} {meth : Method} {c : Code} {b L : Nat} {xs : Nat → Int32} {D : va_G} {dA : Nat → ClassId} {ρ1 ρ2 : Nat → Nat} {nc ns : Nat} {x : Int32}
set_option maxRecDepth 20000 in
theorem LKc_0 (X : LX p s m meth c b L xs D dA ρ1 ρ2 nc ns) (hin : ∀ k : Int32, 0 ≤ k → k ≤ 5 → vp_in (x + k) L) {Z : ZS} (ok : Zok Z) (next : ∀ Z1 : ZS, Zok Z1 → LK p l e s m below meth c b D dA ρ1 ρ2 nc ns x 1610 [] Z1 Z1) : LK p l e s m below meth c b D dA ρ1 ρ2 nc ns x 228 [] Z Z := by
  refine LK_ld1 X dL_law_228 ?_
  refine LK_arg 1 X dL_law_229 dL_law_230 dL_law_231 dL_law_232 dL_law_233 rfl (hin 1 (by decide) (by decide)) ?_
  refine LK_arg 2 X dL_law_234 dL_law_235 dL_law_236 dL_law_237 dL_law_238 rfl (hin 2 (by decide) (by decide)) ?_
  refine LK_arg 3 X dL_law_239 dL_law_240 dL_law_241 dL_law_242 dL_law_243 rfl (hin 3 (by decide) (by decide)) ?_
  refine LK_C (rest := []) [.int (lw_a xs x 1), .int (lw_a xs x 2), .int (lw_a xs x 3)] X kL_13 dL_law_244 rfl (fun M cv => P_row (d := 0) cv ok (lw_a xs x 1) (lw_a xs x 2) (lw_a xs x 3)) rfl (Nat.le_of_ble_eq_true rfl) (by decide) rfl (Nat.le_of_ble_eq_true rfl) rfl ?_
  refine LK_ld2 X dL_law_247 ?_
  refine LK_arg 1 X dL_law_248 dL_law_249 dL_law_250 dL_law_251 dL_law_252 rfl (hin 1 (by decide) (by decide)) ?_
  refine LK_arg 2 X dL_law_253 dL_law_254 dL_law_255 dL_law_256 dL_law_257 rfl (hin 2 (by decide) (by decide)) ?_
  refine LK_arg 3 X dL_law_258 dL_law_259 dL_law_260 dL_law_261 dL_law_262 rfl (hin 3 (by decide) (by decide)) ?_
  refine LK_M (rest := [.int (rowZ Z (lw_a xs x 1) (lw_a xs x 2) (lw_a xs x 3)).1]) [.int (lw_a xs x 1), .int (lw_a xs x 2), .int (lw_a xs x 3)] X kL_17 dL_law_263 rfl (fun M cv => N_row (d := 0) cv ok (lw_a xs x 1) (lw_a xs x 2) (lw_a xs x 3)) rfl (Nat.le_of_ble_eq_true rfl) (by decide) rfl (Nat.le_of_ble_eq_true rfl) rfl ?_
  refine LK_eq (tgt := 1610) X dL_law_266 (by decide) ?_
  exact next _ (zk_row ok (lw_a xs x 1) (lw_a xs x 2) (lw_a xs x 3))
set_option maxRecDepth 20000 in
theorem LKc_1 (X : LX p s m meth c b L xs D dA ρ1 ρ2 nc ns) (hin : ∀ k : Int32, 0 ≤ k → k ≤ 5 → vp_in (x + k) L) {Z : ZS} (ok : Zok Z) (next : ∀ Z1 : ZS, Zok Z1 → LK p l e s m below meth c b D dA ρ1 ρ2 nc ns x 1610 [] Z1 Z1) : LK p l e s m below meth c b D dA ρ1 ρ2 nc ns x 271 [] Z Z := by
  refine LK_ld1 X dL_law_271 ?_
  refine LK_arg 1 X dL_law_272 dL_law_273 dL_law_274 dL_law_275 dL_law_276 rfl (hin 1 (by decide) (by decide)) ?_
  refine LK_arg 2 X dL_law_277 dL_law_278 dL_law_279 dL_law_280 dL_law_281 rfl (hin 2 (by decide) (by decide)) ?_
  refine LK_arg 3 X dL_law_282 dL_law_283 dL_law_284 dL_law_285 dL_law_286 rfl (hin 3 (by decide) (by decide)) ?_
  refine LK_i2l X dL_law_287 ?_
  refine LK_shl X dL_law_288 dL_law_290 ?_
  refine LK_arg 4 X dL_law_291 dL_law_292 dL_law_293 dL_law_294 dL_law_295 rfl (hin 4 (by decide) (by decide)) ?_
  refine LK_i2l X dL_law_296 ?_
  refine LK_or X dL_law_297 dL_law_300 dL_law_301 ?_
  refine LK_C (rest := []) [.int (lw_a xs x 1), .int (lw_a xs x 2), .long ((((lw_a xs x 3).toInt64) <<< ((32 : Int32).toInt64 &&& 63)) ||| (((lw_a xs x 4).toInt64) &&& 4294967295))] X kL_20 dL_law_302 rfl (fun M cv => P_set (d := 0) cv ok (lw_a xs x 1) (lw_a xs x 2) ((((lw_a xs x 3).toInt64) <<< ((32 : Int32).toInt64 &&& 63)) ||| (((lw_a xs x 4).toInt64) &&& 4294967295))) rfl (Nat.le_of_ble_eq_true rfl) (by decide) rfl (Nat.le_of_ble_eq_true rfl) rfl ?_
  refine LK_ld2 X dL_law_305 ?_
  refine LK_arg 1 X dL_law_306 dL_law_307 dL_law_308 dL_law_309 dL_law_310 rfl (hin 1 (by decide) (by decide)) ?_
  refine LK_arg 2 X dL_law_311 dL_law_312 dL_law_313 dL_law_314 dL_law_315 rfl (hin 2 (by decide) (by decide)) ?_
  refine LK_arg 3 X dL_law_316 dL_law_317 dL_law_318 dL_law_319 dL_law_320 rfl (hin 3 (by decide) (by decide)) ?_
  refine LK_i2l X dL_law_321 ?_
  refine LK_shl X dL_law_322 dL_law_324 ?_
  refine LK_arg 4 X dL_law_325 dL_law_326 dL_law_327 dL_law_328 dL_law_329 rfl (hin 4 (by decide) (by decide)) ?_
  refine LK_i2l X dL_law_330 ?_
  refine LK_or X dL_law_331 dL_law_334 dL_law_335 ?_
  refine LK_M (rest := [.int (setZ Z (lw_a xs x 1) (lw_a xs x 2) ((((lw_a xs x 3).toInt64) <<< ((32 : Int32).toInt64 &&& 63)) ||| (((lw_a xs x 4).toInt64) &&& 4294967295))).1]) [.int (lw_a xs x 1), .int (lw_a xs x 2), .long ((((lw_a xs x 3).toInt64) <<< ((32 : Int32).toInt64 &&& 63)) ||| (((lw_a xs x 4).toInt64) &&& 4294967295))] X kL_24 dL_law_336 rfl (fun M cv => N_set (d := 0) cv ok (lw_a xs x 1) (lw_a xs x 2) ((((lw_a xs x 3).toInt64) <<< ((32 : Int32).toInt64 &&& 63)) ||| (((lw_a xs x 4).toInt64) &&& 4294967295))) rfl (Nat.le_of_ble_eq_true rfl) (by decide) rfl (Nat.le_of_ble_eq_true rfl) rfl ?_
  refine LK_eq (tgt := 1610) X dL_law_339 (by decide) ?_
  exact next _ (zk_set ok (lw_a xs x 1) (lw_a xs x 2) ((((lw_a xs x 3).toInt64) <<< ((32 : Int32).toInt64 &&& 63)) ||| (((lw_a xs x 4).toInt64) &&& 4294967295)))
set_option maxRecDepth 20000 in
theorem LKc_2 (X : LX p s m meth c b L xs D dA ρ1 ρ2 nc ns) (hin : ∀ k : Int32, 0 ≤ k → k ≤ 5 → vp_in (x + k) L) {Z : ZS} (ok : Zok Z) (next : ∀ Z1 : ZS, Zok Z1 → LK p l e s m below meth c b D dA ρ1 ρ2 nc ns x 1610 [] Z1 Z1) : LK p l e s m below meth c b D dA ρ1 ρ2 nc ns x 344 [] Z Z := by
  refine LK_ld1 X dL_law_344 ?_
  refine LK_arg 1 X dL_law_345 dL_law_346 dL_law_347 dL_law_348 dL_law_349 rfl (hin 1 (by decide) (by decide)) ?_
  refine LK_arg 2 X dL_law_350 dL_law_351 dL_law_352 dL_law_353 dL_law_354 rfl (hin 2 (by decide) (by decide)) ?_
  refine LK_arg 3 X dL_law_355 dL_law_356 dL_law_357 dL_law_358 dL_law_359 rfl (hin 3 (by decide) (by decide)) ?_
  refine LK_arg 4 X dL_law_360 dL_law_361 dL_law_362 dL_law_363 dL_law_364 rfl (hin 4 (by decide) (by decide)) ?_
  refine LK_arg 5 X dL_law_365 dL_law_366 dL_law_367 dL_law_368 dL_law_369 rfl (hin 5 (by decide) (by decide)) ?_
  refine LK_C (rest := []) [.int (lw_a xs x 1), .int (lw_a xs x 2), .int (lw_a xs x 3), .int (lw_a xs x 4), .int (lw_a xs x 5)] X kL_25 dL_law_370 rfl (fun M cv => P_copy (d := 0) cv ok (lw_a xs x 1) (lw_a xs x 2) (lw_a xs x 3) (lw_a xs x 4) (lw_a xs x 5)) rfl (Nat.le_of_ble_eq_true rfl) (by decide) rfl (Nat.le_of_ble_eq_true rfl) rfl ?_
  refine LK_ld2 X dL_law_373 ?_
  refine LK_arg 1 X dL_law_374 dL_law_375 dL_law_376 dL_law_377 dL_law_378 rfl (hin 1 (by decide) (by decide)) ?_
  refine LK_arg 2 X dL_law_379 dL_law_380 dL_law_381 dL_law_382 dL_law_383 rfl (hin 2 (by decide) (by decide)) ?_
  refine LK_arg 3 X dL_law_384 dL_law_385 dL_law_386 dL_law_387 dL_law_388 rfl (hin 3 (by decide) (by decide)) ?_
  refine LK_arg 4 X dL_law_389 dL_law_390 dL_law_391 dL_law_392 dL_law_393 rfl (hin 4 (by decide) (by decide)) ?_
  refine LK_arg 5 X dL_law_394 dL_law_395 dL_law_396 dL_law_397 dL_law_398 rfl (hin 5 (by decide) (by decide)) ?_
  refine LK_M (rest := [.int (copyZ Z (lw_a xs x 1) (lw_a xs x 2) (lw_a xs x 3) (lw_a xs x 4) (lw_a xs x 5)).1]) [.int (lw_a xs x 1), .int (lw_a xs x 2), .int (lw_a xs x 3), .int (lw_a xs x 4), .int (lw_a xs x 5)] X kL_29 dL_law_399 rfl (fun M cv => N_copy (d := 0) cv ok (lw_a xs x 1) (lw_a xs x 2) (lw_a xs x 3) (lw_a xs x 4) (lw_a xs x 5)) rfl (Nat.le_of_ble_eq_true rfl) (by decide) rfl (Nat.le_of_ble_eq_true rfl) rfl ?_
  refine LK_eq (tgt := 1610) X dL_law_402 (by decide) ?_
  exact next _ (zk_copy ok (lw_a xs x 1) (lw_a xs x 2) (lw_a xs x 3) (lw_a xs x 4) (lw_a xs x 5))
set_option maxRecDepth 20000 in
theorem LKc_3 (X : LX p s m meth c b L xs D dA ρ1 ρ2 nc ns) (hin : ∀ k : Int32, 0 ≤ k → k ≤ 5 → vp_in (x + k) L) {Z : ZS} (ok : Zok Z) (next : ∀ Z1 : ZS, Zok Z1 → LK p l e s m below meth c b D dA ρ1 ρ2 nc ns x 1610 [] Z1 Z1) : LK p l e s m below meth c b D dA ρ1 ρ2 nc ns x 407 [] Z Z := by
  refine LK_ld1 X dL_law_407 ?_
  refine LK_arg 1 X dL_law_408 dL_law_409 dL_law_410 dL_law_411 dL_law_412 rfl (hin 1 (by decide) (by decide)) ?_
  refine LK_arg 2 X dL_law_413 dL_law_414 dL_law_415 dL_law_416 dL_law_417 rfl (hin 2 (by decide) (by decide)) ?_
  refine LK_C (rest := []) [.int (lw_a xs x 1), .int (lw_a xs x 2)] X kL_30 dL_law_418 rfl (fun M cv => P_element (d := 0) cv ok (lw_a xs x 1) (lw_a xs x 2)) rfl (Nat.le_of_ble_eq_true rfl) (by decide) rfl (Nat.le_of_ble_eq_true rfl) rfl ?_
  refine LK_ld2 X dL_law_421 ?_
  refine LK_arg 1 X dL_law_422 dL_law_423 dL_law_424 dL_law_425 dL_law_426 rfl (hin 1 (by decide) (by decide)) ?_
  refine LK_arg 2 X dL_law_427 dL_law_428 dL_law_429 dL_law_430 dL_law_431 rfl (hin 2 (by decide) (by decide)) ?_
  refine LK_M (rest := [.long (elemZ Z (lw_a xs x 1) (lw_a xs x 2)).1]) [.int (lw_a xs x 1), .int (lw_a xs x 2)] X kL_34 dL_law_432 rfl (fun M cv => N_element (d := 0) cv ok (lw_a xs x 1) (lw_a xs x 2)) rfl (Nat.le_of_ble_eq_true rfl) (by decide) rfl (Nat.le_of_ble_eq_true rfl) rfl ?_
  refine LK_lcmp (tgt := 1610) X dL_law_435 dL_law_436 (by decide) ?_
  exact next _ (zk_elem ok (lw_a xs x 1) (lw_a xs x 2))
set_option maxRecDepth 20000 in
theorem LKc_4 (X : LX p s m meth c b L xs D dA ρ1 ρ2 nc ns) (hin : ∀ k : Int32, 0 ≤ k → k ≤ 5 → vp_in (x + k) L) {Z : ZS} (ok : Zok Z) (next : ∀ Z1 : ZS, Zok Z1 → LK p l e s m below meth c b D dA ρ1 ρ2 nc ns x 1610 [] Z1 Z1) : LK p l e s m below meth c b D dA ρ1 ρ2 nc ns x 441 [] Z Z := by
  refine LK_ld1 X dL_law_441 ?_
  refine LK_arg 1 X dL_law_442 dL_law_443 dL_law_444 dL_law_445 dL_law_446 rfl (hin 1 (by decide) (by decide)) ?_
  refine LK_arg 2 X dL_law_447 dL_law_448 dL_law_449 dL_law_450 dL_law_451 rfl (hin 2 (by decide) (by decide)) ?_
  refine LK_C (rest := []) [.int (lw_a xs x 1), .int (lw_a xs x 2)] X kL_35 dL_law_452 rfl (fun M cv => P_show (d := 0) cv ok (lw_a xs x 1) (lw_a xs x 2)) rfl (Nat.le_of_ble_eq_true rfl) (by decide) rfl (Nat.le_of_ble_eq_true rfl) rfl ?_
  refine LK_ld2 X dL_law_455 ?_
  refine LK_arg 1 X dL_law_456 dL_law_457 dL_law_458 dL_law_459 dL_law_460 rfl (hin 1 (by decide) (by decide)) ?_
  refine LK_arg 2 X dL_law_461 dL_law_462 dL_law_463 dL_law_464 dL_law_465 rfl (hin 2 (by decide) (by decide)) ?_
  refine LK_M (rest := [.int (showZ Z (lw_a xs x 1) (lw_a xs x 2)).1]) [.int (lw_a xs x 1), .int (lw_a xs x 2)] X kL_39 dL_law_466 rfl (fun M cv => N_show (d := 0) cv ok (lw_a xs x 1) (lw_a xs x 2)) rfl (Nat.le_of_ble_eq_true rfl) (by decide) rfl (Nat.le_of_ble_eq_true rfl) rfl ?_
  refine LK_eq (tgt := 1610) X dL_law_469 (by decide) ?_
  exact next _ (zk_show ok (lw_a xs x 1) (lw_a xs x 2))
set_option maxRecDepth 20000 in
theorem LKc_5 (X : LX p s m meth c b L xs D dA ρ1 ρ2 nc ns) (hin : ∀ k : Int32, 0 ≤ k → k ≤ 5 → vp_in (x + k) L) {Z : ZS} (ok : Zok Z) (next : ∀ Z1 : ZS, Zok Z1 → LK p l e s m below meth c b D dA ρ1 ρ2 nc ns x 1610 [] Z1 Z1) : LK p l e s m below meth c b D dA ρ1 ρ2 nc ns x 474 [] Z Z := by
  refine LK_ld1 X dL_law_474 ?_
  refine LK_arg 1 X dL_law_475 dL_law_476 dL_law_477 dL_law_478 dL_law_479 rfl (hin 1 (by decide) (by decide)) ?_
  refine LK_C (rest := []) [.int (lw_a xs x 1)] X kL_40 dL_law_480 rfl (fun M cv => P_holds (d := 0) cv ok (lw_a xs x 1)) rfl (Nat.le_of_ble_eq_true rfl) (by decide) rfl (Nat.le_of_ble_eq_true rfl) rfl ?_
  refine LK_ld2 X dL_law_483 ?_
  refine LK_arg 1 X dL_law_484 dL_law_485 dL_law_486 dL_law_487 dL_law_488 rfl (hin 1 (by decide) (by decide)) ?_
  refine LK_M (rest := [.int (holdsZ Z (lw_a xs x 1)).1]) [.int (lw_a xs x 1)] X kL_44 dL_law_489 rfl (fun M cv => N_holds (d := 0) cv ok (lw_a xs x 1)) rfl (Nat.le_of_ble_eq_true rfl) (by decide) rfl (Nat.le_of_ble_eq_true rfl) rfl ?_
  refine LK_eq (tgt := 1610) X dL_law_492 (by decide) ?_
  exact next _ (zk_holds ok (lw_a xs x 1))
set_option maxRecDepth 20000 in
theorem LKc_6 (X : LX p s m meth c b L xs D dA ρ1 ρ2 nc ns) (hin : ∀ k : Int32, 0 ≤ k → k ≤ 5 → vp_in (x + k) L) {Z : ZS} (ok : Zok Z) (next : ∀ Z1 : ZS, Zok Z1 → LK p l e s m below meth c b D dA ρ1 ρ2 nc ns x 1610 [] Z1 Z1) : LK p l e s m below meth c b D dA ρ1 ρ2 nc ns x 497 [] Z Z := by
  refine LK_ld1 X dL_law_497 ?_
  refine LK_arg 1 X dL_law_498 dL_law_499 dL_law_500 dL_law_501 dL_law_502 rfl (hin 1 (by decide) (by decide)) ?_
  refine LK_arg 2 X dL_law_503 dL_law_504 dL_law_505 dL_law_506 dL_law_507 rfl (hin 2 (by decide) (by decide)) ?_
  refine LK_C (rest := []) [.int (lw_a xs x 1), .int (lw_a xs x 2)] X kL_45 dL_law_508 rfl (fun M cv => P_says (d := 0) cv ok (lw_a xs x 1) (lw_a xs x 2)) rfl (Nat.le_of_ble_eq_true rfl) (by decide) rfl (Nat.le_of_ble_eq_true rfl) rfl ?_
  refine LK_ld2 X dL_law_511 ?_
  refine LK_arg 1 X dL_law_512 dL_law_513 dL_law_514 dL_law_515 dL_law_516 rfl (hin 1 (by decide) (by decide)) ?_
  refine LK_arg 2 X dL_law_517 dL_law_518 dL_law_519 dL_law_520 dL_law_521 rfl (hin 2 (by decide) (by decide)) ?_
  refine LK_M (rest := [.int (saysZ Z (lw_a xs x 1) (lw_a xs x 2)).1]) [.int (lw_a xs x 1), .int (lw_a xs x 2)] X kL_48 dL_law_522 rfl (fun M cv => N_says (d := 0) cv ok (lw_a xs x 1) (lw_a xs x 2)) rfl (Nat.le_of_ble_eq_true rfl) (by decide) rfl (Nat.le_of_ble_eq_true rfl) rfl ?_
  refine LK_eq (tgt := 1610) X dL_law_525 (by decide) ?_
  exact next _ (zk_says ok (lw_a xs x 1) (lw_a xs x 2))
set_option maxRecDepth 20000 in
theorem LKc_7 (X : LX p s m meth c b L xs D dA ρ1 ρ2 nc ns) (hin : ∀ k : Int32, 0 ≤ k → k ≤ 5 → vp_in (x + k) L) {Z : ZS} (ok : Zok Z) (next : ∀ Z1 : ZS, Zok Z1 → LK p l e s m below meth c b D dA ρ1 ρ2 nc ns x 1610 [] Z1 Z1) : LK p l e s m below meth c b D dA ρ1 ρ2 nc ns x 530 [] Z Z := by
  refine LK_ld1 X dL_law_530 ?_
  refine LK_arg 1 X dL_law_531 dL_law_532 dL_law_533 dL_law_534 dL_law_535 rfl (hin 1 (by decide) (by decide)) ?_
  refine LK_C (rest := []) [.int (lw_a xs x 1)] X kL_49 dL_law_536 rfl (fun M cv => P_side (d := 0) cv ok (lw_a xs x 1)) rfl (Nat.le_of_ble_eq_true rfl) (by decide) rfl (Nat.le_of_ble_eq_true rfl) rfl ?_
  refine LK_ld2 X dL_law_539 ?_
  refine LK_arg 1 X dL_law_540 dL_law_541 dL_law_542 dL_law_543 dL_law_544 rfl (hin 1 (by decide) (by decide)) ?_
  refine LK_M (rest := [.int (sideZ Z (lw_a xs x 1)).1]) [.int (lw_a xs x 1)] X kL_52 dL_law_545 rfl (fun M cv => N_side (d := 0) cv ok (lw_a xs x 1)) rfl (Nat.le_of_ble_eq_true rfl) (by decide) rfl (Nat.le_of_ble_eq_true rfl) rfl ?_
  refine LK_eq (tgt := 1610) X dL_law_548 (by decide) ?_
  exact next _ (zk_side ok (lw_a xs x 1))
set_option maxRecDepth 20000 in
theorem LKc_8 (X : LX p s m meth c b L xs D dA ρ1 ρ2 nc ns) (hin : ∀ k : Int32, 0 ≤ k → k ≤ 5 → vp_in (x + k) L) {Z : ZS} (ok : Zok Z) (next : ∀ Z1 : ZS, Zok Z1 → LK p l e s m below meth c b D dA ρ1 ρ2 nc ns x 1610 [] Z1 Z1) : LK p l e s m below meth c b D dA ρ1 ρ2 nc ns x 553 [] Z Z := by
  refine LK_ld1 X dL_law_553 ?_
  refine LK_arg 1 X dL_law_554 dL_law_555 dL_law_556 dL_law_557 dL_law_558 rfl (hin 1 (by decide) (by decide)) ?_
  refine LK_arg 2 X dL_law_559 dL_law_560 dL_law_561 dL_law_562 dL_law_563 rfl (hin 2 (by decide) (by decide)) ?_
  refine LK_arg 3 X dL_law_564 dL_law_565 dL_law_566 dL_law_567 dL_law_568 rfl (hin 3 (by decide) (by decide)) ?_
  refine LK_C (rest := []) [.int (lw_a xs x 1), .int (lw_a xs x 2), .int (lw_a xs x 3)] X kL_53 dL_law_569 rfl (fun M cv => P_thing (d := 0) cv ok (lw_a xs x 1) (lw_a xs x 2) (lw_a xs x 3)) rfl (Nat.le_of_ble_eq_true rfl) (by decide) rfl (Nat.le_of_ble_eq_true rfl) rfl ?_
  refine LK_ld2 X dL_law_572 ?_
  refine LK_arg 1 X dL_law_573 dL_law_574 dL_law_575 dL_law_576 dL_law_577 rfl (hin 1 (by decide) (by decide)) ?_
  refine LK_arg 2 X dL_law_578 dL_law_579 dL_law_580 dL_law_581 dL_law_582 rfl (hin 2 (by decide) (by decide)) ?_
  refine LK_arg 3 X dL_law_583 dL_law_584 dL_law_585 dL_law_586 dL_law_587 rfl (hin 3 (by decide) (by decide)) ?_
  refine LK_M (rest := [.int (thingZ Z (lw_a xs x 1) (lw_a xs x 2) (lw_a xs x 3)).1]) [.int (lw_a xs x 1), .int (lw_a xs x 2), .int (lw_a xs x 3)] X kL_56 dL_law_588 rfl (fun M cv => N_thing (d := 0) cv ok (lw_a xs x 1) (lw_a xs x 2) (lw_a xs x 3)) rfl (Nat.le_of_ble_eq_true rfl) (by decide) rfl (Nat.le_of_ble_eq_true rfl) rfl ?_
  refine LK_eq (tgt := 1610) X dL_law_591 (by decide) ?_
  exact next _ (zk_thing ok (lw_a xs x 1) (lw_a xs x 2) (lw_a xs x 3))
set_option maxRecDepth 20000 in
theorem LKc_9 (X : LX p s m meth c b L xs D dA ρ1 ρ2 nc ns) (hin : ∀ k : Int32, 0 ≤ k → k ≤ 5 → vp_in (x + k) L) {Z : ZS} (ok : Zok Z) (next : ∀ Z1 : ZS, Zok Z1 → LK p l e s m below meth c b D dA ρ1 ρ2 nc ns x 1610 [] Z1 Z1) : LK p l e s m below meth c b D dA ρ1 ρ2 nc ns x 596 [] Z Z := by
  refine LK_ld1 X dL_law_596 ?_
  refine LK_arg 1 X dL_law_597 dL_law_598 dL_law_599 dL_law_600 dL_law_601 rfl (hin 1 (by decide) (by decide)) ?_
  refine LK_arg 2 X dL_law_602 dL_law_603 dL_law_604 dL_law_605 dL_law_606 rfl (hin 2 (by decide) (by decide)) ?_
  refine LK_C (rest := []) [.int (lw_a xs x 1), .int (lw_a xs x 2)] X kL_57 dL_law_607 rfl (fun M cv => P_neighbour (d := 0) cv ok (lw_a xs x 1) (lw_a xs x 2)) rfl (Nat.le_of_ble_eq_true rfl) (by decide) rfl (Nat.le_of_ble_eq_true rfl) rfl ?_
  refine LK_ld2 X dL_law_610 ?_
  refine LK_arg 1 X dL_law_611 dL_law_612 dL_law_613 dL_law_614 dL_law_615 rfl (hin 1 (by decide) (by decide)) ?_
  refine LK_arg 2 X dL_law_616 dL_law_617 dL_law_618 dL_law_619 dL_law_620 rfl (hin 2 (by decide) (by decide)) ?_
  refine LK_M (rest := [.int (neighZ Z (lw_a xs x 1) (lw_a xs x 2)).1]) [.int (lw_a xs x 1), .int (lw_a xs x 2)] X kL_60 dL_law_621 rfl (fun M cv => N_neighbour (d := 0) cv ok (lw_a xs x 1) (lw_a xs x 2)) rfl (Nat.le_of_ble_eq_true rfl) (by decide) rfl (Nat.le_of_ble_eq_true rfl) rfl ?_
  refine LK_eq (tgt := 1610) X dL_law_624 (by decide) ?_
  exact next _ (zk_neigh ok (lw_a xs x 1) (lw_a xs x 2))
set_option maxRecDepth 20000 in
theorem LKc_10 (X : LX p s m meth c b L xs D dA ρ1 ρ2 nc ns) (hin : ∀ k : Int32, 0 ≤ k → k ≤ 5 → vp_in (x + k) L) {Z : ZS} (ok : Zok Z) (next : ∀ Z1 : ZS, Zok Z1 → LK p l e s m below meth c b D dA ρ1 ρ2 nc ns x 1610 [] Z1 Z1) : LK p l e s m below meth c b D dA ρ1 ρ2 nc ns x 629 [] Z Z := by
  refine LK_ld1 X dL_law_629 ?_
  refine LK_arg 1 X dL_law_630 dL_law_631 dL_law_632 dL_law_633 dL_law_634 rfl (hin 1 (by decide) (by decide)) ?_
  refine LK_arg 2 X dL_law_635 dL_law_636 dL_law_637 dL_law_638 dL_law_639 rfl (hin 2 (by decide) (by decide)) ?_
  refine LK_arg 3 X dL_law_640 dL_law_641 dL_law_642 dL_law_643 dL_law_644 rfl (hin 3 (by decide) (by decide)) ?_
  refine LK_C (rest := []) [.int (lw_a xs x 1), .int (lw_a xs x 2), .int (lw_a xs x 3)] X kL_61 dL_law_645 rfl (fun M cv => P_device (d := 0) cv ok (lw_a xs x 1) (lw_a xs x 2) (lw_a xs x 3)) rfl (Nat.le_of_ble_eq_true rfl) (by decide) rfl (Nat.le_of_ble_eq_true rfl) rfl ?_
  refine LK_ld2 X dL_law_648 ?_
  refine LK_arg 1 X dL_law_649 dL_law_650 dL_law_651 dL_law_652 dL_law_653 rfl (hin 1 (by decide) (by decide)) ?_
  refine LK_arg 2 X dL_law_654 dL_law_655 dL_law_656 dL_law_657 dL_law_658 rfl (hin 2 (by decide) (by decide)) ?_
  refine LK_arg 3 X dL_law_659 dL_law_660 dL_law_661 dL_law_662 dL_law_663 rfl (hin 3 (by decide) (by decide)) ?_
  refine LK_M (rest := [.int (devZ Z (lw_a xs x 1) (lw_a xs x 2) (lw_a xs x 3)).1]) [.int (lw_a xs x 1), .int (lw_a xs x 2), .int (lw_a xs x 3)] X kL_64 dL_law_664 rfl (fun M cv => N_device (d := 0) cv ok (lw_a xs x 1) (lw_a xs x 2) (lw_a xs x 3)) rfl (Nat.le_of_ble_eq_true rfl) (by decide) rfl (Nat.le_of_ble_eq_true rfl) rfl ?_
  refine LK_eq (tgt := 1610) X dL_law_667 (by decide) ?_
  exact next _ (zk_dev ok (lw_a xs x 1) (lw_a xs x 2) (lw_a xs x 3))
set_option maxRecDepth 20000 in
theorem LKc_11 (X : LX p s m meth c b L xs D dA ρ1 ρ2 nc ns) (hin : ∀ k : Int32, 0 ≤ k → k ≤ 5 → vp_in (x + k) L) {Z : ZS} (ok : Zok Z) (next : ∀ Z1 : ZS, Zok Z1 → LK p l e s m below meth c b D dA ρ1 ρ2 nc ns x 1610 [] Z1 Z1) : LK p l e s m below meth c b D dA ρ1 ρ2 nc ns x 672 [] Z Z := by
  refine LK_ld1 X dL_law_672 ?_
  refine LK_arg 1 X dL_law_673 dL_law_674 dL_law_675 dL_law_676 dL_law_677 rfl (hin 1 (by decide) (by decide)) ?_
  refine LK_arg 2 X dL_law_678 dL_law_679 dL_law_680 dL_law_681 dL_law_682 rfl (hin 2 (by decide) (by decide)) ?_
  refine LK_C (rest := []) [.int (lw_a xs x 1), .int (lw_a xs x 2)] X kL_65 dL_law_683 rfl (fun M cv => P_box (d := 0) cv ok (lw_a xs x 1) (lw_a xs x 2)) rfl (Nat.le_of_ble_eq_true rfl) (by decide) rfl (Nat.le_of_ble_eq_true rfl) rfl ?_
  refine LK_ld2 X dL_law_686 ?_
  refine LK_arg 1 X dL_law_687 dL_law_688 dL_law_689 dL_law_690 dL_law_691 rfl (hin 1 (by decide) (by decide)) ?_
  refine LK_arg 2 X dL_law_692 dL_law_693 dL_law_694 dL_law_695 dL_law_696 rfl (hin 2 (by decide) (by decide)) ?_
  refine LK_M (rest := [.int (boxZ Z (lw_a xs x 1) (lw_a xs x 2)).1]) [.int (lw_a xs x 1), .int (lw_a xs x 2)] X kL_68 dL_law_697 rfl (fun M cv => N_box (d := 0) cv ok (lw_a xs x 1) (lw_a xs x 2)) rfl (Nat.le_of_ble_eq_true rfl) (by decide) rfl (Nat.le_of_ble_eq_true rfl) rfl ?_
  refine LK_eq (tgt := 1610) X dL_law_700 (by decide) ?_
  exact next _ (zk_box ok (lw_a xs x 1) (lw_a xs x 2))
set_option maxRecDepth 20000 in
theorem LKc_12 (X : LX p s m meth c b L xs D dA ρ1 ρ2 nc ns) (hin : ∀ k : Int32, 0 ≤ k → k ≤ 5 → vp_in (x + k) L) {Z : ZS} (ok : Zok Z) (next : ∀ Z1 : ZS, Zok Z1 → LK p l e s m below meth c b D dA ρ1 ρ2 nc ns x 1610 [] Z1 Z1) : LK p l e s m below meth c b D dA ρ1 ρ2 nc ns x 705 [] Z Z := by
  refine LK_ld1 X dL_law_705 ?_
  refine LK_arg 1 X dL_law_706 dL_law_707 dL_law_708 dL_law_709 dL_law_710 rfl (hin 1 (by decide) (by decide)) ?_
  refine LK_arg 2 X dL_law_711 dL_law_712 dL_law_713 dL_law_714 dL_law_715 rfl (hin 2 (by decide) (by decide)) ?_
  refine LK_C (rest := []) [.int (lw_a xs x 1), .int (lw_a xs x 2)] X kL_69 dL_law_716 rfl (fun M cv => P_ask (d := 0) cv ok (lw_a xs x 1) (lw_a xs x 2)) rfl (Nat.le_of_ble_eq_true rfl) (by decide) rfl (Nat.le_of_ble_eq_true rfl) rfl ?_
  refine LK_ld2 X dL_law_719 ?_
  refine LK_arg 1 X dL_law_720 dL_law_721 dL_law_722 dL_law_723 dL_law_724 rfl (hin 1 (by decide) (by decide)) ?_
  refine LK_arg 2 X dL_law_725 dL_law_726 dL_law_727 dL_law_728 dL_law_729 rfl (hin 2 (by decide) (by decide)) ?_
  refine LK_M (rest := [.int (askZ Z (lw_a xs x 1) (lw_a xs x 2)).1]) [.int (lw_a xs x 1), .int (lw_a xs x 2)] X kL_72 dL_law_730 rfl (fun M cv => N_ask (d := 0) cv ok (lw_a xs x 1) (lw_a xs x 2)) rfl (Nat.le_of_ble_eq_true rfl) (by decide) rfl (Nat.le_of_ble_eq_true rfl) rfl ?_
  refine LK_eq (tgt := 1610) X dL_law_733 (by decide) ?_
  exact next _ (zk_ask ok (lw_a xs x 1) (lw_a xs x 2))
set_option maxRecDepth 20000 in
theorem LKc_13 (X : LX p s m meth c b L xs D dA ρ1 ρ2 nc ns) (hin : ∀ k : Int32, 0 ≤ k → k ≤ 5 → vp_in (x + k) L) {Z : ZS} (ok : Zok Z) (next : ∀ Z1 : ZS, Zok Z1 → LK p l e s m below meth c b D dA ρ1 ρ2 nc ns x 1610 [] Z1 Z1) : LK p l e s m below meth c b D dA ρ1 ρ2 nc ns x 738 [] Z Z := by
  refine LK_ld1 X dL_law_738 ?_
  refine LK_arg 1 X dL_law_739 dL_law_740 dL_law_741 dL_law_742 dL_law_743 rfl (hin 1 (by decide) (by decide)) ?_
  refine LK_arg 2 X dL_law_744 dL_law_745 dL_law_746 dL_law_747 dL_law_748 rfl (hin 2 (by decide) (by decide)) ?_
  refine LK_nz X dL_law_749 dL_law_752 dL_law_753 dL_law_756 ?_
  refine LK_C (rest := []) [.int (lw_a xs x 1), .int (lw_nz (lw_a xs x 2))] X kL_73 dL_law_757 rfl (fun M cv => P_shut (d := 0) cv ok (lw_a xs x 1) (lw_nz (lw_a xs x 2)) (lw_nz01 _)) rfl (Nat.le_of_ble_eq_true rfl) (by decide) rfl (Nat.le_of_ble_eq_true rfl) rfl ?_
  refine LK_ld2 X dL_law_760 ?_
  refine LK_arg 1 X dL_law_761 dL_law_762 dL_law_763 dL_law_764 dL_law_765 rfl (hin 1 (by decide) (by decide)) ?_
  refine LK_arg 2 X dL_law_766 dL_law_767 dL_law_768 dL_law_769 dL_law_770 rfl (hin 2 (by decide) (by decide)) ?_
  refine LK_nz X dL_law_771 dL_law_774 dL_law_775 dL_law_778 ?_
  refine LK_M (rest := [.int (shutZ Z (lw_a xs x 1) (lw_nz (lw_a xs x 2))).1]) [.int (lw_a xs x 1), .int (lw_nz (lw_a xs x 2))] X kL_77 dL_law_779 rfl (fun M cv => N_shut (d := 0) cv ok (lw_a xs x 1) (lw_nz (lw_a xs x 2)) (lw_nz01 _)) rfl (Nat.le_of_ble_eq_true rfl) (by decide) rfl (Nat.le_of_ble_eq_true rfl) rfl ?_
  refine LK_eq (tgt := 1610) X dL_law_782 (by decide) ?_
  exact next _ (zk_shut ok (lw_a xs x 1) (lw_nz (lw_a xs x 2)) (lw_nz01 _))
set_option maxRecDepth 20000 in
theorem LKc_14 (X : LX p s m meth c b L xs D dA ρ1 ρ2 nc ns) (hin : ∀ k : Int32, 0 ≤ k → k ≤ 5 → vp_in (x + k) L) {Z : ZS} (ok : Zok Z) (next : ∀ Z1 : ZS, Zok Z1 → LK p l e s m below meth c b D dA ρ1 ρ2 nc ns x 1610 [] Z1 Z1) : LK p l e s m below meth c b D dA ρ1 ρ2 nc ns x 787 [] Z Z := by
  refine LK_ld1 X dL_law_787 ?_
  refine LK_arg 1 X dL_law_788 dL_law_789 dL_law_790 dL_law_791 dL_law_792 rfl (hin 1 (by decide) (by decide)) ?_
  refine LK_arg 2 X dL_law_793 dL_law_794 dL_law_795 dL_law_796 dL_law_797 rfl (hin 2 (by decide) (by decide)) ?_
  refine LK_C (rest := []) [.int (lw_a xs x 1), .int (lw_a xs x 2)] X kL_78 dL_law_798 rfl (fun M cv => P_move (d := 0) cv ok (lw_a xs x 1) (lw_a xs x 2)) rfl (Nat.le_of_ble_eq_true rfl) (by decide) rfl (Nat.le_of_ble_eq_true rfl) rfl ?_
  refine LK_ld2 X dL_law_801 ?_
  refine LK_arg 1 X dL_law_802 dL_law_803 dL_law_804 dL_law_805 dL_law_806 rfl (hin 1 (by decide) (by decide)) ?_
  refine LK_arg 2 X dL_law_807 dL_law_808 dL_law_809 dL_law_810 dL_law_811 rfl (hin 2 (by decide) (by decide)) ?_
  refine LK_M (rest := [.int (moveZ Z (lw_a xs x 1) (lw_a xs x 2)).1]) [.int (lw_a xs x 1), .int (lw_a xs x 2)] X kL_81 dL_law_812 rfl (fun M cv => N_move (d := 0) cv ok (lw_a xs x 1) (lw_a xs x 2)) rfl (Nat.le_of_ble_eq_true rfl) (by decide) rfl (Nat.le_of_ble_eq_true rfl) rfl ?_
  refine LK_eq (tgt := 1610) X dL_law_815 (by decide) ?_
  exact next _ (zk_move ok (lw_a xs x 1) (lw_a xs x 2))
set_option maxRecDepth 20000 in
theorem LKc_15 (X : LX p s m meth c b L xs D dA ρ1 ρ2 nc ns) (hin : ∀ k : Int32, 0 ≤ k → k ≤ 5 → vp_in (x + k) L) {Z : ZS} (ok : Zok Z) (next : ∀ Z1 : ZS, Zok Z1 → LK p l e s m below meth c b D dA ρ1 ρ2 nc ns x 1610 [] Z1 Z1) : LK p l e s m below meth c b D dA ρ1 ρ2 nc ns x 820 [] Z Z := by
  refine LK_ld1 X dL_law_820 ?_
  refine LK_arg 1 X dL_law_821 dL_law_822 dL_law_823 dL_law_824 dL_law_825 rfl (hin 1 (by decide) (by decide)) ?_
  refine LK_arg 2 X dL_law_826 dL_law_827 dL_law_828 dL_law_829 dL_law_830 rfl (hin 2 (by decide) (by decide)) ?_
  refine LK_C (rest := []) [.int (lw_a xs x 1), .int (lw_a xs x 2)] X kL_82 dL_law_831 rfl (fun M cv => P_thingOf (d := 0) cv ok (lw_a xs x 1) (lw_a xs x 2)) rfl (Nat.le_of_ble_eq_true rfl) (by decide) rfl (Nat.le_of_ble_eq_true rfl) rfl ?_
  refine LK_ld2 X dL_law_834 ?_
  refine LK_arg 1 X dL_law_835 dL_law_836 dL_law_837 dL_law_838 dL_law_839 rfl (hin 1 (by decide) (by decide)) ?_
  refine LK_arg 2 X dL_law_840 dL_law_841 dL_law_842 dL_law_843 dL_law_844 rfl (hin 2 (by decide) (by decide)) ?_
  refine LK_M (rest := [.int (tofZ Z (lw_a xs x 1) (lw_a xs x 2)).1]) [.int (lw_a xs x 1), .int (lw_a xs x 2)] X kL_85 dL_law_845 rfl (fun M cv => N_thingOf (d := 0) cv ok (lw_a xs x 1) (lw_a xs x 2)) rfl (Nat.le_of_ble_eq_true rfl) (by decide) rfl (Nat.le_of_ble_eq_true rfl) rfl ?_
  refine LK_eq (tgt := 1610) X dL_law_848 (by decide) ?_
  exact next _ (zk_tof ok (lw_a xs x 1) (lw_a xs x 2))
set_option maxRecDepth 20000 in
theorem LKc_16 (X : LX p s m meth c b L xs D dA ρ1 ρ2 nc ns) (hin : ∀ k : Int32, 0 ≤ k → k ≤ 5 → vp_in (x + k) L) {Z : ZS} (ok : Zok Z) (next : ∀ Z1 : ZS, Zok Z1 → LK p l e s m below meth c b D dA ρ1 ρ2 nc ns x 1610 [] Z1 Z1) : LK p l e s m below meth c b D dA ρ1 ρ2 nc ns x 853 [] Z Z := by
  refine LK_ld1 X dL_law_853 ?_
  refine LK_arg 1 X dL_law_854 dL_law_855 dL_law_856 dL_law_857 dL_law_858 rfl (hin 1 (by decide) (by decide)) ?_
  refine LK_arg 2 X dL_law_859 dL_law_860 dL_law_861 dL_law_862 dL_law_863 rfl (hin 2 (by decide) (by decide)) ?_
  refine LK_C (rest := []) [.int (lw_a xs x 1), .int (lw_a xs x 2)] X kL_86 dL_law_864 rfl (fun M cv => P_deviceOf (d := 0) cv ok (lw_a xs x 1) (lw_a xs x 2)) rfl (Nat.le_of_ble_eq_true rfl) (by decide) rfl (Nat.le_of_ble_eq_true rfl) rfl ?_
  refine LK_ld2 X dL_law_867 ?_
  refine LK_arg 1 X dL_law_868 dL_law_869 dL_law_870 dL_law_871 dL_law_872 rfl (hin 1 (by decide) (by decide)) ?_
  refine LK_arg 2 X dL_law_873 dL_law_874 dL_law_875 dL_law_876 dL_law_877 rfl (hin 2 (by decide) (by decide)) ?_
  refine LK_M (rest := [.int (dofZ Z (lw_a xs x 1) (lw_a xs x 2)).1]) [.int (lw_a xs x 1), .int (lw_a xs x 2)] X kL_89 dL_law_878 rfl (fun M cv => N_deviceOf (d := 0) cv ok (lw_a xs x 1) (lw_a xs x 2)) rfl (Nat.le_of_ble_eq_true rfl) (by decide) rfl (Nat.le_of_ble_eq_true rfl) rfl ?_
  refine LK_eq (tgt := 1610) X dL_law_881 (by decide) ?_
  exact next _ (zk_dof ok (lw_a xs x 1) (lw_a xs x 2))
set_option maxRecDepth 20000 in
theorem LKc_17 (X : LX p s m meth c b L xs D dA ρ1 ρ2 nc ns) (hin : ∀ k : Int32, 0 ≤ k → k ≤ 5 → vp_in (x + k) L) {Z : ZS} (ok : Zok Z) (next : ∀ Z1 : ZS, Zok Z1 → LK p l e s m below meth c b D dA ρ1 ρ2 nc ns x 1610 [] Z1 Z1) : LK p l e s m below meth c b D dA ρ1 ρ2 nc ns x 886 [] Z Z := by
  refine LK_ld1 X dL_law_886 ?_
  refine LK_arg 1 X dL_law_887 dL_law_888 dL_law_889 dL_law_890 dL_law_891 rfl (hin 1 (by decide) (by decide)) ?_
  refine LK_C (rest := []) [.int (lw_a xs x 1)] X kL_90 dL_law_892 rfl (fun M cv => P_house (d := 0) cv ok (lw_a xs x 1)) rfl (Nat.le_of_ble_eq_true rfl) (by decide) rfl (Nat.le_of_ble_eq_true rfl) rfl ?_
  refine LK_ld2 X dL_law_895 ?_
  refine LK_arg 1 X dL_law_896 dL_law_897 dL_law_898 dL_law_899 dL_law_900 rfl (hin 1 (by decide) (by decide)) ?_
  refine LK_M (rest := [.int (houseZ Z (lw_a xs x 1)).1]) [.int (lw_a xs x 1)] X kL_93 dL_law_901 rfl (fun M cv => N_house (d := 0) cv ok (lw_a xs x 1)) rfl (Nat.le_of_ble_eq_true rfl) (by decide) rfl (Nat.le_of_ble_eq_true rfl) rfl ?_
  refine LK_eq (tgt := 1610) X dL_law_904 (by decide) ?_
  exact next _ (zk_house ok (lw_a xs x 1))
set_option maxRecDepth 20000 in
theorem LKc_18 (X : LX p s m meth c b L xs D dA ρ1 ρ2 nc ns) (hin : ∀ k : Int32, 0 ≤ k → k ≤ 5 → vp_in (x + k) L) {Z : ZS} (ok : Zok Z) (next : ∀ Z1 : ZS, Zok Z1 → LK p l e s m below meth c b D dA ρ1 ρ2 nc ns x 1610 [] Z1 Z1) : LK p l e s m below meth c b D dA ρ1 ρ2 nc ns x 909 [] Z Z := by
  refine LK_ld1 X dL_law_909 ?_
  refine LK_C (rest := []) [] X kL_94 dL_law_910 rfl (fun M cv => P_fault (d := 0) cv ok ) rfl (Nat.le_of_ble_eq_true rfl) (by decide) rfl (Nat.le_of_ble_eq_true rfl) rfl ?_
  refine LK_ld2 X dL_law_913 ?_
  refine LK_M (rest := [.int (faultZ Z).1]) [] X kL_98 dL_law_914 rfl (fun M cv => N_fault (d := 0) cv ok ) rfl (Nat.le_of_ble_eq_true rfl) (by decide) rfl (Nat.le_of_ble_eq_true rfl) rfl ?_
  refine LK_eq (tgt := 1610) X dL_law_917 (by decide) ?_
  exact next _ (zk_fault ok )
set_option maxRecDepth 20000 in
theorem LKc_19 (X : LX p s m meth c b L xs D dA ρ1 ρ2 nc ns) (hin : ∀ k : Int32, 0 ≤ k → k ≤ 5 → vp_in (x + k) L) {Z : ZS} (ok : Zok Z) (next : ∀ Z1 : ZS, Zok Z1 → LK p l e s m below meth c b D dA ρ1 ρ2 nc ns x 1610 [] Z1 Z1) : LK p l e s m below meth c b D dA ρ1 ρ2 nc ns x 922 [] Z Z := by
  refine LK_ld1 X dL_law_922 ?_
  refine LK_arg 1 X dL_law_923 dL_law_924 dL_law_925 dL_law_926 dL_law_927 rfl (hin 1 (by decide) (by decide)) ?_
  refine LK_arg 2 X dL_law_928 dL_law_929 dL_law_930 dL_law_931 dL_law_932 rfl (hin 2 (by decide) (by decide)) ?_
  refine LK_arg 3 X dL_law_933 dL_law_934 dL_law_935 dL_law_936 dL_law_937 rfl (hin 3 (by decide) (by decide)) ?_
  refine LK_C (rest := []) [.int (lw_a xs x 1), .int (lw_a xs x 2), .int (lw_a xs x 3)] X kL_99 dL_law_938 rfl (fun M cv => P_bars (d := 0) cv ok (lw_a xs x 1) (lw_a xs x 2) (lw_a xs x 3)) rfl (Nat.le_of_ble_eq_true rfl) (by decide) rfl (Nat.le_of_ble_eq_true rfl) rfl ?_
  refine LK_ld2 X dL_law_941 ?_
  refine LK_arg 1 X dL_law_942 dL_law_943 dL_law_944 dL_law_945 dL_law_946 rfl (hin 1 (by decide) (by decide)) ?_
  refine LK_arg 2 X dL_law_947 dL_law_948 dL_law_949 dL_law_950 dL_law_951 rfl (hin 2 (by decide) (by decide)) ?_
  refine LK_arg 3 X dL_law_952 dL_law_953 dL_law_954 dL_law_955 dL_law_956 rfl (hin 3 (by decide) (by decide)) ?_
  refine LK_M (rest := [.int (barsZ Z (lw_a xs x 1) (lw_a xs x 2) (lw_a xs x 3)).1]) [.int (lw_a xs x 1), .int (lw_a xs x 2), .int (lw_a xs x 3)] X kL_102 dL_law_957 rfl (fun M cv => N_bars (d := 0) cv ok (lw_a xs x 1) (lw_a xs x 2) (lw_a xs x 3)) rfl (Nat.le_of_ble_eq_true rfl) (by decide) rfl (Nat.le_of_ble_eq_true rfl) rfl ?_
  refine LK_eq (tgt := 1610) X dL_law_960 (by decide) ?_
  exact next _ (zk_bars ok (lw_a xs x 1) (lw_a xs x 2) (lw_a xs x 3))
set_option maxRecDepth 20000 in
theorem LKc_20 (X : LX p s m meth c b L xs D dA ρ1 ρ2 nc ns) (hin : ∀ k : Int32, 0 ≤ k → k ≤ 5 → vp_in (x + k) L) {Z : ZS} (ok : Zok Z) (next : ∀ Z1 : ZS, Zok Z1 → LK p l e s m below meth c b D dA ρ1 ρ2 nc ns x 1610 [] Z1 Z1) : LK p l e s m below meth c b D dA ρ1 ρ2 nc ns x 965 [] Z Z := by
  refine LK_ld1 X dL_law_965 ?_
  refine LK_arg 1 X dL_law_966 dL_law_967 dL_law_968 dL_law_969 dL_law_970 rfl (hin 1 (by decide) (by decide)) ?_
  refine LK_arg 2 X dL_law_971 dL_law_972 dL_law_973 dL_law_974 dL_law_975 rfl (hin 2 (by decide) (by decide)) ?_
  refine LK_arg 3 X dL_law_976 dL_law_977 dL_law_978 dL_law_979 dL_law_980 rfl (hin 3 (by decide) (by decide)) ?_
  refine LK_C (rest := []) [.int (lw_a xs x 1), .int (lw_a xs x 2), .int (lw_a xs x 3)] X kL_103 dL_law_981 rfl (fun M cv => P_way (d := 0) cv ok (lw_a xs x 1) (lw_a xs x 2) (lw_a xs x 3)) rfl (Nat.le_of_ble_eq_true rfl) (by decide) rfl (Nat.le_of_ble_eq_true rfl) rfl ?_
  refine LK_ld2 X dL_law_984 ?_
  refine LK_arg 1 X dL_law_985 dL_law_986 dL_law_987 dL_law_988 dL_law_989 rfl (hin 1 (by decide) (by decide)) ?_
  refine LK_arg 2 X dL_law_990 dL_law_991 dL_law_992 dL_law_993 dL_law_994 rfl (hin 2 (by decide) (by decide)) ?_
  refine LK_arg 3 X dL_law_995 dL_law_996 dL_law_997 dL_law_998 dL_law_999 rfl (hin 3 (by decide) (by decide)) ?_
  refine LK_M (rest := [.int (wayZ Z (lw_a xs x 1) (lw_a xs x 2) (lw_a xs x 3)).1]) [.int (lw_a xs x 1), .int (lw_a xs x 2), .int (lw_a xs x 3)] X kL_106 dL_law_1000 rfl (fun M cv => N_way (d := 0) cv ok (lw_a xs x 1) (lw_a xs x 2) (lw_a xs x 3)) rfl (Nat.le_of_ble_eq_true rfl) (by decide) rfl (Nat.le_of_ble_eq_true rfl) rfl ?_
  refine LK_eq (tgt := 1610) X dL_law_1003 (by decide) ?_
  exact next _ (zk_way ok (lw_a xs x 1) (lw_a xs x 2) (lw_a xs x 3))
set_option maxRecDepth 20000 in
theorem LKc_21 (X : LX p s m meth c b L xs D dA ρ1 ρ2 nc ns) (hin : ∀ k : Int32, 0 ≤ k → k ≤ 5 → vp_in (x + k) L) {Z : ZS} (ok : Zok Z) (next : ∀ Z1 : ZS, Zok Z1 → LK p l e s m below meth c b D dA ρ1 ρ2 nc ns x 1610 [] Z1 Z1) : LK p l e s m below meth c b D dA ρ1 ρ2 nc ns x 1008 [] Z Z := by
  refine LK_ld1 X dL_law_1008 ?_
  refine LK_arg 1 X dL_law_1009 dL_law_1010 dL_law_1011 dL_law_1012 dL_law_1013 rfl (hin 1 (by decide) (by decide)) ?_
  refine LK_arg 2 X dL_law_1014 dL_law_1015 dL_law_1016 dL_law_1017 dL_law_1018 rfl (hin 2 (by decide) (by decide)) ?_
  refine LK_C (rest := []) [.int (lw_a xs x 1), .int (lw_a xs x 2)] X kL_107 dL_law_1019 rfl (fun M cv => P_hum (d := 0) cv ok (lw_a xs x 1) (lw_a xs x 2)) rfl (Nat.le_of_ble_eq_true rfl) (by decide) rfl (Nat.le_of_ble_eq_true rfl) rfl ?_
  refine LK_ld2 X dL_law_1022 ?_
  refine LK_arg 1 X dL_law_1023 dL_law_1024 dL_law_1025 dL_law_1026 dL_law_1027 rfl (hin 1 (by decide) (by decide)) ?_
  refine LK_arg 2 X dL_law_1028 dL_law_1029 dL_law_1030 dL_law_1031 dL_law_1032 rfl (hin 2 (by decide) (by decide)) ?_
  refine LK_M (rest := [.int (humZ Z (lw_a xs x 1) (lw_a xs x 2)).1]) [.int (lw_a xs x 1), .int (lw_a xs x 2)] X kL_110 dL_law_1033 rfl (fun M cv => N_hum (d := 0) cv ok (lw_a xs x 1) (lw_a xs x 2)) rfl (Nat.le_of_ble_eq_true rfl) (by decide) rfl (Nat.le_of_ble_eq_true rfl) rfl ?_
  refine LK_eq (tgt := 1610) X dL_law_1036 (by decide) ?_
  exact next _ (zk_hum ok (lw_a xs x 1) (lw_a xs x 2))
set_option maxRecDepth 20000 in
theorem LKc_22 (X : LX p s m meth c b L xs D dA ρ1 ρ2 nc ns) (hin : ∀ k : Int32, 0 ≤ k → k ≤ 5 → vp_in (x + k) L) {Z : ZS} (ok : Zok Z) (next : ∀ Z1 : ZS, Zok Z1 → LK p l e s m below meth c b D dA ρ1 ρ2 nc ns x 1610 [] Z1 Z1) : LK p l e s m below meth c b D dA ρ1 ρ2 nc ns x 1041 [] Z Z := by
  refine LK_ld1 X dL_law_1041 ?_
  refine LK_arg 1 X dL_law_1042 dL_law_1043 dL_law_1044 dL_law_1045 dL_law_1046 rfl (hin 1 (by decide) (by decide)) ?_
  refine LK_C (rest := []) [.int (lw_a xs x 1)] X kL_111 dL_law_1047 rfl (fun M cv => P_filled (d := 0) cv ok (lw_a xs x 1)) rfl (Nat.le_of_ble_eq_true rfl) (by decide) rfl (Nat.le_of_ble_eq_true rfl) rfl ?_
  refine LK_ld2 X dL_law_1050 ?_
  refine LK_arg 1 X dL_law_1051 dL_law_1052 dL_law_1053 dL_law_1054 dL_law_1055 rfl (hin 1 (by decide) (by decide)) ?_
  refine LK_M (rest := [.int (filledZ Z (lw_a xs x 1)).1]) [.int (lw_a xs x 1)] X kL_114 dL_law_1056 rfl (fun M cv => N_filled (d := 0) cv ok (lw_a xs x 1)) rfl (Nat.le_of_ble_eq_true rfl) (by decide) rfl (Nat.le_of_ble_eq_true rfl) rfl ?_
  refine LK_eq (tgt := 1610) X dL_law_1059 (by decide) ?_
  exact next _ (zk_filled ok (lw_a xs x 1))
set_option maxRecDepth 20000 in
theorem LKc_23 (X : LX p s m meth c b L xs D dA ρ1 ρ2 nc ns) (hin : ∀ k : Int32, 0 ≤ k → k ≤ 5 → vp_in (x + k) L) {Z : ZS} (ok : Zok Z) (next : ∀ Z1 : ZS, Zok Z1 → LK p l e s m below meth c b D dA ρ1 ρ2 nc ns x 1610 [] Z1 Z1) : LK p l e s m below meth c b D dA ρ1 ρ2 nc ns x 1064 [] Z Z := by
  refine LK_ld1 X dL_law_1064 ?_
  refine LK_arg 1 X dL_law_1065 dL_law_1066 dL_law_1067 dL_law_1068 dL_law_1069 rfl (hin 1 (by decide) (by decide)) ?_
  refine LK_C (rest := []) [.int (lw_a xs x 1)] X kL_115 dL_law_1070 rfl (fun M cv => P_put (d := 0) cv ok (lw_a xs x 1)) rfl (Nat.le_of_ble_eq_true rfl) (by decide) rfl (Nat.le_of_ble_eq_true rfl) rfl ?_
  refine LK_ld2 X dL_law_1073 ?_
  refine LK_arg 1 X dL_law_1074 dL_law_1075 dL_law_1076 dL_law_1077 dL_law_1078 rfl (hin 1 (by decide) (by decide)) ?_
  refine LK_M (rest := [.int (putZ Z (lw_a xs x 1)).1]) [.int (lw_a xs x 1)] X kL_118 dL_law_1079 rfl (fun M cv => N_put (d := 0) cv ok (lw_a xs x 1)) rfl (Nat.le_of_ble_eq_true rfl) (by decide) rfl (Nat.le_of_ble_eq_true rfl) rfl ?_
  refine LK_eq (tgt := 1610) X dL_law_1082 (by decide) ?_
  exact next _ (zk_put ok (lw_a xs x 1))
set_option maxRecDepth 20000 in
theorem LKc_24 (X : LX p s m meth c b L xs D dA ρ1 ρ2 nc ns) (hin : ∀ k : Int32, 0 ≤ k → k ≤ 5 → vp_in (x + k) L) {Z : ZS} (ok : Zok Z) (next : ∀ Z1 : ZS, Zok Z1 → LK p l e s m below meth c b D dA ρ1 ρ2 nc ns x 1610 [] Z1 Z1) : LK p l e s m below meth c b D dA ρ1 ρ2 nc ns x 1087 [] Z Z := by
  refine LK_ld1 X dL_law_1087 ?_
  refine LK_C (rest := []) [] X kL_119 dL_law_1088 rfl (fun M cv => P_channel (d := 0) cv ok ) rfl (Nat.le_of_ble_eq_true rfl) (by decide) rfl (Nat.le_of_ble_eq_true rfl) rfl ?_
  refine LK_ld2 X dL_law_1091 ?_
  refine LK_M (rest := [.int (channelZ Z).1]) [] X kL_122 dL_law_1092 rfl (fun M cv => N_channel (d := 0) cv ok ) rfl (Nat.le_of_ble_eq_true rfl) (by decide) rfl (Nat.le_of_ble_eq_true rfl) rfl ?_
  refine LK_eq (tgt := 1610) X dL_law_1095 (by decide) ?_
  exact next _ (zk_channel ok )
set_option maxRecDepth 20000 in
theorem LKc_25 (X : LX p s m meth c b L xs D dA ρ1 ρ2 nc ns) (hin : ∀ k : Int32, 0 ≤ k → k ≤ 5 → vp_in (x + k) L) {Z : ZS} (ok : Zok Z) (next : ∀ Z1 : ZS, Zok Z1 → LK p l e s m below meth c b D dA ρ1 ρ2 nc ns x 1610 [] Z1 Z1) : LK p l e s m below meth c b D dA ρ1 ρ2 nc ns x 1100 [] Z Z := by
  refine LK_ld1 X dL_law_1100 ?_
  refine LK_C (rest := []) [] X kL_123 dL_law_1101 rfl (fun M cv => P_rests (d := 0) cv ok ) rfl (Nat.le_of_ble_eq_true rfl) (by decide) rfl (Nat.le_of_ble_eq_true rfl) rfl ?_
  refine LK_ld2 X dL_law_1104 ?_
  refine LK_M (rest := [.int (restsZ Z).1]) [] X kL_126 dL_law_1105 rfl (fun M cv => N_rests (d := 0) cv ok ) rfl (Nat.le_of_ble_eq_true rfl) (by decide) rfl (Nat.le_of_ble_eq_true rfl) rfl ?_
  refine LK_eq (tgt := 1610) X dL_law_1108 (by decide) ?_
  exact next _ (zk_rests ok )
set_option maxRecDepth 20000 in
theorem LKc_26 (X : LX p s m meth c b L xs D dA ρ1 ρ2 nc ns) (hin : ∀ k : Int32, 0 ≤ k → k ≤ 5 → vp_in (x + k) L) {Z : ZS} (ok : Zok Z) (next : ∀ Z1 : ZS, Zok Z1 → LK p l e s m below meth c b D dA ρ1 ρ2 nc ns x 1610 [] Z1 Z1) : LK p l e s m below meth c b D dA ρ1 ρ2 nc ns x 1113 [] Z Z := by
  refine LK_ld1 X dL_law_1113 ?_
  refine LK_arg 1 X dL_law_1114 dL_law_1115 dL_law_1116 dL_law_1117 dL_law_1118 rfl (hin 1 (by decide) (by decide)) ?_
  refine LK_arg 2 X dL_law_1119 dL_law_1120 dL_law_1121 dL_law_1122 dL_law_1123 rfl (hin 2 (by decide) (by decide)) ?_
  refine LK_C (rest := []) [.int (lw_a xs x 1), .int (lw_a xs x 2)] X kL_127 dL_law_1124 rfl (fun M cv => P_goesTo (d := 0) cv ok (lw_a xs x 1) (lw_a xs x 2)) rfl (Nat.le_of_ble_eq_true rfl) (by decide) rfl (Nat.le_of_ble_eq_true rfl) rfl ?_
  refine LK_ld2 X dL_law_1127 ?_
  refine LK_arg 1 X dL_law_1128 dL_law_1129 dL_law_1130 dL_law_1131 dL_law_1132 rfl (hin 1 (by decide) (by decide)) ?_
  refine LK_arg 2 X dL_law_1133 dL_law_1134 dL_law_1135 dL_law_1136 dL_law_1137 rfl (hin 2 (by decide) (by decide)) ?_
  refine LK_M (rest := [.int (goesZ Z (lw_a xs x 1) (lw_a xs x 2)).1]) [.int (lw_a xs x 1), .int (lw_a xs x 2)] X kL_130 dL_law_1138 rfl (fun M cv => N_goesTo (d := 0) cv ok (lw_a xs x 1) (lw_a xs x 2)) rfl (Nat.le_of_ble_eq_true rfl) (by decide) rfl (Nat.le_of_ble_eq_true rfl) rfl ?_
  refine LK_eq (tgt := 1610) X dL_law_1141 (by decide) ?_
  exact next _ (zk_goes ok (lw_a xs x 1) (lw_a xs x 2))
set_option maxRecDepth 20000 in
theorem LKc_27 (X : LX p s m meth c b L xs D dA ρ1 ρ2 nc ns) (hin : ∀ k : Int32, 0 ≤ k → k ≤ 5 → vp_in (x + k) L) {Z : ZS} (ok : Zok Z) (next : ∀ Z1 : ZS, Zok Z1 → LK p l e s m below meth c b D dA ρ1 ρ2 nc ns x 1610 [] Z1 Z1) : LK p l e s m below meth c b D dA ρ1 ρ2 nc ns x 1146 [] Z Z := by
  refine LK_ld1 X dL_law_1146 ?_
  refine LK_C (rest := []) [] X kL_131 dL_law_1147 rfl (fun M cv => P_moved (d := 0) cv ok ) rfl (Nat.le_of_ble_eq_true rfl) (by decide) rfl (Nat.le_of_ble_eq_true rfl) rfl ?_
  refine LK_ld2 X dL_law_1150 ?_
  refine LK_M (rest := [.int (movedZ Z).1]) [] X kL_134 dL_law_1151 rfl (fun M cv => N_moved (d := 0) cv ok ) rfl (Nat.le_of_ble_eq_true rfl) (by decide) rfl (Nat.le_of_ble_eq_true rfl) rfl ?_
  refine LK_eq (tgt := 1610) X dL_law_1154 (by decide) ?_
  exact next _ (zk_moved ok )
set_option maxRecDepth 20000 in
theorem LKc_28 (X : LX p s m meth c b L xs D dA ρ1 ρ2 nc ns) (hin : ∀ k : Int32, 0 ≤ k → k ≤ 5 → vp_in (x + k) L) {Z : ZS} (ok : Zok Z) (next : ∀ Z1 : ZS, Zok Z1 → LK p l e s m below meth c b D dA ρ1 ρ2 nc ns x 1610 [] Z1 Z1) : LK p l e s m below meth c b D dA ρ1 ρ2 nc ns x 1159 [] Z Z := by
  refine LK_ld1 X dL_law_1159 ?_
  refine LK_C (rest := []) [] X kL_135 dL_law_1160 rfl (fun M cv => P_doors (d := 0) cv ok ) rfl (Nat.le_of_ble_eq_true rfl) (by decide) rfl (Nat.le_of_ble_eq_true rfl) rfl ?_
  refine LK_ld2 X dL_law_1163 ?_
  refine LK_M (rest := [.int (doorsZ Z).1]) [] X kL_138 dL_law_1164 rfl (fun M cv => N_doors (d := 0) cv ok ) rfl (Nat.le_of_ble_eq_true rfl) (by decide) rfl (Nat.le_of_ble_eq_true rfl) rfl ?_
  refine LK_eq (tgt := 1610) X dL_law_1167 (by decide) ?_
  exact next _ (zk_doors ok )
set_option maxRecDepth 20000 in
theorem LKc_29 (X : LX p s m meth c b L xs D dA ρ1 ρ2 nc ns) (hin : ∀ k : Int32, 0 ≤ k → k ≤ 5 → vp_in (x + k) L) {Z : ZS} (ok : Zok Z) (next : ∀ Z1 : ZS, Zok Z1 → LK p l e s m below meth c b D dA ρ1 ρ2 nc ns x 1610 [] Z1 Z1) : LK p l e s m below meth c b D dA ρ1 ρ2 nc ns x 1172 [] Z Z := by
  refine LK_ld1 X dL_law_1172 ?_
  refine LK_arg 1 X dL_law_1173 dL_law_1174 dL_law_1175 dL_law_1176 dL_law_1177 rfl (hin 1 (by decide) (by decide)) ?_
  refine LK_C (rest := []) [.int (lw_a xs x 1)] X kL_139 dL_law_1178 rfl (fun M cv => P_count (d := 0) cv ok (lw_a xs x 1)) rfl (Nat.le_of_ble_eq_true rfl) (by decide) rfl (Nat.le_of_ble_eq_true rfl) rfl ?_
  refine LK_ld2 X dL_law_1181 ?_
  refine LK_arg 1 X dL_law_1182 dL_law_1183 dL_law_1184 dL_law_1185 dL_law_1186 rfl (hin 1 (by decide) (by decide)) ?_
  refine LK_M (rest := [.int (countZ Z (lw_a xs x 1)).1]) [.int (lw_a xs x 1)] X kL_142 dL_law_1187 rfl (fun M cv => N_count (d := 0) cv ok (lw_a xs x 1)) rfl (Nat.le_of_ble_eq_true rfl) (by decide) rfl (Nat.le_of_ble_eq_true rfl) rfl ?_
  refine LK_eq (tgt := 1610) X dL_law_1190 (by decide) ?_
  exact next _ (zk_count ok (lw_a xs x 1))
set_option maxRecDepth 20000 in
theorem LKc_30 (X : LX p s m meth c b L xs D dA ρ1 ρ2 nc ns) (hin : ∀ k : Int32, 0 ≤ k → k ≤ 5 → vp_in (x + k) L) {Z : ZS} (ok : Zok Z) (next : ∀ Z1 : ZS, Zok Z1 → LK p l e s m below meth c b D dA ρ1 ρ2 nc ns x 1610 [] Z1 Z1) : LK p l e s m below meth c b D dA ρ1 ρ2 nc ns x 1195 [] Z Z := by
  refine LK_ld1 X dL_law_1195 ?_
  refine LK_arg 1 X dL_law_1196 dL_law_1197 dL_law_1198 dL_law_1199 dL_law_1200 rfl (hin 1 (by decide) (by decide)) ?_
  refine LK_arg 2 X dL_law_1201 dL_law_1202 dL_law_1203 dL_law_1204 dL_law_1205 rfl (hin 2 (by decide) (by decide)) ?_
  refine LK_arg 3 X dL_law_1206 dL_law_1207 dL_law_1208 dL_law_1209 dL_law_1210 rfl (hin 3 (by decide) (by decide)) ?_
  refine LK_C (rest := []) [.int (lw_a xs x 1), .int (lw_a xs x 2), .int (lw_a xs x 3)] X kL_143 dL_law_1211 rfl (fun M cv => P_fits (d := 0) cv ok (lw_a xs x 1) (lw_a xs x 2) (lw_a xs x 3)) rfl (Nat.le_of_ble_eq_true rfl) (by decide) rfl (Nat.le_of_ble_eq_true rfl) rfl ?_
  refine LK_ld2 X dL_law_1214 ?_
  refine LK_arg 1 X dL_law_1215 dL_law_1216 dL_law_1217 dL_law_1218 dL_law_1219 rfl (hin 1 (by decide) (by decide)) ?_
  refine LK_arg 2 X dL_law_1220 dL_law_1221 dL_law_1222 dL_law_1223 dL_law_1224 rfl (hin 2 (by decide) (by decide)) ?_
  refine LK_arg 3 X dL_law_1225 dL_law_1226 dL_law_1227 dL_law_1228 dL_law_1229 rfl (hin 3 (by decide) (by decide)) ?_
  refine LK_M (rest := [.int (fitsZ Z (lw_a xs x 1) (lw_a xs x 2) (lw_a xs x 3)).1]) [.int (lw_a xs x 1), .int (lw_a xs x 2), .int (lw_a xs x 3)] X kL_146 dL_law_1230 rfl (fun M cv => N_fits (d := 0) cv ok (lw_a xs x 1) (lw_a xs x 2) (lw_a xs x 3)) rfl (Nat.le_of_ble_eq_true rfl) (by decide) rfl (Nat.le_of_ble_eq_true rfl) rfl ?_
  refine LK_eq (tgt := 1610) X dL_law_1233 (by decide) ?_
  exact next _ (zk_fits ok (lw_a xs x 1) (lw_a xs x 2) (lw_a xs x 3))
set_option maxRecDepth 20000 in
theorem LKc_31 (X : LX p s m meth c b L xs D dA ρ1 ρ2 nc ns) (hin : ∀ k : Int32, 0 ≤ k → k ≤ 5 → vp_in (x + k) L) {Z : ZS} (ok : Zok Z) (next : ∀ Z1 : ZS, Zok Z1 → LK p l e s m below meth c b D dA ρ1 ρ2 nc ns x 1610 [] Z1 Z1) : LK p l e s m below meth c b D dA ρ1 ρ2 nc ns x 1238 [] Z Z := by
  refine LK_ld1 X dL_law_1238 ?_
  refine LK_arg 1 X dL_law_1239 dL_law_1240 dL_law_1241 dL_law_1242 dL_law_1243 rfl (hin 1 (by decide) (by decide)) ?_
  refine LK_arg 2 X dL_law_1244 dL_law_1245 dL_law_1246 dL_law_1247 dL_law_1248 rfl (hin 2 (by decide) (by decide)) ?_
  refine LK_C (rest := []) [.int (lw_a xs x 1), .int (lw_a xs x 2)] X kL_147 dL_law_1249 rfl (fun M cv => P_next (d := 0) cv ok (lw_a xs x 1) (lw_a xs x 2)) rfl (Nat.le_of_ble_eq_true rfl) (by decide) rfl (Nat.le_of_ble_eq_true rfl) rfl ?_
  refine LK_ld2 X dL_law_1252 ?_
  refine LK_arg 1 X dL_law_1253 dL_law_1254 dL_law_1255 dL_law_1256 dL_law_1257 rfl (hin 1 (by decide) (by decide)) ?_
  refine LK_arg 2 X dL_law_1258 dL_law_1259 dL_law_1260 dL_law_1261 dL_law_1262 rfl (hin 2 (by decide) (by decide)) ?_
  refine LK_M (rest := [.int (nextZ Z (lw_a xs x 1) (lw_a xs x 2)).1]) [.int (lw_a xs x 1), .int (lw_a xs x 2)] X kL_150 dL_law_1263 rfl (fun M cv => N_next (d := 0) cv ok (lw_a xs x 1) (lw_a xs x 2)) rfl (Nat.le_of_ble_eq_true rfl) (by decide) rfl (Nat.le_of_ble_eq_true rfl) rfl ?_
  refine LK_eq (tgt := 1610) X dL_law_1266 (by decide) ?_
  exact next _ (zk_next ok (lw_a xs x 1) (lw_a xs x 2))
set_option maxRecDepth 20000 in
theorem LKc_32 (X : LX p s m meth c b L xs D dA ρ1 ρ2 nc ns) (hin : ∀ k : Int32, 0 ≤ k → k ≤ 5 → vp_in (x + k) L) {Z : ZS} (ok : Zok Z) (next : ∀ Z1 : ZS, Zok Z1 → LK p l e s m below meth c b D dA ρ1 ρ2 nc ns x 1610 [] Z1 Z1) : LK p l e s m below meth c b D dA ρ1 ρ2 nc ns x 1271 [] Z Z := by
  refine LK_ld1 X dL_law_1271 ?_
  refine LK_arg 1 X dL_law_1272 dL_law_1273 dL_law_1274 dL_law_1275 dL_law_1276 rfl (hin 1 (by decide) (by decide)) ?_
  refine LK_arg 2 X dL_law_1277 dL_law_1278 dL_law_1279 dL_law_1280 dL_law_1281 rfl (hin 2 (by decide) (by decide)) ?_
  refine LK_C (rest := []) [.int (lw_a xs x 1), .int (lw_a xs x 2)] X kL_151 dL_law_1282 rfl (fun M cv => P_near (d := 0) cv ok (lw_a xs x 1) (lw_a xs x 2)) rfl (Nat.le_of_ble_eq_true rfl) (by decide) rfl (Nat.le_of_ble_eq_true rfl) rfl ?_
  refine LK_ld2 X dL_law_1285 ?_
  refine LK_arg 1 X dL_law_1286 dL_law_1287 dL_law_1288 dL_law_1289 dL_law_1290 rfl (hin 1 (by decide) (by decide)) ?_
  refine LK_arg 2 X dL_law_1291 dL_law_1292 dL_law_1293 dL_law_1294 dL_law_1295 rfl (hin 2 (by decide) (by decide)) ?_
  refine LK_M (rest := [.int (nearZ Z (lw_a xs x 1) (lw_a xs x 2)).1]) [.int (lw_a xs x 1), .int (lw_a xs x 2)] X kL_154 dL_law_1296 rfl (fun M cv => N_near (d := 0) cv ok (lw_a xs x 1) (lw_a xs x 2)) rfl (Nat.le_of_ble_eq_true rfl) (by decide) rfl (Nat.le_of_ble_eq_true rfl) rfl ?_
  refine LK_eq (tgt := 1610) X dL_law_1299 (by decide) ?_
  exact next _ (zk_near ok (lw_a xs x 1) (lw_a xs x 2))
set_option maxRecDepth 20000 in
theorem LKc_33 (X : LX p s m meth c b L xs D dA ρ1 ρ2 nc ns) (hin : ∀ k : Int32, 0 ≤ k → k ≤ 5 → vp_in (x + k) L) {Z : ZS} (ok : Zok Z) (next : ∀ Z1 : ZS, Zok Z1 → LK p l e s m below meth c b D dA ρ1 ρ2 nc ns x 1610 [] Z1 Z1) : LK p l e s m below meth c b D dA ρ1 ρ2 nc ns x 1304 [] Z Z := by
  refine LK_ld1 X dL_law_1304 ?_
  refine LK_C (rest := []) [] X kL_155 dL_law_1305 rfl (fun M cv => P_minute (d := 0) cv ok ) rfl (Nat.le_of_ble_eq_true rfl) (by decide) rfl (Nat.le_of_ble_eq_true rfl) rfl ?_
  refine LK_ld2 X dL_law_1308 ?_
  refine LK_M (rest := [.int (minuteZ Z).1]) [] X kL_158 dL_law_1309 rfl (fun M cv => N_minute (d := 0) cv ok ) rfl (Nat.le_of_ble_eq_true rfl) (by decide) rfl (Nat.le_of_ble_eq_true rfl) rfl ?_
  refine LK_eq (tgt := 1610) X dL_law_1312 (by decide) ?_
  exact next _ (zk_minute ok )
set_option maxRecDepth 20000 in
theorem LKc_34 (X : LX p s m meth c b L xs D dA ρ1 ρ2 nc ns) (hin : ∀ k : Int32, 0 ≤ k → k ≤ 5 → vp_in (x + k) L) {Z : ZS} (ok : Zok Z) (next : ∀ Z1 : ZS, Zok Z1 → LK p l e s m below meth c b D dA ρ1 ρ2 nc ns x 1610 [] Z1 Z1) : LK p l e s m below meth c b D dA ρ1 ρ2 nc ns x 1317 [] Z Z := by
  refine LK_ld1 X dL_law_1317 ?_
  refine LK_arg 1 X dL_law_1318 dL_law_1319 dL_law_1320 dL_law_1321 dL_law_1322 rfl (hin 1 (by decide) (by decide)) ?_
  refine LK_C (rest := []) [.int (lw_a xs x 1)] X kL_159 dL_law_1323 rfl (fun M cv => P_blame (d := 0) cv ok (lw_a xs x 1)) rfl (Nat.le_of_ble_eq_true rfl) (by decide) rfl (Nat.le_of_ble_eq_true rfl) rfl ?_
  refine LK_ld2 X dL_law_1326 ?_
  refine LK_arg 1 X dL_law_1327 dL_law_1328 dL_law_1329 dL_law_1330 dL_law_1331 rfl (hin 1 (by decide) (by decide)) ?_
  refine LK_M (rest := [.int (blameZ Z (lw_a xs x 1)).1]) [.int (lw_a xs x 1)] X kL_162 dL_law_1332 rfl (fun M cv => N_blame (d := 0) cv ok (lw_a xs x 1)) rfl (Nat.le_of_ble_eq_true rfl) (by decide) rfl (Nat.le_of_ble_eq_true rfl) rfl ?_
  refine LK_eq (tgt := 1610) X dL_law_1335 (by decide) ?_
  exact next _ (zk_blame ok (lw_a xs x 1))
set_option maxRecDepth 20000 in
theorem LKc_35 (X : LX p s m meth c b L xs D dA ρ1 ρ2 nc ns) (hin : ∀ k : Int32, 0 ≤ k → k ≤ 5 → vp_in (x + k) L) {Z : ZS} (ok : Zok Z) (next : ∀ Z1 : ZS, Zok Z1 → LK p l e s m below meth c b D dA ρ1 ρ2 nc ns x 1610 [] Z1 Z1) : LK p l e s m below meth c b D dA ρ1 ρ2 nc ns x 1340 [] Z Z := by
  refine LK_ld1 X dL_law_1340 ?_
  refine LK_arg 1 X dL_law_1341 dL_law_1342 dL_law_1343 dL_law_1344 dL_law_1345 rfl (hin 1 (by decide) (by decide)) ?_
  refine LK_arg 2 X dL_law_1346 dL_law_1347 dL_law_1348 dL_law_1349 dL_law_1350 rfl (hin 2 (by decide) (by decide)) ?_
  refine LK_C (rest := []) [.int (lw_a xs x 1), .int (lw_a xs x 2)] X kL_163 dL_law_1351 rfl (fun M cv => P_judge (d := 0) cv ok (lw_a xs x 1) (lw_a xs x 2)) rfl (Nat.le_of_ble_eq_true rfl) (by decide) rfl (Nat.le_of_ble_eq_true rfl) rfl ?_
  refine LK_ld2 X dL_law_1354 ?_
  refine LK_arg 1 X dL_law_1355 dL_law_1356 dL_law_1357 dL_law_1358 dL_law_1359 rfl (hin 1 (by decide) (by decide)) ?_
  refine LK_arg 2 X dL_law_1360 dL_law_1361 dL_law_1362 dL_law_1363 dL_law_1364 rfl (hin 2 (by decide) (by decide)) ?_
  refine LK_M (rest := [.int (judgeZ Z (lw_a xs x 1) (lw_a xs x 2)).1]) [.int (lw_a xs x 1), .int (lw_a xs x 2)] X kL_166 dL_law_1365 rfl (fun M cv => N_judge (d := 0) cv ok (lw_a xs x 1) (lw_a xs x 2)) rfl (Nat.le_of_ble_eq_true rfl) (by decide) rfl (Nat.le_of_ble_eq_true rfl) rfl ?_
  refine LK_eq (tgt := 1610) X dL_law_1368 (by decide) ?_
  exact next _ (zk_judge ok (lw_a xs x 1) (lw_a xs x 2))
set_option maxRecDepth 20000 in
theorem LKc_36 (X : LX p s m meth c b L xs D dA ρ1 ρ2 nc ns) (hin : ∀ k : Int32, 0 ≤ k → k ≤ 5 → vp_in (x + k) L) {Z : ZS} (ok : Zok Z) (next : ∀ Z1 : ZS, Zok Z1 → LK p l e s m below meth c b D dA ρ1 ρ2 nc ns x 1610 [] Z1 Z1) : LK p l e s m below meth c b D dA ρ1 ρ2 nc ns x 1373 [] Z Z := by
  refine LK_ld1 X dL_law_1373 ?_
  refine LK_arg 1 X dL_law_1374 dL_law_1375 dL_law_1376 dL_law_1377 dL_law_1378 rfl (hin 1 (by decide) (by decide)) ?_
  refine LK_arg 2 X dL_law_1379 dL_law_1380 dL_law_1381 dL_law_1382 dL_law_1383 rfl (hin 2 (by decide) (by decide)) ?_
  refine LK_arg 3 X dL_law_1384 dL_law_1385 dL_law_1386 dL_law_1387 dL_law_1388 rfl (hin 3 (by decide) (by decide)) ?_
  refine LK_C (rest := []) [.int (lw_a xs x 1), .int (lw_a xs x 2), .int (lw_a xs x 3)] X kL_167 dL_law_1389 rfl (fun M cv => P_hops (d := 0) cv ok (lw_a xs x 1) (lw_a xs x 2) (lw_a xs x 3)) rfl (Nat.le_of_ble_eq_true rfl) (by decide) rfl (Nat.le_of_ble_eq_true rfl) rfl ?_
  refine LK_ld2 X dL_law_1392 ?_
  refine LK_arg 1 X dL_law_1393 dL_law_1394 dL_law_1395 dL_law_1396 dL_law_1397 rfl (hin 1 (by decide) (by decide)) ?_
  refine LK_arg 2 X dL_law_1398 dL_law_1399 dL_law_1400 dL_law_1401 dL_law_1402 rfl (hin 2 (by decide) (by decide)) ?_
  refine LK_arg 3 X dL_law_1403 dL_law_1404 dL_law_1405 dL_law_1406 dL_law_1407 rfl (hin 3 (by decide) (by decide)) ?_
  refine LK_M (rest := [.int (hopsZ Z (lw_a xs x 1) (lw_a xs x 2) (lw_a xs x 3)).1]) [.int (lw_a xs x 1), .int (lw_a xs x 2), .int (lw_a xs x 3)] X kL_170 dL_law_1408 rfl (fun M cv => N_hops (d := 0) cv ok (lw_a xs x 1) (lw_a xs x 2) (lw_a xs x 3)) rfl (Nat.le_of_ble_eq_true rfl) (by decide) rfl (Nat.le_of_ble_eq_true rfl) rfl ?_
  refine LK_eq (tgt := 1610) X dL_law_1411 (by decide) ?_
  exact next _ (zk_hops ok (lw_a xs x 1) (lw_a xs x 2) (lw_a xs x 3))
set_option maxRecDepth 20000 in
theorem LKc_37 (X : LX p s m meth c b L xs D dA ρ1 ρ2 nc ns) (hin : ∀ k : Int32, 0 ≤ k → k ≤ 5 → vp_in (x + k) L) {Z : ZS} (ok : Zok Z) (next : ∀ Z1 : ZS, Zok Z1 → LK p l e s m below meth c b D dA ρ1 ρ2 nc ns x 1610 [] Z1 Z1) : LK p l e s m below meth c b D dA ρ1 ρ2 nc ns x 1416 [] Z Z := by
  refine LK_ld1 X dL_law_1416 ?_
  refine LK_arg 1 X dL_law_1417 dL_law_1418 dL_law_1419 dL_law_1420 dL_law_1421 rfl (hin 1 (by decide) (by decide)) ?_
  refine LK_arg 2 X dL_law_1422 dL_law_1423 dL_law_1424 dL_law_1425 dL_law_1426 rfl (hin 2 (by decide) (by decide)) ?_
  refine LK_C (rest := []) [.int (lw_a xs x 1), .int (lw_a xs x 2)] X kL_171 dL_law_1427 rfl (fun M cv => P_evening (d := 0) cv ok (lw_a xs x 1) (lw_a xs x 2)) rfl (Nat.le_of_ble_eq_true rfl) (by decide) rfl (Nat.le_of_ble_eq_true rfl) rfl ?_
  refine LK_ld2 X dL_law_1430 ?_
  refine LK_arg 1 X dL_law_1431 dL_law_1432 dL_law_1433 dL_law_1434 dL_law_1435 rfl (hin 1 (by decide) (by decide)) ?_
  refine LK_arg 2 X dL_law_1436 dL_law_1437 dL_law_1438 dL_law_1439 dL_law_1440 rfl (hin 2 (by decide) (by decide)) ?_
  refine LK_M (rest := [.int (evenZ Z (lw_a xs x 1) (lw_a xs x 2)).1]) [.int (lw_a xs x 1), .int (lw_a xs x 2)] X kL_174 dL_law_1441 rfl (fun M cv => N_evening (d := 0) cv ok (lw_a xs x 1) (lw_a xs x 2)) rfl (Nat.le_of_ble_eq_true rfl) (by decide) rfl (Nat.le_of_ble_eq_true rfl) rfl ?_
  refine LK_eq (tgt := 1610) X dL_law_1444 (by decide) ?_
  exact next _ (zk_even ok (lw_a xs x 1) (lw_a xs x 2))
set_option maxRecDepth 20000 in
theorem LKc_38 (X : LX p s m meth c b L xs D dA ρ1 ρ2 nc ns) (hin : ∀ k : Int32, 0 ≤ k → k ≤ 5 → vp_in (x + k) L) {Z : ZS} (ok : Zok Z) (next : ∀ Z1 : ZS, Zok Z1 → LK p l e s m below meth c b D dA ρ1 ρ2 nc ns x 1610 [] Z1 Z1) : LK p l e s m below meth c b D dA ρ1 ρ2 nc ns x 1449 [] Z Z := by
  refine LK_ld1 X dL_law_1449 ?_
  refine LK_arg 1 X dL_law_1450 dL_law_1451 dL_law_1452 dL_law_1453 dL_law_1454 rfl (hin 1 (by decide) (by decide)) ?_
  refine LK_C (rest := []) [.int (lw_a xs x 1)] X kL_175 dL_law_1455 rfl (fun M cv => P_weeks (d := 0) cv ok (lw_a xs x 1)) rfl (Nat.le_of_ble_eq_true rfl) (by decide) rfl (Nat.le_of_ble_eq_true rfl) rfl ?_
  refine LK_ld2 X dL_law_1458 ?_
  refine LK_arg 1 X dL_law_1459 dL_law_1460 dL_law_1461 dL_law_1462 dL_law_1463 rfl (hin 1 (by decide) (by decide)) ?_
  refine LK_M (rest := [.int (weekZ Z (lw_a xs x 1)).1]) [.int (lw_a xs x 1)] X kL_178 dL_law_1464 rfl (fun M cv => N_weeks (d := 0) cv ok (lw_a xs x 1)) rfl (Nat.le_of_ble_eq_true rfl) (by decide) rfl (Nat.le_of_ble_eq_true rfl) rfl ?_
  refine LK_eq (tgt := 1610) X dL_law_1467 (by decide) ?_
  exact next _ (zk_week ok (lw_a xs x 1))
set_option maxRecDepth 20000 in
theorem LKc_39 (X : LX p s m meth c b L xs D dA ρ1 ρ2 nc ns) (hin : ∀ k : Int32, 0 ≤ k → k ≤ 5 → vp_in (x + k) L) {Z : ZS} (ok : Zok Z) (next : ∀ Z1 : ZS, Zok Z1 → LK p l e s m below meth c b D dA ρ1 ρ2 nc ns x 1610 [] Z1 Z1) : LK p l e s m below meth c b D dA ρ1 ρ2 nc ns x 1472 [] Z Z := by
  refine LK_ld1 X dL_law_1472 ?_
  refine LK_arg 1 X dL_law_1473 dL_law_1474 dL_law_1475 dL_law_1476 dL_law_1477 rfl (hin 1 (by decide) (by decide)) ?_
  refine LK_C (rest := []) [.int (lw_a xs x 1)] X kL_179 dL_law_1478 rfl (fun M cv => P_seed (d := 0) cv ok (lw_a xs x 1)) rfl (Nat.le_of_ble_eq_true rfl) (by decide) rfl (Nat.le_of_ble_eq_true rfl) rfl ?_
  refine LK_ld2 X dL_law_1481 ?_
  refine LK_arg 1 X dL_law_1482 dL_law_1483 dL_law_1484 dL_law_1485 dL_law_1486 rfl (hin 1 (by decide) (by decide)) ?_
  refine LK_M (rest := [.int (seedZ Z (lw_a xs x 1)).1]) [.int (lw_a xs x 1)] X kL_182 dL_law_1487 rfl (fun M cv => N_seed (d := 0) cv ok (lw_a xs x 1)) rfl (Nat.le_of_ble_eq_true rfl) (by decide) rfl (Nat.le_of_ble_eq_true rfl) rfl ?_
  refine LK_eq (tgt := 1610) X dL_law_1490 (by decide) ?_
  exact next _ (zk_seed ok (lw_a xs x 1))
set_option maxRecDepth 20000 in
theorem LKc_40 (X : LX p s m meth c b L xs D dA ρ1 ρ2 nc ns) (hin : ∀ k : Int32, 0 ≤ k → k ≤ 5 → vp_in (x + k) L) {Z : ZS} (ok : Zok Z) (next : ∀ Z1 : ZS, Zok Z1 → LK p l e s m below meth c b D dA ρ1 ρ2 nc ns x 1610 [] Z1 Z1) : LK p l e s m below meth c b D dA ρ1 ρ2 nc ns x 1495 [] Z Z := by
  refine LK_ld1 X dL_law_1495 ?_
  refine LK_arg 1 X dL_law_1496 dL_law_1497 dL_law_1498 dL_law_1499 dL_law_1500 rfl (hin 1 (by decide) (by decide)) ?_
  refine LK_arg 2 X dL_law_1501 dL_law_1502 dL_law_1503 dL_law_1504 dL_law_1505 rfl (hin 2 (by decide) (by decide)) ?_
  refine LK_arg 3 X dL_law_1506 dL_law_1507 dL_law_1508 dL_law_1509 dL_law_1510 rfl (hin 3 (by decide) (by decide)) ?_
  refine LK_C (rest := []) [.int (lw_a xs x 1), .int (lw_a xs x 2), .int (lw_a xs x 3)] X kL_183 dL_law_1511 rfl (fun M cv => P_act (d := 0) cv ok (lw_a xs x 1) (lw_a xs x 2) (lw_a xs x 3)) rfl (Nat.le_of_ble_eq_true rfl) (by decide) rfl (Nat.le_of_ble_eq_true rfl) rfl ?_
  refine LK_ld2 X dL_law_1514 ?_
  refine LK_arg 1 X dL_law_1515 dL_law_1516 dL_law_1517 dL_law_1518 dL_law_1519 rfl (hin 1 (by decide) (by decide)) ?_
  refine LK_arg 2 X dL_law_1520 dL_law_1521 dL_law_1522 dL_law_1523 dL_law_1524 rfl (hin 2 (by decide) (by decide)) ?_
  refine LK_arg 3 X dL_law_1525 dL_law_1526 dL_law_1527 dL_law_1528 dL_law_1529 rfl (hin 3 (by decide) (by decide)) ?_
  refine LK_M (rest := [.int (actZ Z (lw_a xs x 1) (lw_a xs x 2) (lw_a xs x 3)).1]) [.int (lw_a xs x 1), .int (lw_a xs x 2), .int (lw_a xs x 3)] X kL_186 dL_law_1530 rfl (fun M cv => N_act (d := 0) cv ok (lw_a xs x 1) (lw_a xs x 2) (lw_a xs x 3)) rfl (Nat.le_of_ble_eq_true rfl) (by decide) rfl (Nat.le_of_ble_eq_true rfl) rfl ?_
  refine LK_eq (tgt := 1610) X dL_law_1533 (by decide) ?_
  exact next _ (zk_act ok (lw_a xs x 1) (lw_a xs x 2) (lw_a xs x 3))
set_option maxRecDepth 20000 in
theorem LKc_41 (X : LX p s m meth c b L xs D dA ρ1 ρ2 nc ns) (hin : ∀ k : Int32, 0 ≤ k → k ≤ 5 → vp_in (x + k) L) {Z : ZS} (ok : Zok Z) (next : ∀ Z1 : ZS, Zok Z1 → LK p l e s m below meth c b D dA ρ1 ρ2 nc ns x 1610 [] Z1 Z1) : LK p l e s m below meth c b D dA ρ1 ρ2 nc ns x 1538 [] Z Z := by
  refine LK_ld1 X dL_law_1538 ?_
  refine LK_arg 1 X dL_law_1539 dL_law_1540 dL_law_1541 dL_law_1542 dL_law_1543 rfl (hin 1 (by decide) (by decide)) ?_
  refine LK_C (rest := []) [.int (lw_a xs x 1)] X kL_187 dL_law_1544 rfl (fun M cv => P_trace (d := 0) cv ok (lw_a xs x 1)) rfl (Nat.le_of_ble_eq_true rfl) (by decide) rfl (Nat.le_of_ble_eq_true rfl) rfl ?_
  refine LK_ld2 X dL_law_1547 ?_
  refine LK_arg 1 X dL_law_1548 dL_law_1549 dL_law_1550 dL_law_1551 dL_law_1552 rfl (hin 1 (by decide) (by decide)) ?_
  refine LK_M (rest := [.int (traceZ Z (lw_a xs x 1)).1]) [.int (lw_a xs x 1)] X kL_190 dL_law_1553 rfl (fun M cv => N_trace (d := 0) cv ok (lw_a xs x 1)) rfl (Nat.le_of_ble_eq_true rfl) (by decide) rfl (Nat.le_of_ble_eq_true rfl) rfl ?_
  refine LK_eq (tgt := 1610) X dL_law_1556 (by decide) ?_
  exact next _ (zk_trace ok (lw_a xs x 1))
set_option maxRecDepth 20000 in
theorem LKc_42 (X : LX p s m meth c b L xs D dA ρ1 ρ2 nc ns) (hin : ∀ k : Int32, 0 ≤ k → k ≤ 5 → vp_in (x + k) L) {Z : ZS} (ok : Zok Z) (next : ∀ Z1 : ZS, Zok Z1 → LK p l e s m below meth c b D dA ρ1 ρ2 nc ns x 1610 [] Z1 Z1) : LK p l e s m below meth c b D dA ρ1 ρ2 nc ns x 1561 [] Z Z := by
  refine LK_ld1 X dL_law_1561 ?_
  refine LK_C (rest := []) [] X kL_191 dL_law_1562 rfl (fun M cv => P_image (d := 0) cv ok ) rfl (Nat.le_of_ble_eq_true rfl) (by decide) rfl (Nat.le_of_ble_eq_true rfl) rfl ?_
  refine LK_ld2 X dL_law_1565 ?_
  refine LK_M (rest := [.int (imageZ Z).1]) [] X kL_194 dL_law_1566 rfl (fun M cv => N_image (d := 0) cv ok ) rfl (Nat.le_of_ble_eq_true rfl) (by decide) rfl (Nat.le_of_ble_eq_true rfl) rfl ?_
  refine LK_eq (tgt := 1610) X dL_law_1569 (by decide) ?_
  exact next _ (zk_image ok )
set_option maxRecDepth 20000 in
theorem LKc_43 (X : LX p s m meth c b L xs D dA ρ1 ρ2 nc ns) (hin : ∀ k : Int32, 0 ≤ k → k ≤ 5 → vp_in (x + k) L) {Z : ZS} (ok : Zok Z) (next : ∀ Z1 : ZS, Zok Z1 → LK p l e s m below meth c b D dA ρ1 ρ2 nc ns x 1610 [] Z1 Z1) : LK p l e s m below meth c b D dA ρ1 ρ2 nc ns x 1574 [] Z Z := by
  refine LK_ld1 X dL_law_1574 ?_
  refine LK_C (rest := []) [] X kL_195 dL_law_1575 rfl (fun M cv => P_restore (d := 0) cv ok ) rfl (Nat.le_of_ble_eq_true rfl) (by decide) rfl (Nat.le_of_ble_eq_true rfl) rfl ?_
  refine LK_ld2 X dL_law_1578 ?_
  refine LK_M (rest := [.int (restoreZ Z).1]) [] X kL_198 dL_law_1579 rfl (fun M cv => N_restore (d := 0) cv ok ) rfl (Nat.le_of_ble_eq_true rfl) (by decide) rfl (Nat.le_of_ble_eq_true rfl) rfl ?_
  refine LK_eq (tgt := 1610) X dL_law_1582 (by decide) ?_
  exact next _ (zk_restore ok )
set_option maxRecDepth 20000 in
theorem LKc_44 (X : LX p s m meth c b L xs D dA ρ1 ρ2 nc ns) (hin : ∀ k : Int32, 0 ≤ k → k ≤ 5 → vp_in (x + k) L) {Z : ZS} (ok : Zok Z) (next : ∀ Z1 : ZS, Zok Z1 → LK p l e s m below meth c b D dA ρ1 ρ2 nc ns x 1610 [] Z1 Z1) : LK p l e s m below meth c b D dA ρ1 ρ2 nc ns x 1587 [] Z Z := by
  refine LK_ld1 X dL_law_1587 ?_
  refine LK_arg 1 X dL_law_1588 dL_law_1589 dL_law_1590 dL_law_1591 dL_law_1592 rfl (hin 1 (by decide) (by decide)) ?_
  refine LK_C (rest := []) [.int (lw_a xs x 1)] X kL_199 dL_law_1593 rfl (fun M cv => P_status (d := 0) cv ok (lw_a xs x 1)) rfl (Nat.le_of_ble_eq_true rfl) (by decide) rfl (Nat.le_of_ble_eq_true rfl) rfl ?_
  refine LK_ld2 X dL_law_1596 ?_
  refine LK_arg 1 X dL_law_1597 dL_law_1598 dL_law_1599 dL_law_1600 dL_law_1601 rfl (hin 1 (by decide) (by decide)) ?_
  refine LK_M (rest := [.int (statZ Z (lw_a xs x 1)).1]) [.int (lw_a xs x 1)] X kL_202 dL_law_1602 rfl (fun M cv => N_status (d := 0) cv ok (lw_a xs x 1)) rfl (Nat.le_of_ble_eq_true rfl) (by decide) rfl (Nat.le_of_ble_eq_true rfl) rfl ?_
  refine LK_eq (tgt := 1610) X dL_law_1605 (by decide) ?_
  exact next _ (zk_stat ok (lw_a xs x 1))
end LCS
