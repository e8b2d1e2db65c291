theorem case_0 {K : KT} {b i L : Nat} {xs : Nat → Int32} {Q : State → Prop} {cs : Nat × Nat} {hp : PH} (G : GL K b L xs) (hi : i + 7 ≤ L) (hc : cs.1 + 5 ≤ room_1.cells ∧ cs.2 + 26 ≤ room_1.slots) (hLI : LI hp.1 (hget hp)) (kk : ∀ hp2 : PH, LI hp2.1 (hget hp2) → WpB K b i Q (cs.1 + 5, cs.2 + 26) 1600 [] hp2) : WpB K b i Q cs 188 [] hp := by
  refine wb_widen (cs' := (cs.1 + 5, cs.2 + 26)) (Nat.le_add_right _ _) (Nat.le_add_right _ _) ?_
  refine wb_x G dL_law_188 ?_
  refine wb_argC G 1 rfl dL_law_189 dL_law_190 dL_law_191 dL_law_192 dL_law_193 (by omega) ?_
  refine wb_argC G 2 rfl dL_law_194 dL_law_195 dL_law_196 dL_law_197 dL_law_198 (by omega) ?_
  refine wb_argC G 3 rfl dL_law_199 dL_law_200 dL_law_201 dL_law_202 dL_law_203 (by omega) ?_
  refine wb_argC G 4 rfl dL_law_204 dL_law_205 dL_law_206 dL_law_207 dL_law_208 (by omega) ?_
  refine wb_argC G 5 rfl dL_law_209 dL_law_210 dL_law_211 dL_law_212 dL_law_213 (by omega) ?_
  refine wb_argP G 6 rfl (by decide) dL_law_214 dL_law_215 dL_law_216 dL_law_218 dL_law_219 (by omega) ?_
  refine wb_c1 (as := [zI (xz xs (i + 1)), zI (xz xs (i + 2)), zI (xz xs (i + 3)), zI (xz xs (i + 4)), zI (xz xs (i + 5)), zI (xz xs (i + 6))]) (rest := []) G (pr_quake (xz_r _ _) (xz_r _ _) (xz_r _ _) (xz_r _ _) (xz_r _ _) (xz_r _ _) hLI) hLI mX9_quake lL_13 iX9_quake eX9_quake ⟨_, rfl, rfl⟩ dL_law_220 rfl rfl (Nat.le_of_ble_eq_true rfl) (by decide) hc (fun z hp1 P2 => ?_)
  refine wb_m G dL_law_223 ?_
  refine wb_argC G 1 rfl dL_law_224 dL_law_225 dL_law_226 dL_law_227 dL_law_228 (by omega) ?_
  refine wb_argC G 2 rfl dL_law_229 dL_law_230 dL_law_231 dL_law_232 dL_law_233 (by omega) ?_
  refine wb_argC G 3 rfl dL_law_234 dL_law_235 dL_law_236 dL_law_237 dL_law_238 (by omega) ?_
  refine wb_argC G 4 rfl dL_law_239 dL_law_240 dL_law_241 dL_law_242 dL_law_243 (by omega) ?_
  refine wb_argC G 5 rfl dL_law_244 dL_law_245 dL_law_246 dL_law_247 dL_law_248 (by omega) ?_
  refine wb_argP G 6 rfl (by decide) dL_law_249 dL_law_250 dL_law_251 dL_law_253 dL_law_254 (by omega) ?_
  refine wb_c2 (as := [zI (xz xs (i + 1)), zI (xz xs (i + 2)), zI (xz xs (i + 3)), zI (xz xs (i + 4)), zI (xz xs (i + 5)), zI (xz xs (i + 6))]) (rest := [zI z]) G P2 mX10_quake lL_17 iX10_quake eX10_quake ⟨_, rfl, rfl⟩ dL_law_255 rfl rfl (Nat.le_of_ble_eq_true rfl) (by decide) hc (fun hp2 h2 => ?_)
  refine wb_eqI G dL_law_258 ?_
  exact kk hp2 h2

theorem case_1 {K : KT} {b i L : Nat} {xs : Nat → Int32} {Q : State → Prop} {cs : Nat × Nat} {hp : PH} (G : GL K b L xs) (hi : i + 7 ≤ L) (hc : cs.1 + 5 ≤ room_1.cells ∧ cs.2 + 26 ≤ room_1.slots) (hLI : LI hp.1 (hget hp)) (kk : ∀ hp2 : PH, LI hp2.1 (hget hp2) → WpB K b i Q (cs.1 + 5, cs.2 + 26) 1600 [] hp2) : WpB K b i Q cs 263 [] hp := by
  refine wb_widen (cs' := (cs.1 + 5, cs.2 + 26)) (Nat.le_add_right _ _) (Nat.le_add_right _ _) ?_
  refine wb_x G dL_law_263 ?_
  refine wb_argC G 1 rfl dL_law_264 dL_law_265 dL_law_266 dL_law_267 dL_law_268 (by omega) ?_
  refine wb_argC G 2 rfl dL_law_269 dL_law_270 dL_law_271 dL_law_272 dL_law_273 (by omega) ?_
  refine wb_bool G (xz_r _ _) dL_law_274 dL_law_277 dL_law_278 dL_law_281 ?_
  refine wb_c1 (as := [zI (xz xs (i + 1)), zI (nzB (xz xs (i + 2)))]) (rest := []) G (pr_blast (xz_r _ _) (nzB_c _) hLI) hLI mX9_blast lL_18 iX9_blast eX9_blast ⟨_, rfl, rfl⟩ dL_law_282 rfl rfl (Nat.le_of_ble_eq_true rfl) (by decide) hc (fun z hp1 P2 => ?_)
  refine wb_m G dL_law_285 ?_
  refine wb_argC G 1 rfl dL_law_286 dL_law_287 dL_law_288 dL_law_289 dL_law_290 (by omega) ?_
  refine wb_argC G 2 rfl dL_law_291 dL_law_292 dL_law_293 dL_law_294 dL_law_295 (by omega) ?_
  refine wb_bool G (xz_r _ _) dL_law_296 dL_law_299 dL_law_300 dL_law_303 ?_
  refine wb_c2 (as := [zI (xz xs (i + 1)), zI (nzB (xz xs (i + 2)))]) (rest := [zI z]) G P2 mX10_blast lL_22 iX10_blast eX10_blast ⟨_, rfl, rfl⟩ dL_law_304 rfl rfl (Nat.le_of_ble_eq_true rfl) (by decide) hc (fun hp2 h2 => ?_)
  refine wb_eqI G dL_law_307 ?_
  exact kk hp2 h2

theorem case_2 {K : KT} {b i L : Nat} {xs : Nat → Int32} {Q : State → Prop} {cs : Nat × Nat} {hp : PH} (G : GL K b L xs) (hi : i + 7 ≤ L) (hc : cs.1 + 5 ≤ room_1.cells ∧ cs.2 + 26 ≤ room_1.slots) (hLI : LI hp.1 (hget hp)) (kk : ∀ hp2 : PH, LI hp2.1 (hget hp2) → WpB K b i Q (cs.1 + 5, cs.2 + 26) 1600 [] hp2) : WpB K b i Q cs 312 [] hp := by
  refine wb_widen (cs' := (cs.1 + 5, cs.2 + 26)) (Nat.le_add_right _ _) (Nat.le_add_right _ _) ?_
  refine wb_x G dL_law_312 ?_
  refine wb_argC G 1 rfl dL_law_313 dL_law_314 dL_law_315 dL_law_316 dL_law_317 (by omega) ?_
  refine wb_argC G 2 rfl dL_law_318 dL_law_319 dL_law_320 dL_law_321 dL_law_322 (by omega) ?_
  refine wb_c1 (as := [zI (xz xs (i + 1)), zI (xz xs (i + 2))]) (rest := []) G (pr_mend (xz_r _ _) (xz_r _ _) hLI) hLI mX9_mend lL_23 iX9_mend eX9_mend ⟨_, rfl, rfl⟩ dL_law_323 rfl rfl (Nat.le_of_ble_eq_true rfl) (by decide) hc (fun z hp1 P2 => ?_)
  refine wb_m G dL_law_326 ?_
  refine wb_argC G 1 rfl dL_law_327 dL_law_328 dL_law_329 dL_law_330 dL_law_331 (by omega) ?_
  refine wb_argC G 2 rfl dL_law_332 dL_law_333 dL_law_334 dL_law_335 dL_law_336 (by omega) ?_
  refine wb_c2 (as := [zI (xz xs (i + 1)), zI (xz xs (i + 2))]) (rest := [zI z]) G P2 mX10_mend lL_27 iX10_mend eX10_mend ⟨_, rfl, rfl⟩ dL_law_337 rfl rfl (Nat.le_of_ble_eq_true rfl) (by decide) hc (fun hp2 h2 => ?_)
  refine wb_eqI G dL_law_340 ?_
  exact kk hp2 h2

theorem case_3 {K : KT} {b i L : Nat} {xs : Nat → Int32} {Q : State → Prop} {cs : Nat × Nat} {hp : PH} (G : GL K b L xs) (hi : i + 7 ≤ L) (hc : cs.1 + 5 ≤ room_1.cells ∧ cs.2 + 26 ≤ room_1.slots) (hLI : LI hp.1 (hget hp)) (kk : ∀ hp2 : PH, LI hp2.1 (hget hp2) → WpB K b i Q (cs.1 + 5, cs.2 + 26) 1600 [] hp2) : WpB K b i Q cs 345 [] hp := by
  refine wb_widen (cs' := (cs.1 + 5, cs.2 + 26)) (Nat.le_add_right _ _) (Nat.le_add_right _ _) ?_
  refine wb_x G dL_law_345 ?_
  refine wb_argC G 1 rfl dL_law_346 dL_law_347 dL_law_348 dL_law_349 dL_law_350 (by omega) ?_
  refine wb_argC G 2 rfl dL_law_351 dL_law_352 dL_law_353 dL_law_354 dL_law_355 (by omega) ?_
  refine wb_c1 (as := [zI (xz xs (i + 1)), zI (xz xs (i + 2))]) (rest := []) G (pr_about (xz_r _ _) (xz_r _ _) hLI) hLI mX9_about lL_28 iX9_about eX9_about ⟨_, rfl, rfl⟩ dL_law_356 rfl rfl (Nat.le_of_ble_eq_true rfl) (by decide) hc (fun z hp1 P2 => ?_)
  refine wb_m G dL_law_359 ?_
  refine wb_argC G 1 rfl dL_law_360 dL_law_361 dL_law_362 dL_law_363 dL_law_364 (by omega) ?_
  refine wb_argC G 2 rfl dL_law_365 dL_law_366 dL_law_367 dL_law_368 dL_law_369 (by omega) ?_
  refine wb_c2 (as := [zI (xz xs (i + 1)), zI (xz xs (i + 2))]) (rest := [zI z]) G P2 mX10_about lL_31 iX10_about eX10_about ⟨_, rfl, rfl⟩ dL_law_370 rfl rfl (Nat.le_of_ble_eq_true rfl) (by decide) hc (fun hp2 h2 => ?_)
  refine wb_eqI G dL_law_373 ?_
  exact kk hp2 h2

theorem case_4 {K : KT} {b i L : Nat} {xs : Nat → Int32} {Q : State → Prop} {cs : Nat × Nat} {hp : PH} (G : GL K b L xs) (hi : i + 7 ≤ L) (hc : cs.1 + 5 ≤ room_1.cells ∧ cs.2 + 26 ≤ room_1.slots) (hLI : LI hp.1 (hget hp)) (kk : ∀ hp2 : PH, LI hp2.1 (hget hp2) → WpB K b i Q (cs.1 + 5, cs.2 + 26) 1600 [] hp2) : WpB K b i Q cs 378 [] hp := by
  refine wb_widen (cs' := (cs.1 + 5, cs.2 + 26)) (Nat.le_add_right _ _) (Nat.le_add_right _ _) ?_
  refine wb_x G dL_law_378 ?_
  refine wb_argC G 1 rfl dL_law_379 dL_law_380 dL_law_381 dL_law_382 dL_law_383 (by omega) ?_
  refine wb_argC G 2 rfl dL_law_384 dL_law_385 dL_law_386 dL_law_387 dL_law_388 (by omega) ?_
  refine wb_c1 (as := [zI (xz xs (i + 1)), zI (xz xs (i + 2))]) (rest := []) G (pr_set (xz_r _ _) (xz_r _ _) hLI) hLI mX9_set lL_32 iX9_set eX9_set ⟨_, rfl, rfl⟩ dL_law_389 rfl rfl (Nat.le_of_ble_eq_true rfl) (by decide) hc (fun z hp1 P2 => ?_)
  refine wb_m G dL_law_392 ?_
  refine wb_argC G 1 rfl dL_law_393 dL_law_394 dL_law_395 dL_law_396 dL_law_397 (by omega) ?_
  refine wb_argC G 2 rfl dL_law_398 dL_law_399 dL_law_400 dL_law_401 dL_law_402 (by omega) ?_
  refine wb_c2 (as := [zI (xz xs (i + 1)), zI (xz xs (i + 2))]) (rest := [zI z]) G P2 mX10_set lL_35 iX10_set eX10_set ⟨_, rfl, rfl⟩ dL_law_403 rfl rfl (Nat.le_of_ble_eq_true rfl) (by decide) hc (fun hp2 h2 => ?_)
  refine wb_eqI G dL_law_406 ?_
  exact kk hp2 h2

theorem case_5 {K : KT} {b i L : Nat} {xs : Nat → Int32} {Q : State → Prop} {cs : Nat × Nat} {hp : PH} (G : GL K b L xs) (hi : i + 7 ≤ L) (hc : cs.1 + 5 ≤ room_1.cells ∧ cs.2 + 26 ≤ room_1.slots) (hLI : LI hp.1 (hget hp)) (kk : ∀ hp2 : PH, LI hp2.1 (hget hp2) → WpB K b i Q (cs.1 + 5, cs.2 + 26) 1600 [] hp2) : WpB K b i Q cs 411 [] hp := by
  refine wb_widen (cs' := (cs.1 + 5, cs.2 + 26)) (Nat.le_add_right _ _) (Nat.le_add_right _ _) ?_
  refine wb_x G dL_law_411 ?_
  refine wb_argC G 1 rfl dL_law_412 dL_law_413 dL_law_414 dL_law_415 dL_law_416 (by omega) ?_
  refine wb_argC G 2 rfl dL_law_417 dL_law_418 dL_law_419 dL_law_420 dL_law_421 (by omega) ?_
  refine wb_argC G 3 rfl dL_law_422 dL_law_423 dL_law_424 dL_law_425 dL_law_426 (by omega) ?_
  refine wb_c1 (as := [zI (xz xs (i + 1)), zI (xz xs (i + 2)), zI (xz xs (i + 3))]) (rest := []) G (pr_join (xz_r _ _) (xz_r _ _) (xz_r _ _) hLI) hLI mX9_join lL_36 iX9_join eX9_join ⟨_, rfl, rfl⟩ dL_law_427 rfl rfl (Nat.le_of_ble_eq_true rfl) (by decide) hc (fun z hp1 P2 => ?_)
  refine wb_m G dL_law_430 ?_
  refine wb_argC G 1 rfl dL_law_431 dL_law_432 dL_law_433 dL_law_434 dL_law_435 (by omega) ?_
  refine wb_argC G 2 rfl dL_law_436 dL_law_437 dL_law_438 dL_law_439 dL_law_440 (by omega) ?_
  refine wb_argC G 3 rfl dL_law_441 dL_law_442 dL_law_443 dL_law_444 dL_law_445 (by omega) ?_
  refine wb_c2 (as := [zI (xz xs (i + 1)), zI (xz xs (i + 2)), zI (xz xs (i + 3))]) (rest := [zI z]) G P2 mX10_join lL_40 iX10_join eX10_join ⟨_, rfl, rfl⟩ dL_law_446 rfl rfl (Nat.le_of_ble_eq_true rfl) (by decide) hc (fun hp2 h2 => ?_)
  refine wb_eqI G dL_law_449 ?_
  exact kk hp2 h2

theorem case_6 {K : KT} {b i L : Nat} {xs : Nat → Int32} {Q : State → Prop} {cs : Nat × Nat} {hp : PH} (G : GL K b L xs) (hi : i + 7 ≤ L) (hc : cs.1 + 5 ≤ room_1.cells ∧ cs.2 + 26 ≤ room_1.slots) (hLI : LI hp.1 (hget hp)) (kk : ∀ hp2 : PH, LI hp2.1 (hget hp2) → WpB K b i Q (cs.1 + 5, cs.2 + 26) 1600 [] hp2) : WpB K b i Q cs 454 [] hp := by
  refine wb_widen (cs' := (cs.1 + 5, cs.2 + 26)) (Nat.le_add_right _ _) (Nat.le_add_right _ _) ?_
  refine wb_x G dL_law_454 ?_
  refine wb_argC G 1 rfl dL_law_455 dL_law_456 dL_law_457 dL_law_458 dL_law_459 (by omega) ?_
  refine wb_argC G 2 rfl dL_law_460 dL_law_461 dL_law_462 dL_law_463 dL_law_464 (by omega) ?_
  refine wb_argC G 3 rfl dL_law_465 dL_law_466 dL_law_467 dL_law_468 dL_law_469 (by omega) ?_
  refine wb_c1 (as := [zI (xz xs (i + 1)), zI (xz xs (i + 2)), zI (xz xs (i + 3))]) (rest := []) G (pr_often (xz_r _ _) (xz_r _ _) (xz_r _ _) hLI) hLI mX9_often lL_41 iX9_often eX9_often ⟨_, rfl, rfl⟩ dL_law_470 rfl rfl (Nat.le_of_ble_eq_true rfl) (by decide) hc (fun z hp1 P2 => ?_)
  refine wb_m G dL_law_473 ?_
  refine wb_argC G 1 rfl dL_law_474 dL_law_475 dL_law_476 dL_law_477 dL_law_478 (by omega) ?_
  refine wb_argC G 2 rfl dL_law_479 dL_law_480 dL_law_481 dL_law_482 dL_law_483 (by omega) ?_
  refine wb_argC G 3 rfl dL_law_484 dL_law_485 dL_law_486 dL_law_487 dL_law_488 (by omega) ?_
  refine wb_c2 (as := [zI (xz xs (i + 1)), zI (xz xs (i + 2)), zI (xz xs (i + 3))]) (rest := [zI z]) G P2 mX10_often lL_44 iX10_often eX10_often ⟨_, rfl, rfl⟩ dL_law_489 rfl rfl (Nat.le_of_ble_eq_true rfl) (by decide) hc (fun hp2 h2 => ?_)
  refine wb_eqI G dL_law_492 ?_
  exact kk hp2 h2

theorem case_7 {K : KT} {b i L : Nat} {xs : Nat → Int32} {Q : State → Prop} {cs : Nat × Nat} {hp : PH} (G : GL K b L xs) (hi : i + 7 ≤ L) (hc : cs.1 + 5 ≤ room_1.cells ∧ cs.2 + 26 ≤ room_1.slots) (hLI : LI hp.1 (hget hp)) (kk : ∀ hp2 : PH, LI hp2.1 (hget hp2) → WpB K b i Q (cs.1 + 5, cs.2 + 26) 1600 [] hp2) : WpB K b i Q cs 497 [] hp := by
  refine wb_widen (cs' := (cs.1 + 5, cs.2 + 26)) (Nat.le_add_right _ _) (Nat.le_add_right _ _) ?_
  refine wb_x G dL_law_497 ?_
  refine wb_argC G 1 rfl dL_law_498 dL_law_499 dL_law_500 dL_law_501 dL_law_502 (by omega) ?_
  refine wb_argC G 2 rfl dL_law_503 dL_law_504 dL_law_505 dL_law_506 dL_law_507 (by omega) ?_
  refine wb_c1 (as := [zI (xz xs (i + 1)), zI (xz xs (i + 2))]) (rest := []) G (pr_whole (xz_r _ _) (xz_r _ _) hLI) hLI mX9_whole lL_45 iX9_whole eX9_whole ⟨_, rfl, rfl⟩ dL_law_508 rfl rfl (Nat.le_of_ble_eq_true rfl) (by decide) hc (fun z hp1 P2 => ?_)
  refine wb_m G dL_law_511 ?_
  refine wb_argC G 1 rfl dL_law_512 dL_law_513 dL_law_514 dL_law_515 dL_law_516 (by omega) ?_
  refine wb_argC G 2 rfl dL_law_517 dL_law_518 dL_law_519 dL_law_520 dL_law_521 (by omega) ?_
  refine wb_c2 (as := [zI (xz xs (i + 1)), zI (xz xs (i + 2))]) (rest := [zI z]) G P2 mX10_whole lL_48 iX10_whole eX10_whole ⟨_, rfl, rfl⟩ dL_law_522 rfl rfl (Nat.le_of_ble_eq_true rfl) (by decide) hc (fun hp2 h2 => ?_)
  refine wb_eqI G dL_law_525 ?_
  exact kk hp2 h2

theorem case_8 {K : KT} {b i L : Nat} {xs : Nat → Int32} {Q : State → Prop} {cs : Nat × Nat} {hp : PH} (G : GL K b L xs) (hi : i + 7 ≤ L) (hc : cs.1 + 5 ≤ room_1.cells ∧ cs.2 + 26 ≤ room_1.slots) (hLI : LI hp.1 (hget hp)) (kk : ∀ hp2 : PH, LI hp2.1 (hget hp2) → WpB K b i Q (cs.1 + 5, cs.2 + 26) 1600 [] hp2) : WpB K b i Q cs 530 [] hp := by
  refine wb_widen (cs' := (cs.1 + 5, cs.2 + 26)) (Nat.le_add_right _ _) (Nat.le_add_right _ _) ?_
  refine wb_x G dL_law_530 ?_
  refine wb_argC G 1 rfl dL_law_531 dL_law_532 dL_law_533 dL_law_534 dL_law_535 (by omega) ?_
  refine wb_argC G 2 rfl dL_law_536 dL_law_537 dL_law_538 dL_law_539 dL_law_540 (by omega) ?_
  refine wb_argC G 3 rfl dL_law_541 dL_law_542 dL_law_543 dL_law_544 dL_law_545 (by omega) ?_
  refine wb_argC G 4 rfl dL_law_546 dL_law_547 dL_law_548 dL_law_549 dL_law_550 (by omega) ?_
  refine wb_c1 (as := [zI (xz xs (i + 1)), zI (xz xs (i + 2)), zI (xz xs (i + 3)), zI (xz xs (i + 4))]) (rest := []) G (pr_slope (xz_r _ _) (xz_r _ _) (xz_r _ _) (xz_r _ _) hLI) hLI mX9_slope lL_49 iX9_slope eX9_slope ⟨_, rfl, rfl⟩ dL_law_551 rfl rfl (Nat.le_of_ble_eq_true rfl) (by decide) hc (fun z hp1 P2 => ?_)
  refine wb_m G dL_law_554 ?_
  refine wb_argC G 1 rfl dL_law_555 dL_law_556 dL_law_557 dL_law_558 dL_law_559 (by omega) ?_
  refine wb_argC G 2 rfl dL_law_560 dL_law_561 dL_law_562 dL_law_563 dL_law_564 (by omega) ?_
  refine wb_argC G 3 rfl dL_law_565 dL_law_566 dL_law_567 dL_law_568 dL_law_569 (by omega) ?_
  refine wb_argC G 4 rfl dL_law_570 dL_law_571 dL_law_572 dL_law_573 dL_law_574 (by omega) ?_
  refine wb_c2 (as := [zI (xz xs (i + 1)), zI (xz xs (i + 2)), zI (xz xs (i + 3)), zI (xz xs (i + 4))]) (rest := [zJ z]) G P2 mX10_slope lL_53 iX10_slope eX10_slope ⟨_, rfl, rfl⟩ dL_law_575 rfl rfl (Nat.le_of_ble_eq_true rfl) (by decide) hc (fun hp2 h2 => ?_)
  refine wb_eqJ G dL_law_578 dL_law_579 ?_
  exact kk hp2 h2

theorem case_9 {K : KT} {b i L : Nat} {xs : Nat → Int32} {Q : State → Prop} {cs : Nat × Nat} {hp : PH} (G : GL K b L xs) (hi : i + 7 ≤ L) (hc : cs.1 + 5 ≤ room_1.cells ∧ cs.2 + 26 ≤ room_1.slots) (hLI : LI hp.1 (hget hp)) (kk : ∀ hp2 : PH, LI hp2.1 (hget hp2) → WpB K b i Q (cs.1 + 5, cs.2 + 26) 1600 [] hp2) : WpB K b i Q cs 584 [] hp := by
  refine wb_widen (cs' := (cs.1 + 5, cs.2 + 26)) (Nat.le_add_right _ _) (Nat.le_add_right _ _) ?_
  refine wb_x G dL_law_584 ?_
  refine wb_argC G 1 rfl dL_law_585 dL_law_586 dL_law_587 dL_law_588 dL_law_589 (by omega) ?_
  refine wb_argC G 2 rfl dL_law_590 dL_law_591 dL_law_592 dL_law_593 dL_law_594 (by omega) ?_
  refine wb_argC G 3 rfl dL_law_595 dL_law_596 dL_law_597 dL_law_598 dL_law_599 (by omega) ?_
  refine wb_argC G 4 rfl dL_law_600 dL_law_601 dL_law_602 dL_law_603 dL_law_604 (by omega) ?_
  refine wb_c1 (as := [zI (xz xs (i + 1)), zI (xz xs (i + 2)), zI (xz xs (i + 3)), zI (xz xs (i + 4))]) (rest := []) G (pr_alike (xz_r _ _) (xz_r _ _) (xz_r _ _) (xz_r _ _) hLI) hLI mX9_alike lL_54 iX9_alike eX9_alike ⟨_, rfl, rfl⟩ dL_law_605 rfl rfl (Nat.le_of_ble_eq_true rfl) (by decide) hc (fun z hp1 P2 => ?_)
  refine wb_m G dL_law_608 ?_
  refine wb_argC G 1 rfl dL_law_609 dL_law_610 dL_law_611 dL_law_612 dL_law_613 (by omega) ?_
  refine wb_argC G 2 rfl dL_law_614 dL_law_615 dL_law_616 dL_law_617 dL_law_618 (by omega) ?_
  refine wb_argC G 3 rfl dL_law_619 dL_law_620 dL_law_621 dL_law_622 dL_law_623 (by omega) ?_
  refine wb_argC G 4 rfl dL_law_624 dL_law_625 dL_law_626 dL_law_627 dL_law_628 (by omega) ?_
  refine wb_c2 (as := [zI (xz xs (i + 1)), zI (xz xs (i + 2)), zI (xz xs (i + 3)), zI (xz xs (i + 4))]) (rest := [zJ z]) G P2 mX10_alike lL_57 iX10_alike eX10_alike ⟨_, rfl, rfl⟩ dL_law_629 rfl rfl (Nat.le_of_ble_eq_true rfl) (by decide) hc (fun hp2 h2 => ?_)
  refine wb_eqJ G dL_law_632 dL_law_633 ?_
  exact kk hp2 h2

theorem case_10 {K : KT} {b i L : Nat} {xs : Nat → Int32} {Q : State → Prop} {cs : Nat × Nat} {hp : PH} (G : GL K b L xs) (hi : i + 7 ≤ L) (hc : cs.1 + 5 ≤ room_1.cells ∧ cs.2 + 26 ≤ room_1.slots) (hLI : LI hp.1 (hget hp)) (kk : ∀ hp2 : PH, LI hp2.1 (hget hp2) → WpB K b i Q (cs.1 + 5, cs.2 + 26) 1600 [] hp2) : WpB K b i Q cs 638 [] hp := by
  refine wb_widen (cs' := (cs.1 + 5, cs.2 + 26)) (Nat.le_add_right _ _) (Nat.le_add_right _ _) ?_
  refine wb_x G dL_law_638 ?_
  refine wb_argC G 1 rfl dL_law_639 dL_law_640 dL_law_641 dL_law_642 dL_law_643 (by omega) ?_
  refine wb_argC G 2 rfl dL_law_644 dL_law_645 dL_law_646 dL_law_647 dL_law_648 (by omega) ?_
  refine wb_argC G 3 rfl dL_law_649 dL_law_650 dL_law_651 dL_law_652 dL_law_653 (by omega) ?_
  refine wb_argC G 4 rfl dL_law_654 dL_law_655 dL_law_656 dL_law_657 dL_law_658 (by omega) ?_
  refine wb_argC G 5 rfl dL_law_659 dL_law_660 dL_law_661 dL_law_662 dL_law_663 (by omega) ?_
  refine wb_c1 (as := [zI (xz xs (i + 1)), zI (xz xs (i + 2)), zI (xz xs (i + 3)), zI (xz xs (i + 4)), zI (xz xs (i + 5))]) (rest := []) G (pr_few (xz_r _ _) (xz_r _ _) (xz_r _ _) (xz_r _ _) (xz_r _ _) hLI) hLI mX9_few lL_58 iX9_few eX9_few ⟨_, rfl, rfl⟩ dL_law_664 rfl rfl (Nat.le_of_ble_eq_true rfl) (by decide) hc (fun z hp1 P2 => ?_)
  refine wb_m G dL_law_667 ?_
  refine wb_argC G 1 rfl dL_law_668 dL_law_669 dL_law_670 dL_law_671 dL_law_672 (by omega) ?_
  refine wb_argC G 2 rfl dL_law_673 dL_law_674 dL_law_675 dL_law_676 dL_law_677 (by omega) ?_
  refine wb_argC G 3 rfl dL_law_678 dL_law_679 dL_law_680 dL_law_681 dL_law_682 (by omega) ?_
  refine wb_argC G 4 rfl dL_law_683 dL_law_684 dL_law_685 dL_law_686 dL_law_687 (by omega) ?_
  refine wb_argC G 5 rfl dL_law_688 dL_law_689 dL_law_690 dL_law_691 dL_law_692 (by omega) ?_
  refine wb_c2 (as := [zI (xz xs (i + 1)), zI (xz xs (i + 2)), zI (xz xs (i + 3)), zI (xz xs (i + 4)), zI (xz xs (i + 5))]) (rest := [zJ z]) G P2 mX10_few lL_62 iX10_few eX10_few ⟨_, rfl, rfl⟩ dL_law_693 rfl rfl (Nat.le_of_ble_eq_true rfl) (by decide) hc (fun hp2 h2 => ?_)
  refine wb_eqJ G dL_law_696 dL_law_697 ?_
  exact kk hp2 h2

theorem case_11 {K : KT} {b i L : Nat} {xs : Nat → Int32} {Q : State → Prop} {cs : Nat × Nat} {hp : PH} (G : GL K b L xs) (hi : i + 7 ≤ L) (hc : cs.1 + 5 ≤ room_1.cells ∧ cs.2 + 26 ≤ room_1.slots) (hLI : LI hp.1 (hget hp)) (kk : ∀ hp2 : PH, LI hp2.1 (hget hp2) → WpB K b i Q (cs.1 + 5, cs.2 + 26) 1600 [] hp2) : WpB K b i Q cs 702 [] hp := by
  refine wb_widen (cs' := (cs.1 + 5, cs.2 + 26)) (Nat.le_add_right _ _) (Nat.le_add_right _ _) ?_
  refine wb_x G dL_law_702 ?_
  refine wb_argC G 1 rfl dL_law_703 dL_law_704 dL_law_705 dL_law_706 dL_law_707 (by omega) ?_
  refine wb_argC G 2 rfl dL_law_708 dL_law_709 dL_law_710 dL_law_711 dL_law_712 (by omega) ?_
  refine wb_argC G 3 rfl dL_law_713 dL_law_714 dL_law_715 dL_law_716 dL_law_717 (by omega) ?_
  refine wb_c1 (as := [zI (xz xs (i + 1)), zI (xz xs (i + 2)), zI (xz xs (i + 3))]) (rest := []) G (pr_step (xz_r _ _) (xz_r _ _) (xz_r _ _) hLI) hLI mX9_step lL_63 iX9_step eX9_step ⟨_, rfl, rfl⟩ dL_law_718 rfl rfl (Nat.le_of_ble_eq_true rfl) (by decide) hc (fun z hp1 P2 => ?_)
  refine wb_m G dL_law_721 ?_
  refine wb_argC G 1 rfl dL_law_722 dL_law_723 dL_law_724 dL_law_725 dL_law_726 (by omega) ?_
  refine wb_argC G 2 rfl dL_law_727 dL_law_728 dL_law_729 dL_law_730 dL_law_731 (by omega) ?_
  refine wb_argC G 3 rfl dL_law_732 dL_law_733 dL_law_734 dL_law_735 dL_law_736 (by omega) ?_
  refine wb_c2 (as := [zI (xz xs (i + 1)), zI (xz xs (i + 2)), zI (xz xs (i + 3))]) (rest := [zI z]) G P2 mX10_step lL_66 iX10_step eX10_step ⟨_, rfl, rfl⟩ dL_law_737 rfl rfl (Nat.le_of_ble_eq_true rfl) (by decide) hc (fun hp2 h2 => ?_)
  refine wb_eqI G dL_law_740 ?_
  exact kk hp2 h2

theorem case_12 {K : KT} {b i L : Nat} {xs : Nat → Int32} {Q : State → Prop} {cs : Nat × Nat} {hp : PH} (G : GL K b L xs) (hi : i + 7 ≤ L) (hc : cs.1 + 5 ≤ room_1.cells ∧ cs.2 + 26 ≤ room_1.slots) (hLI : LI hp.1 (hget hp)) (kk : ∀ hp2 : PH, LI hp2.1 (hget hp2) → WpB K b i Q (cs.1 + 5, cs.2 + 26) 1600 [] hp2) : WpB K b i Q cs 745 [] hp := by
  refine wb_widen (cs' := (cs.1 + 5, cs.2 + 26)) (Nat.le_add_right _ _) (Nat.le_add_right _ _) ?_
  refine wb_x G dL_law_745 ?_
  refine wb_argC G 1 rfl dL_law_746 dL_law_747 dL_law_748 dL_law_749 dL_law_750 (by omega) ?_
  refine wb_argC G 2 rfl dL_law_751 dL_law_752 dL_law_753 dL_law_754 dL_law_755 (by omega) ?_
  refine wb_argC G 3 rfl dL_law_756 dL_law_757 dL_law_758 dL_law_759 dL_law_760 (by omega) ?_
  refine wb_argC G 4 rfl dL_law_761 dL_law_762 dL_law_763 dL_law_764 dL_law_765 (by omega) ?_
  refine wb_c1 (as := [zI (xz xs (i + 1)), zI (xz xs (i + 2)), zI (xz xs (i + 3)), zI (xz xs (i + 4))]) (rest := []) G (pr_share (xz_r _ _) (xz_r _ _) (xz_r _ _) (xz_r _ _) hLI) hLI mX9_share lL_67 iX9_share eX9_share ⟨_, rfl, rfl⟩ dL_law_766 rfl rfl (Nat.le_of_ble_eq_true rfl) (by decide) hc (fun z hp1 P2 => ?_)
  refine wb_m G dL_law_769 ?_
  refine wb_argC G 1 rfl dL_law_770 dL_law_771 dL_law_772 dL_law_773 dL_law_774 (by omega) ?_
  refine wb_argC G 2 rfl dL_law_775 dL_law_776 dL_law_777 dL_law_778 dL_law_779 (by omega) ?_
  refine wb_argC G 3 rfl dL_law_780 dL_law_781 dL_law_782 dL_law_783 dL_law_784 (by omega) ?_
  refine wb_argC G 4 rfl dL_law_785 dL_law_786 dL_law_787 dL_law_788 dL_law_789 (by omega) ?_
  refine wb_c2 (as := [zI (xz xs (i + 1)), zI (xz xs (i + 2)), zI (xz xs (i + 3)), zI (xz xs (i + 4))]) (rest := [zJ z]) G P2 mX10_share lL_70 iX10_share eX10_share ⟨_, rfl, rfl⟩ dL_law_790 rfl rfl (Nat.le_of_ble_eq_true rfl) (by decide) hc (fun hp2 h2 => ?_)
  refine wb_eqJ G dL_law_793 dL_law_794 ?_
  exact kk hp2 h2

theorem case_13 {K : KT} {b i L : Nat} {xs : Nat → Int32} {Q : State → Prop} {cs : Nat × Nat} {hp : PH} (G : GL K b L xs) (hi : i + 7 ≤ L) (hc : cs.1 + 5 ≤ room_1.cells ∧ cs.2 + 26 ≤ room_1.slots) (hLI : LI hp.1 (hget hp)) (kk : ∀ hp2 : PH, LI hp2.1 (hget hp2) → WpB K b i Q (cs.1 + 5, cs.2 + 26) 1600 [] hp2) : WpB K b i Q cs 799 [] hp := by
  refine wb_widen (cs' := (cs.1 + 5, cs.2 + 26)) (Nat.le_add_right _ _) (Nat.le_add_right _ _) ?_
  refine wb_x G dL_law_799 ?_
  refine wb_argC G 1 rfl dL_law_800 dL_law_801 dL_law_802 dL_law_803 dL_law_804 (by omega) ?_
  refine wb_argC G 2 rfl dL_law_805 dL_law_806 dL_law_807 dL_law_808 dL_law_809 (by omega) ?_
  refine wb_c1 (as := [zI (xz xs (i + 1)), zI (xz xs (i + 2))]) (rest := []) G (pr_mother (xz_r _ _) (xz_r _ _) hLI) hLI mX9_mother lL_71 iX9_mother eX9_mother ⟨_, rfl, rfl⟩ dL_law_810 rfl rfl (Nat.le_of_ble_eq_true rfl) (by decide) hc (fun z hp1 P2 => ?_)
  refine wb_m G dL_law_813 ?_
  refine wb_argC G 1 rfl dL_law_814 dL_law_815 dL_law_816 dL_law_817 dL_law_818 (by omega) ?_
  refine wb_argC G 2 rfl dL_law_819 dL_law_820 dL_law_821 dL_law_822 dL_law_823 (by omega) ?_
  refine wb_c2 (as := [zI (xz xs (i + 1)), zI (xz xs (i + 2))]) (rest := [zI z]) G P2 mX10_mother lL_74 iX10_mother eX10_mother ⟨_, rfl, rfl⟩ dL_law_824 rfl rfl (Nat.le_of_ble_eq_true rfl) (by decide) hc (fun hp2 h2 => ?_)
  refine wb_eqI G dL_law_827 ?_
  exact kk hp2 h2

theorem case_14 {K : KT} {b i L : Nat} {xs : Nat → Int32} {Q : State → Prop} {cs : Nat × Nat} {hp : PH} (G : GL K b L xs) (hi : i + 7 ≤ L) (hc : cs.1 + 5 ≤ room_1.cells ∧ cs.2 + 26 ≤ room_1.slots) (hLI : LI hp.1 (hget hp)) (kk : ∀ hp2 : PH, LI hp2.1 (hget hp2) → WpB K b i Q (cs.1 + 5, cs.2 + 26) 1600 [] hp2) : WpB K b i Q cs 832 [] hp := by
  refine wb_widen (cs' := (cs.1 + 5, cs.2 + 26)) (Nat.le_add_right _ _) (Nat.le_add_right _ _) ?_
  refine wb_x G dL_law_832 ?_
  refine wb_argC G 1 rfl dL_law_833 dL_law_834 dL_law_835 dL_law_836 dL_law_837 (by omega) ?_
  refine wb_argC G 2 rfl dL_law_838 dL_law_839 dL_law_840 dL_law_841 dL_law_842 (by omega) ?_
  refine wb_argC G 3 rfl dL_law_843 dL_law_844 dL_law_845 dL_law_846 dL_law_847 (by omega) ?_
  refine wb_c1 (as := [zI (xz xs (i + 1)), zI (xz xs (i + 2)), zI (xz xs (i + 3))]) (rest := []) G (pr_family (xz_r _ _) (xz_r _ _) (xz_r _ _) hLI) hLI mX9_family lL_75 iX9_family eX9_family ⟨_, rfl, rfl⟩ dL_law_848 rfl rfl (Nat.le_of_ble_eq_true rfl) (by decide) hc (fun z hp1 P2 => ?_)
  refine wb_m G dL_law_851 ?_
  refine wb_argC G 1 rfl dL_law_852 dL_law_853 dL_law_854 dL_law_855 dL_law_856 (by omega) ?_
  refine wb_argC G 2 rfl dL_law_857 dL_law_858 dL_law_859 dL_law_860 dL_law_861 (by omega) ?_
  refine wb_argC G 3 rfl dL_law_862 dL_law_863 dL_law_864 dL_law_865 dL_law_866 (by omega) ?_
  refine wb_c2 (as := [zI (xz xs (i + 1)), zI (xz xs (i + 2)), zI (xz xs (i + 3))]) (rest := [zI z]) G P2 mX10_family lL_78 iX10_family eX10_family ⟨_, rfl, rfl⟩ dL_law_867 rfl rfl (Nat.le_of_ble_eq_true rfl) (by decide) hc (fun hp2 h2 => ?_)
  refine wb_eqI G dL_law_870 ?_
  exact kk hp2 h2

theorem case_15 {K : KT} {b i L : Nat} {xs : Nat → Int32} {Q : State → Prop} {cs : Nat × Nat} {hp : PH} (G : GL K b L xs) (hi : i + 7 ≤ L) (hc : cs.1 + 5 ≤ room_1.cells ∧ cs.2 + 26 ≤ room_1.slots) (hLI : LI hp.1 (hget hp)) (kk : ∀ hp2 : PH, LI hp2.1 (hget hp2) → WpB K b i Q (cs.1 + 5, cs.2 + 26) 1600 [] hp2) : WpB K b i Q cs 875 [] hp := by
  refine wb_widen (cs' := (cs.1 + 5, cs.2 + 26)) (Nat.le_add_right _ _) (Nat.le_add_right _ _) ?_
  refine wb_x G dL_law_875 ?_
  refine wb_argC G 1 rfl dL_law_876 dL_law_877 dL_law_878 dL_law_879 dL_law_880 (by omega) ?_
  refine wb_argC G 2 rfl dL_law_881 dL_law_882 dL_law_883 dL_law_884 dL_law_885 (by omega) ?_
  refine wb_c1 (as := [zI (xz xs (i + 1)), zI (xz xs (i + 2))]) (rest := []) G (pr_families (xz_r _ _) (xz_r _ _) hLI) hLI mX9_families lL_79 iX9_families eX9_families ⟨_, rfl, rfl⟩ dL_law_886 rfl rfl (Nat.le_of_ble_eq_true rfl) (by decide) hc (fun z hp1 P2 => ?_)
  refine wb_m G dL_law_889 ?_
  refine wb_argC G 1 rfl dL_law_890 dL_law_891 dL_law_892 dL_law_893 dL_law_894 (by omega) ?_
  refine wb_argC G 2 rfl dL_law_895 dL_law_896 dL_law_897 dL_law_898 dL_law_899 (by omega) ?_
  refine wb_c2 (as := [zI (xz xs (i + 1)), zI (xz xs (i + 2))]) (rest := [zI z]) G P2 mX10_families lL_82 iX10_families eX10_families ⟨_, rfl, rfl⟩ dL_law_900 rfl rfl (Nat.le_of_ble_eq_true rfl) (by decide) hc (fun hp2 h2 => ?_)
  refine wb_eqI G dL_law_903 ?_
  exact kk hp2 h2

theorem case_16 {K : KT} {b i L : Nat} {xs : Nat → Int32} {Q : State → Prop} {cs : Nat × Nat} {hp : PH} (G : GL K b L xs) (hi : i + 7 ≤ L) (hc : cs.1 + 5 ≤ room_1.cells ∧ cs.2 + 26 ≤ room_1.slots) (hLI : LI hp.1 (hget hp)) (kk : ∀ hp2 : PH, LI hp2.1 (hget hp2) → WpB K b i Q (cs.1 + 5, cs.2 + 26) 1600 [] hp2) : WpB K b i Q cs 908 [] hp := by
  refine wb_widen (cs' := (cs.1 + 5, cs.2 + 26)) (Nat.le_add_right _ _) (Nat.le_add_right _ _) ?_
  refine wb_x G dL_law_908 ?_
  refine wb_argC G 1 rfl dL_law_909 dL_law_910 dL_law_911 dL_law_912 dL_law_913 (by omega) ?_
  refine wb_argC G 2 rfl dL_law_914 dL_law_915 dL_law_916 dL_law_917 dL_law_918 (by omega) ?_
  refine wb_argC G 3 rfl dL_law_919 dL_law_920 dL_law_921 dL_law_922 dL_law_923 (by omega) ?_
  refine wb_c1 (as := [zI (xz xs (i + 1)), zI (xz xs (i + 2)), zI (xz xs (i + 3))]) (rest := []) G (pr_draw (xz_r _ _) (xz_r _ _) (xz_r _ _) hLI) hLI mX9_draw lL_83 iX9_draw eX9_draw ⟨_, rfl, rfl⟩ dL_law_924 rfl rfl (Nat.le_of_ble_eq_true rfl) (by decide) hc (fun z hp1 P2 => ?_)
  refine wb_m G dL_law_927 ?_
  refine wb_argC G 1 rfl dL_law_928 dL_law_929 dL_law_930 dL_law_931 dL_law_932 (by omega) ?_
  refine wb_argC G 2 rfl dL_law_933 dL_law_934 dL_law_935 dL_law_936 dL_law_937 (by omega) ?_
  refine wb_argC G 3 rfl dL_law_938 dL_law_939 dL_law_940 dL_law_941 dL_law_942 (by omega) ?_
  refine wb_c2 (as := [zI (xz xs (i + 1)), zI (xz xs (i + 2)), zI (xz xs (i + 3))]) (rest := [zI z]) G P2 mX10_draw lL_86 iX10_draw eX10_draw ⟨_, rfl, rfl⟩ dL_law_943 rfl rfl (Nat.le_of_ble_eq_true rfl) (by decide) hc (fun hp2 h2 => ?_)
  refine wb_eqI G dL_law_946 ?_
  exact kk hp2 h2

theorem case_17 {K : KT} {b i L : Nat} {xs : Nat → Int32} {Q : State → Prop} {cs : Nat × Nat} {hp : PH} (G : GL K b L xs) (hi : i + 7 ≤ L) (hc : cs.1 + 5 ≤ room_1.cells ∧ cs.2 + 26 ≤ room_1.slots) (hLI : LI hp.1 (hget hp)) (kk : ∀ hp2 : PH, LI hp2.1 (hget hp2) → WpB K b i Q (cs.1 + 5, cs.2 + 26) 1600 [] hp2) : WpB K b i Q cs 951 [] hp := by
  refine wb_widen (cs' := (cs.1 + 5, cs.2 + 26)) (Nat.le_add_right _ _) (Nat.le_add_right _ _) ?_
  refine wb_x G dL_law_951 ?_
  refine wb_argC G 1 rfl dL_law_952 dL_law_953 dL_law_954 dL_law_955 dL_law_956 (by omega) ?_
  refine wb_argC G 2 rfl dL_law_957 dL_law_958 dL_law_959 dL_law_960 dL_law_961 (by omega) ?_
  refine wb_argC G 3 rfl dL_law_962 dL_law_963 dL_law_964 dL_law_965 dL_law_966 (by omega) ?_
  refine wb_argC G 4 rfl dL_law_967 dL_law_968 dL_law_969 dL_law_970 dL_law_971 (by omega) ?_
  refine wb_c1 (as := [zI (xz xs (i + 1)), zI (xz xs (i + 2)), zI (xz xs (i + 3)), zI (xz xs (i + 4))]) (rest := []) G (pr_rate (xz_r _ _) (xz_r _ _) (xz_r _ _) (xz_r _ _) hLI) hLI mX9_rate lL_87 iX9_rate eX9_rate ⟨_, rfl, rfl⟩ dL_law_972 rfl rfl (Nat.le_of_ble_eq_true rfl) (by decide) hc (fun z hp1 P2 => ?_)
  refine wb_m G dL_law_975 ?_
  refine wb_argC G 1 rfl dL_law_976 dL_law_977 dL_law_978 dL_law_979 dL_law_980 (by omega) ?_
  refine wb_argC G 2 rfl dL_law_981 dL_law_982 dL_law_983 dL_law_984 dL_law_985 (by omega) ?_
  refine wb_argC G 3 rfl dL_law_986 dL_law_987 dL_law_988 dL_law_989 dL_law_990 (by omega) ?_
  refine wb_argC G 4 rfl dL_law_991 dL_law_992 dL_law_993 dL_law_994 dL_law_995 (by omega) ?_
  refine wb_c2 (as := [zI (xz xs (i + 1)), zI (xz xs (i + 2)), zI (xz xs (i + 3)), zI (xz xs (i + 4))]) (rest := [zI z]) G P2 mX10_rate lL_91 iX10_rate eX10_rate ⟨_, rfl, rfl⟩ dL_law_996 rfl rfl (Nat.le_of_ble_eq_true rfl) (by decide) hc (fun hp2 h2 => ?_)
  refine wb_eqI G dL_law_999 ?_
  exact kk hp2 h2

theorem case_18 {K : KT} {b i L : Nat} {xs : Nat → Int32} {Q : State → Prop} {cs : Nat × Nat} {hp : PH} (G : GL K b L xs) (hi : i + 7 ≤ L) (hc : cs.1 + 5 ≤ room_1.cells ∧ cs.2 + 26 ≤ room_1.slots) (hLI : LI hp.1 (hget hp)) (kk : ∀ hp2 : PH, LI hp2.1 (hget hp2) → WpB K b i Q (cs.1 + 5, cs.2 + 26) 1600 [] hp2) : WpB K b i Q cs 1004 [] hp := by
  refine wb_widen (cs' := (cs.1 + 5, cs.2 + 26)) (Nat.le_add_right _ _) (Nat.le_add_right _ _) ?_
  refine wb_x G dL_law_1004 ?_
  refine wb_argC G 1 rfl dL_law_1005 dL_law_1006 dL_law_1007 dL_law_1008 dL_law_1009 (by omega) ?_
  refine wb_c1 (as := [zI (xz xs (i + 1))]) (rest := []) G (pr_say (xz_r _ _) hLI) hLI mX9_say lL_92 iX9_say eX9_say ⟨_, rfl, rfl⟩ dL_law_1010 rfl rfl (Nat.le_of_ble_eq_true rfl) (by decide) hc (fun z hp1 P2 => ?_)
  refine wb_m G dL_law_1013 ?_
  refine wb_argC G 1 rfl dL_law_1014 dL_law_1015 dL_law_1016 dL_law_1017 dL_law_1018 (by omega) ?_
  refine wb_c2 (as := [zI (xz xs (i + 1))]) (rest := [zI z]) G P2 mX10_say lL_96 iX10_say eX10_say ⟨_, rfl, rfl⟩ dL_law_1019 rfl rfl (Nat.le_of_ble_eq_true rfl) (by decide) hc (fun hp2 h2 => ?_)
  refine wb_eqI G dL_law_1022 ?_
  exact kk hp2 h2

theorem case_19 {K : KT} {b i L : Nat} {xs : Nat → Int32} {Q : State → Prop} {cs : Nat × Nat} {hp : PH} (G : GL K b L xs) (hi : i + 7 ≤ L) (hc : cs.1 + 5 ≤ room_1.cells ∧ cs.2 + 26 ≤ room_1.slots) (hLI : LI hp.1 (hget hp)) (kk : ∀ hp2 : PH, LI hp2.1 (hget hp2) → WpB K b i Q (cs.1 + 5, cs.2 + 26) 1600 [] hp2) : WpB K b i Q cs 1027 [] hp := by
  refine wb_widen (cs' := (cs.1 + 5, cs.2 + 26)) (Nat.le_add_right _ _) (Nat.le_add_right _ _) ?_
  refine wb_x G dL_law_1027 ?_
  refine wb_c1 (as := []) (rest := []) G (pr_wipe  hLI) hLI mX9_wipe lL_97 iX9_wipe eX9_wipe ⟨_, rfl, rfl⟩ dL_law_1028 rfl rfl (Nat.le_of_ble_eq_true rfl) (by decide) hc (fun z hp1 P2 => ?_)
  refine wb_m G dL_law_1031 ?_
  refine wb_c2 (as := []) (rest := [zI z]) G P2 mX10_wipe lL_101 iX10_wipe eX10_wipe ⟨_, rfl, rfl⟩ dL_law_1032 rfl rfl (Nat.le_of_ble_eq_true rfl) (by decide) hc (fun hp2 h2 => ?_)
  refine wb_eqI G dL_law_1035 ?_
  exact kk hp2 h2

theorem case_20 {K : KT} {b i L : Nat} {xs : Nat → Int32} {Q : State → Prop} {cs : Nat × Nat} {hp : PH} (G : GL K b L xs) (hi : i + 7 ≤ L) (hc : cs.1 + 5 ≤ room_1.cells ∧ cs.2 + 26 ≤ room_1.slots) (hLI : LI hp.1 (hget hp)) (kk : ∀ hp2 : PH, LI hp2.1 (hget hp2) → WpB K b i Q (cs.1 + 5, cs.2 + 26) 1600 [] hp2) : WpB K b i Q cs 1040 [] hp := by
  refine wb_widen (cs' := (cs.1 + 5, cs.2 + 26)) (Nat.le_add_right _ _) (Nat.le_add_right _ _) ?_
  refine wb_x G dL_law_1040 ?_
  refine wb_c1 (as := []) (rest := []) G (pr_fault  hLI) hLI mX9_fault lL_102 iX9_fault eX9_fault ⟨_, rfl, rfl⟩ dL_law_1041 rfl rfl (Nat.le_of_ble_eq_true rfl) (by decide) hc (fun z hp1 P2 => ?_)
  refine wb_m G dL_law_1044 ?_
  refine wb_c2 (as := []) (rest := [zI z]) G P2 mX10_fault lL_105 iX10_fault eX10_fault ⟨_, rfl, rfl⟩ dL_law_1045 rfl rfl (Nat.le_of_ble_eq_true rfl) (by decide) hc (fun hp2 h2 => ?_)
  refine wb_eqI G dL_law_1048 ?_
  exact kk hp2 h2

theorem case_21 {K : KT} {b i L : Nat} {xs : Nat → Int32} {Q : State → Prop} {cs : Nat × Nat} {hp : PH} (G : GL K b L xs) (hi : i + 7 ≤ L) (hc : cs.1 + 5 ≤ room_1.cells ∧ cs.2 + 26 ≤ room_1.slots) (hLI : LI hp.1 (hget hp)) (kk : ∀ hp2 : PH, LI hp2.1 (hget hp2) → WpB K b i Q (cs.1 + 5, cs.2 + 26) 1600 [] hp2) : WpB K b i Q cs 1053 [] hp := by
  refine wb_x G dL_law_1053 ?_
  refine wb_c1 (as := []) (rest := []) G (pr_forecast  hLI) hLI mX9_forecast lL_106 iX9_forecast eX9_forecast ⟨_, rfl, rfl⟩ dL_law_1054 rfl rfl (Nat.le_of_ble_eq_true rfl) (by decide) hc (fun z hp1 P2 => ?_)
  refine wb_m G dL_law_1057 ?_
  refine wb_c2 (as := []) (rest := [zI z]) G P2 mX10_forecast lL_109 iX10_forecast eX10_forecast ⟨_, rfl, rfl⟩ dL_law_1058 rfl rfl (Nat.le_of_ble_eq_true rfl) (by decide) hc (fun hp2 h2 => ?_)
  refine wb_eqI G dL_law_1061 ?_
  exact kk hp2 h2

theorem case_22 {K : KT} {b i L : Nat} {xs : Nat → Int32} {Q : State → Prop} {cs : Nat × Nat} {hp : PH} (G : GL K b L xs) (hi : i + 7 ≤ L) (hc : cs.1 + 5 ≤ room_1.cells ∧ cs.2 + 26 ≤ room_1.slots) (hLI : LI hp.1 (hget hp)) (kk : ∀ hp2 : PH, LI hp2.1 (hget hp2) → WpB K b i Q (cs.1 + 5, cs.2 + 26) 1600 [] hp2) : WpB K b i Q cs 1066 [] hp := by
  refine wb_widen (cs' := (cs.1 + 5, cs.2 + 26)) (Nat.le_add_right _ _) (Nat.le_add_right _ _) ?_
  refine wb_x G dL_law_1066 ?_
  refine wb_argC G 1 rfl dL_law_1067 dL_law_1068 dL_law_1069 dL_law_1070 dL_law_1071 (by omega) ?_
  refine wb_argC G 2 rfl dL_law_1072 dL_law_1073 dL_law_1074 dL_law_1075 dL_law_1076 (by omega) ?_
  refine wb_c1 (as := [zI (xz xs (i + 1)), zI (xz xs (i + 2))]) (rest := []) G (pr_tells (xz_r _ _) (xz_r _ _) hLI) hLI mX9_tells lL_110 iX9_tells eX9_tells ⟨_, rfl, rfl⟩ dL_law_1077 rfl rfl (Nat.le_of_ble_eq_true rfl) (by decide) hc (fun z hp1 P2 => ?_)
  refine wb_m G dL_law_1080 ?_
  refine wb_argC G 1 rfl dL_law_1081 dL_law_1082 dL_law_1083 dL_law_1084 dL_law_1085 (by omega) ?_
  refine wb_argC G 2 rfl dL_law_1086 dL_law_1087 dL_law_1088 dL_law_1089 dL_law_1090 (by omega) ?_
  refine wb_c2 (as := [zI (xz xs (i + 1)), zI (xz xs (i + 2))]) (rest := [zI z]) G P2 mX10_tells lL_113 iX10_tells eX10_tells ⟨_, rfl, rfl⟩ dL_law_1091 rfl rfl (Nat.le_of_ble_eq_true rfl) (by decide) hc (fun hp2 h2 => ?_)
  refine wb_eqI G dL_law_1094 ?_
  exact kk hp2 h2

theorem case_23 {K : KT} {b i L : Nat} {xs : Nat → Int32} {Q : State → Prop} {cs : Nat × Nat} {hp : PH} (G : GL K b L xs) (hi : i + 7 ≤ L) (hc : cs.1 + 5 ≤ room_1.cells ∧ cs.2 + 26 ≤ room_1.slots) (hLI : LI hp.1 (hget hp)) (kk : ∀ hp2 : PH, LI hp2.1 (hget hp2) → WpB K b i Q (cs.1 + 5, cs.2 + 26) 1600 [] hp2) : WpB K b i Q cs 1099 [] hp := by
  refine wb_widen (cs' := (cs.1 + 5, cs.2 + 26)) (Nat.le_add_right _ _) (Nat.le_add_right _ _) ?_
  refine wb_x G dL_law_1099 ?_
  refine wb_argC G 1 rfl dL_law_1100 dL_law_1101 dL_law_1102 dL_law_1103 dL_law_1104 (by omega) ?_
  refine wb_argC G 2 rfl dL_law_1105 dL_law_1106 dL_law_1107 dL_law_1108 dL_law_1109 (by omega) ?_
  refine wb_argC G 3 rfl dL_law_1110 dL_law_1111 dL_law_1112 dL_law_1113 dL_law_1114 (by omega) ?_
  refine wb_argC G 4 rfl dL_law_1115 dL_law_1116 dL_law_1117 dL_law_1118 dL_law_1119 (by omega) ?_
  refine wb_c1 (as := [zI (xz xs (i + 1)), zI (xz xs (i + 2)), zI (xz xs (i + 3)), zI (xz xs (i + 4))]) (rest := []) G (pr_score (xz_r _ _) (xz_r _ _) (xz_r _ _) (xz_r _ _) hLI) hLI mX9_score lL_114 iX9_score eX9_score ⟨_, rfl, rfl⟩ dL_law_1120 rfl rfl (Nat.le_of_ble_eq_true rfl) (by decide) hc (fun z hp1 P2 => ?_)
  refine wb_m G dL_law_1123 ?_
  refine wb_argC G 1 rfl dL_law_1124 dL_law_1125 dL_law_1126 dL_law_1127 dL_law_1128 (by omega) ?_
  refine wb_argC G 2 rfl dL_law_1129 dL_law_1130 dL_law_1131 dL_law_1132 dL_law_1133 (by omega) ?_
  refine wb_argC G 3 rfl dL_law_1134 dL_law_1135 dL_law_1136 dL_law_1137 dL_law_1138 (by omega) ?_
  refine wb_argC G 4 rfl dL_law_1139 dL_law_1140 dL_law_1141 dL_law_1142 dL_law_1143 (by omega) ?_
  refine wb_c2 (as := [zI (xz xs (i + 1)), zI (xz xs (i + 2)), zI (xz xs (i + 3)), zI (xz xs (i + 4))]) (rest := [zJ z]) G P2 mX10_score lL_117 iX10_score eX10_score ⟨_, rfl, rfl⟩ dL_law_1144 rfl rfl (Nat.le_of_ble_eq_true rfl) (by decide) hc (fun hp2 h2 => ?_)
  refine wb_eqJ G dL_law_1147 dL_law_1148 ?_
  exact kk hp2 h2

theorem case_24 {K : KT} {b i L : Nat} {xs : Nat → Int32} {Q : State → Prop} {cs : Nat × Nat} {hp : PH} (G : GL K b L xs) (hi : i + 7 ≤ L) (hc : cs.1 + 5 ≤ room_1.cells ∧ cs.2 + 26 ≤ room_1.slots) (hLI : LI hp.1 (hget hp)) (kk : ∀ hp2 : PH, LI hp2.1 (hget hp2) → WpB K b i Q (cs.1 + 5, cs.2 + 26) 1600 [] hp2) : WpB K b i Q cs 1153 [] hp := by
  refine wb_widen (cs' := (cs.1 + 5, cs.2 + 26)) (Nat.le_add_right _ _) (Nat.le_add_right _ _) ?_
  refine wb_x G dL_law_1153 ?_
  refine wb_argC G 1 rfl dL_law_1154 dL_law_1155 dL_law_1156 dL_law_1157 dL_law_1158 (by omega) ?_
  refine wb_argC G 2 rfl dL_law_1159 dL_law_1160 dL_law_1161 dL_law_1162 dL_law_1163 (by omega) ?_
  refine wb_argC G 3 rfl dL_law_1164 dL_law_1165 dL_law_1166 dL_law_1167 dL_law_1168 (by omega) ?_
  refine wb_argC G 4 rfl dL_law_1169 dL_law_1170 dL_law_1171 dL_law_1172 dL_law_1173 (by omega) ?_
  refine wb_argC G 5 rfl dL_law_1174 dL_law_1175 dL_law_1176 dL_law_1177 dL_law_1178 (by omega) ?_
  refine wb_argP G 6 rfl (by decide) dL_law_1179 dL_law_1180 dL_law_1181 dL_law_1183 dL_law_1184 (by omega) ?_
  refine wb_c1 (as := [zI (xz xs (i + 1)), zI (xz xs (i + 2)), zI (xz xs (i + 3)), zI (xz xs (i + 4)), zI (xz xs (i + 5)), zI (xz xs (i + 6))]) (rest := []) G (pr_mixed (xz_r _ _) (xz_r _ _) (xz_r _ _) (xz_r _ _) (xz_r _ _) (xz_r _ _) hLI) hLI mX9_mixed lL_118 iX9_mixed eX9_mixed ⟨_, rfl, rfl⟩ dL_law_1185 rfl rfl (Nat.le_of_ble_eq_true rfl) (by decide) hc (fun z hp1 P2 => ?_)
  refine wb_m G dL_law_1188 ?_
  refine wb_argC G 1 rfl dL_law_1189 dL_law_1190 dL_law_1191 dL_law_1192 dL_law_1193 (by omega) ?_
  refine wb_argC G 2 rfl dL_law_1194 dL_law_1195 dL_law_1196 dL_law_1197 dL_law_1198 (by omega) ?_
  refine wb_argC G 3 rfl dL_law_1199 dL_law_1200 dL_law_1201 dL_law_1202 dL_law_1203 (by omega) ?_
  refine wb_argC G 4 rfl dL_law_1204 dL_law_1205 dL_law_1206 dL_law_1207 dL_law_1208 (by omega) ?_
  refine wb_argC G 5 rfl dL_law_1209 dL_law_1210 dL_law_1211 dL_law_1212 dL_law_1213 (by omega) ?_
  refine wb_argP G 6 rfl (by decide) dL_law_1214 dL_law_1215 dL_law_1216 dL_law_1218 dL_law_1219 (by omega) ?_
  refine wb_c2 (as := [zI (xz xs (i + 1)), zI (xz xs (i + 2)), zI (xz xs (i + 3)), zI (xz xs (i + 4)), zI (xz xs (i + 5)), zI (xz xs (i + 6))]) (rest := [zJ z]) G P2 mX10_mixed lL_122 iX10_mixed eX10_mixed ⟨_, rfl, rfl⟩ dL_law_1220 rfl rfl (Nat.le_of_ble_eq_true rfl) (by decide) hc (fun hp2 h2 => ?_)
  refine wb_eqJ G dL_law_1223 dL_law_1224 ?_
  exact kk hp2 h2

theorem case_25 {K : KT} {b i L : Nat} {xs : Nat → Int32} {Q : State → Prop} {cs : Nat × Nat} {hp : PH} (G : GL K b L xs) (hi : i + 7 ≤ L) (hc : cs.1 + 5 ≤ room_1.cells ∧ cs.2 + 26 ≤ room_1.slots) (hLI : LI hp.1 (hget hp)) (kk : ∀ hp2 : PH, LI hp2.1 (hget hp2) → WpB K b i Q (cs.1 + 5, cs.2 + 26) 1600 [] hp2) : WpB K b i Q cs 1229 [] hp := by
  refine wb_widen (cs' := (cs.1 + 5, cs.2 + 26)) (Nat.le_add_right _ _) (Nat.le_add_right _ _) ?_
  refine wb_x G dL_law_1229 ?_
  refine wb_argC G 1 rfl dL_law_1230 dL_law_1231 dL_law_1232 dL_law_1233 dL_law_1234 (by omega) ?_
  refine wb_argC G 2 rfl dL_law_1235 dL_law_1236 dL_law_1237 dL_law_1238 dL_law_1239 (by omega) ?_
  refine wb_argC G 3 rfl dL_law_1240 dL_law_1241 dL_law_1242 dL_law_1243 dL_law_1244 (by omega) ?_
  refine wb_argC G 4 rfl dL_law_1245 dL_law_1246 dL_law_1247 dL_law_1248 dL_law_1249 (by omega) ?_
  refine wb_argC G 5 rfl dL_law_1250 dL_law_1251 dL_law_1252 dL_law_1253 dL_law_1254 (by omega) ?_
  refine wb_c1 (as := [zI (xz xs (i + 1)), zI (xz xs (i + 2)), zI (xz xs (i + 3)), zI (xz xs (i + 4)), zI (xz xs (i + 5))]) (rest := []) G (pr_best (xz_r _ _) (xz_r _ _) (xz_r _ _) (xz_r _ _) (xz_r _ _) hLI) hLI mX9_best lL_123 iX9_best eX9_best ⟨_, rfl, rfl⟩ dL_law_1255 rfl rfl (Nat.le_of_ble_eq_true rfl) (by decide) hc (fun z hp1 P2 => ?_)
  refine wb_m G dL_law_1258 ?_
  refine wb_argC G 1 rfl dL_law_1259 dL_law_1260 dL_law_1261 dL_law_1262 dL_law_1263 (by omega) ?_
  refine wb_argC G 2 rfl dL_law_1264 dL_law_1265 dL_law_1266 dL_law_1267 dL_law_1268 (by omega) ?_
  refine wb_argC G 3 rfl dL_law_1269 dL_law_1270 dL_law_1271 dL_law_1272 dL_law_1273 (by omega) ?_
  refine wb_argC G 4 rfl dL_law_1274 dL_law_1275 dL_law_1276 dL_law_1277 dL_law_1278 (by omega) ?_
  refine wb_argC G 5 rfl dL_law_1279 dL_law_1280 dL_law_1281 dL_law_1282 dL_law_1283 (by omega) ?_
  refine wb_c2 (as := [zI (xz xs (i + 1)), zI (xz xs (i + 2)), zI (xz xs (i + 3)), zI (xz xs (i + 4)), zI (xz xs (i + 5))]) (rest := [zI z]) G P2 mX10_best lL_127 iX10_best eX10_best ⟨_, rfl, rfl⟩ dL_law_1284 rfl rfl (Nat.le_of_ble_eq_true rfl) (by decide) hc (fun hp2 h2 => ?_)
  refine wb_eqI G dL_law_1287 ?_
  exact kk hp2 h2

theorem case_26 {K : KT} {b i L : Nat} {xs : Nat → Int32} {Q : State → Prop} {cs : Nat × Nat} {hp : PH} (G : GL K b L xs) (hi : i + 7 ≤ L) (hc : cs.1 + 5 ≤ room_1.cells ∧ cs.2 + 26 ≤ room_1.slots) (hLI : LI hp.1 (hget hp)) (kk : ∀ hp2 : PH, LI hp2.1 (hget hp2) → WpB K b i Q (cs.1 + 5, cs.2 + 26) 1600 [] hp2) : WpB K b i Q cs 1292 [] hp := by
  refine wb_widen (cs' := (cs.1 + 5, cs.2 + 26)) (Nat.le_add_right _ _) (Nat.le_add_right _ _) ?_
  refine wb_x G dL_law_1292 ?_
  refine wb_argC G 1 rfl dL_law_1293 dL_law_1294 dL_law_1295 dL_law_1296 dL_law_1297 (by omega) ?_
  refine wb_argC G 2 rfl dL_law_1298 dL_law_1299 dL_law_1300 dL_law_1301 dL_law_1302 (by omega) ?_
  refine wb_argC G 3 rfl dL_law_1303 dL_law_1304 dL_law_1305 dL_law_1306 dL_law_1307 (by omega) ?_
  refine wb_argC G 4 rfl dL_law_1308 dL_law_1309 dL_law_1310 dL_law_1311 dL_law_1312 (by omega) ?_
  refine wb_argC G 5 rfl dL_law_1313 dL_law_1314 dL_law_1315 dL_law_1316 dL_law_1317 (by omega) ?_
  refine wb_c1 (as := [zI (xz xs (i + 1)), zI (xz xs (i + 2)), zI (xz xs (i + 3)), zI (xz xs (i + 4)), zI (xz xs (i + 5))]) (rest := []) G (pr_house (xz_r _ _) (xz_r _ _) (xz_r _ _) (xz_r _ _) (xz_r _ _) hLI) hLI mX9_house lL_128 iX9_house eX9_house ⟨_, rfl, rfl⟩ dL_law_1318 rfl rfl (Nat.le_of_ble_eq_true rfl) (by decide) hc (fun z hp1 P2 => ?_)
  refine wb_m G dL_law_1321 ?_
  refine wb_argC G 1 rfl dL_law_1322 dL_law_1323 dL_law_1324 dL_law_1325 dL_law_1326 (by omega) ?_
  refine wb_argC G 2 rfl dL_law_1327 dL_law_1328 dL_law_1329 dL_law_1330 dL_law_1331 (by omega) ?_
  refine wb_argC G 3 rfl dL_law_1332 dL_law_1333 dL_law_1334 dL_law_1335 dL_law_1336 (by omega) ?_
  refine wb_argC G 4 rfl dL_law_1337 dL_law_1338 dL_law_1339 dL_law_1340 dL_law_1341 (by omega) ?_
  refine wb_argC G 5 rfl dL_law_1342 dL_law_1343 dL_law_1344 dL_law_1345 dL_law_1346 (by omega) ?_
  refine wb_c2 (as := [zI (xz xs (i + 1)), zI (xz xs (i + 2)), zI (xz xs (i + 3)), zI (xz xs (i + 4)), zI (xz xs (i + 5))]) (rest := [zI z]) G P2 mX10_house lL_131 iX10_house eX10_house ⟨_, rfl, rfl⟩ dL_law_1347 rfl rfl (Nat.le_of_ble_eq_true rfl) (by decide) hc (fun hp2 h2 => ?_)
  refine wb_eqI G dL_law_1350 ?_
  exact kk hp2 h2

theorem case_27 {K : KT} {b i L : Nat} {xs : Nat → Int32} {Q : State → Prop} {cs : Nat × Nat} {hp : PH} (G : GL K b L xs) (hi : i + 7 ≤ L) (hc : cs.1 + 5 ≤ room_1.cells ∧ cs.2 + 26 ≤ room_1.slots) (hLI : LI hp.1 (hget hp)) (kk : ∀ hp2 : PH, LI hp2.1 (hget hp2) → WpB K b i Q (cs.1 + 5, cs.2 + 26) 1600 [] hp2) : WpB K b i Q cs 1355 [] hp := by
  refine wb_widen (cs' := (cs.1 + 5, cs.2 + 26)) (Nat.le_add_right _ _) (Nat.le_add_right _ _) ?_
  refine wb_x G dL_law_1355 ?_
  refine wb_argC G 1 rfl dL_law_1356 dL_law_1357 dL_law_1358 dL_law_1359 dL_law_1360 (by omega) ?_
  refine wb_argC G 2 rfl dL_law_1361 dL_law_1362 dL_law_1363 dL_law_1364 dL_law_1365 (by omega) ?_
  refine wb_argC G 3 rfl dL_law_1366 dL_law_1367 dL_law_1368 dL_law_1369 dL_law_1370 (by omega) ?_
  refine wb_c1 (as := [zI (xz xs (i + 1)), zI (xz xs (i + 2)), zI (xz xs (i + 3))]) (rest := []) G (pr_damage (xz_r _ _) (xz_r _ _) (xz_r _ _) hLI) hLI mX9_damage lL_132 iX9_damage eX9_damage ⟨_, rfl, rfl⟩ dL_law_1371 rfl rfl (Nat.le_of_ble_eq_true rfl) (by decide) hc (fun z hp1 P2 => ?_)
  refine wb_m G dL_law_1374 ?_
  refine wb_argC G 1 rfl dL_law_1375 dL_law_1376 dL_law_1377 dL_law_1378 dL_law_1379 (by omega) ?_
  refine wb_argC G 2 rfl dL_law_1380 dL_law_1381 dL_law_1382 dL_law_1383 dL_law_1384 (by omega) ?_
  refine wb_argC G 3 rfl dL_law_1385 dL_law_1386 dL_law_1387 dL_law_1388 dL_law_1389 (by omega) ?_
  refine wb_c2 (as := [zI (xz xs (i + 1)), zI (xz xs (i + 2)), zI (xz xs (i + 3))]) (rest := [zI z]) G P2 mX10_damage lL_135 iX10_damage eX10_damage ⟨_, rfl, rfl⟩ dL_law_1390 rfl rfl (Nat.le_of_ble_eq_true rfl) (by decide) hc (fun hp2 h2 => ?_)
  refine wb_eqI G dL_law_1393 ?_
  exact kk hp2 h2

theorem case_28 {K : KT} {b i L : Nat} {xs : Nat → Int32} {Q : State → Prop} {cs : Nat × Nat} {hp : PH} (G : GL K b L xs) (hi : i + 7 ≤ L) (hc : cs.1 + 5 ≤ room_1.cells ∧ cs.2 + 26 ≤ room_1.slots) (hLI : LI hp.1 (hget hp)) (kk : ∀ hp2 : PH, LI hp2.1 (hget hp2) → WpB K b i Q (cs.1 + 5, cs.2 + 26) 1600 [] hp2) : WpB K b i Q cs 1398 [] hp := by
  refine wb_widen (cs' := (cs.1 + 5, cs.2 + 26)) (Nat.le_add_right _ _) (Nat.le_add_right _ _) ?_
  refine wb_x G dL_law_1398 ?_
  refine wb_argC G 1 rfl dL_law_1399 dL_law_1400 dL_law_1401 dL_law_1402 dL_law_1403 (by omega) ?_
  refine wb_c1 (as := [zI (xz xs (i + 1))]) (rest := []) G (pr_loss (xz_r _ _) hLI) hLI mX9_loss lL_136 iX9_loss eX9_loss ⟨_, rfl, rfl⟩ dL_law_1404 rfl rfl (Nat.le_of_ble_eq_true rfl) (by decide) hc (fun z hp1 P2 => ?_)
  refine wb_m G dL_law_1407 ?_
  refine wb_argC G 1 rfl dL_law_1408 dL_law_1409 dL_law_1410 dL_law_1411 dL_law_1412 (by omega) ?_
  refine wb_c2 (as := [zI (xz xs (i + 1))]) (rest := [zI z]) G P2 mX10_loss lL_139 iX10_loss eX10_loss ⟨_, rfl, rfl⟩ dL_law_1413 rfl rfl (Nat.le_of_ble_eq_true rfl) (by decide) hc (fun hp2 h2 => ?_)
  refine wb_eqI G dL_law_1416 ?_
  exact kk hp2 h2

theorem case_29 {K : KT} {b i L : Nat} {xs : Nat → Int32} {Q : State → Prop} {cs : Nat × Nat} {hp : PH} (G : GL K b L xs) (hi : i + 7 ≤ L) (hc : cs.1 + 5 ≤ room_1.cells ∧ cs.2 + 26 ≤ room_1.slots) (hLI : LI hp.1 (hget hp)) (kk : ∀ hp2 : PH, LI hp2.1 (hget hp2) → WpB K b i Q (cs.1 + 5, cs.2 + 26) 1600 [] hp2) : WpB K b i Q cs 1421 [] hp := by
  refine wb_widen (cs' := (cs.1 + 5, cs.2 + 26)) (Nat.le_add_right _ _) (Nat.le_add_right _ _) ?_
  refine wb_x G dL_law_1421 ?_
  refine wb_argC G 1 rfl dL_law_1422 dL_law_1423 dL_law_1424 dL_law_1425 dL_law_1426 (by omega) ?_
  refine wb_argC G 2 rfl dL_law_1427 dL_law_1428 dL_law_1429 dL_law_1430 dL_law_1431 (by omega) ?_
  refine wb_c1 (as := [zI (xz xs (i + 1)), zI (xz xs (i + 2))]) (rest := []) G (pr_worst (xz_r _ _) (xz_r _ _) hLI) hLI mX9_worst lL_140 iX9_worst eX9_worst ⟨_, rfl, rfl⟩ dL_law_1432 rfl rfl (Nat.le_of_ble_eq_true rfl) (by decide) hc (fun z hp1 P2 => ?_)
  refine wb_m G dL_law_1435 ?_
  refine wb_argC G 1 rfl dL_law_1436 dL_law_1437 dL_law_1438 dL_law_1439 dL_law_1440 (by omega) ?_
  refine wb_argC G 2 rfl dL_law_1441 dL_law_1442 dL_law_1443 dL_law_1444 dL_law_1445 (by omega) ?_
  refine wb_c2 (as := [zI (xz xs (i + 1)), zI (xz xs (i + 2))]) (rest := [zI z]) G P2 mX10_worst lL_143 iX10_worst eX10_worst ⟨_, rfl, rfl⟩ dL_law_1446 rfl rfl (Nat.le_of_ble_eq_true rfl) (by decide) hc (fun hp2 h2 => ?_)
  refine wb_eqI G dL_law_1449 ?_
  exact kk hp2 h2

theorem case_30 {K : KT} {b i L : Nat} {xs : Nat → Int32} {Q : State → Prop} {cs : Nat × Nat} {hp : PH} (G : GL K b L xs) (hi : i + 7 ≤ L) (hc : cs.1 + 5 ≤ room_1.cells ∧ cs.2 + 26 ≤ room_1.slots) (hLI : LI hp.1 (hget hp)) (kk : ∀ hp2 : PH, LI hp2.1 (hget hp2) → WpB K b i Q (cs.1 + 5, cs.2 + 26) 1600 [] hp2) : WpB K b i Q cs 1454 [] hp := by
  refine wb_widen (cs' := (cs.1 + 5, cs.2 + 26)) (Nat.le_add_right _ _) (Nat.le_add_right _ _) ?_
  refine wb_x G dL_law_1454 ?_
  refine wb_argC G 1 rfl dL_law_1455 dL_law_1456 dL_law_1457 dL_law_1458 dL_law_1459 (by omega) ?_
  refine wb_argC G 2 rfl dL_law_1460 dL_law_1461 dL_law_1462 dL_law_1463 dL_law_1464 (by omega) ?_
  refine wb_argC G 3 rfl dL_law_1465 dL_law_1466 dL_law_1467 dL_law_1468 dL_law_1469 (by omega) ?_
  refine wb_argC G 4 rfl dL_law_1470 dL_law_1471 dL_law_1472 dL_law_1473 dL_law_1474 (by omega) ?_
  refine wb_c1 (as := [zI (xz xs (i + 1)), zI (xz xs (i + 2)), zI (xz xs (i + 3)), zI (xz xs (i + 4))]) (rest := []) G (pr_law (xz_r _ _) (xz_r _ _) (xz_r _ _) (xz_r _ _) hLI) hLI mX9_law lL_144 iX9_law eX9_law ⟨_, rfl, rfl⟩ dL_law_1475 rfl rfl (Nat.le_of_ble_eq_true rfl) (by decide) hc (fun z hp1 P2 => ?_)
  refine wb_m G dL_law_1478 ?_
  refine wb_argC G 1 rfl dL_law_1479 dL_law_1480 dL_law_1481 dL_law_1482 dL_law_1483 (by omega) ?_
  refine wb_argC G 2 rfl dL_law_1484 dL_law_1485 dL_law_1486 dL_law_1487 dL_law_1488 (by omega) ?_
  refine wb_argC G 3 rfl dL_law_1489 dL_law_1490 dL_law_1491 dL_law_1492 dL_law_1493 (by omega) ?_
  refine wb_argC G 4 rfl dL_law_1494 dL_law_1495 dL_law_1496 dL_law_1497 dL_law_1498 (by omega) ?_
  refine wb_c2 (as := [zI (xz xs (i + 1)), zI (xz xs (i + 2)), zI (xz xs (i + 3)), zI (xz xs (i + 4))]) (rest := [zI z]) G P2 mX10_law lL_147 iX10_law eX10_law ⟨_, rfl, rfl⟩ dL_law_1499 rfl rfl (Nat.le_of_ble_eq_true rfl) (by decide) hc (fun hp2 h2 => ?_)
  refine wb_eqI G dL_law_1502 ?_
  exact kk hp2 h2

theorem case_31 {K : KT} {b i L : Nat} {xs : Nat → Int32} {Q : State → Prop} {cs : Nat × Nat} {hp : PH} (G : GL K b L xs) (hi : i + 7 ≤ L) (hc : cs.1 + 5 ≤ room_1.cells ∧ cs.2 + 26 ≤ room_1.slots) (hLI : LI hp.1 (hget hp)) (kk : ∀ hp2 : PH, LI hp2.1 (hget hp2) → WpB K b i Q (cs.1 + 5, cs.2 + 26) 1600 [] hp2) : WpB K b i Q cs 1507 [] hp := by
  refine wb_widen (cs' := (cs.1 + 5, cs.2 + 26)) (Nat.le_add_right _ _) (Nat.le_add_right _ _) ?_
  refine wb_x G dL_law_1507 ?_
  refine wb_argC G 1 rfl dL_law_1508 dL_law_1509 dL_law_1510 dL_law_1511 dL_law_1512 (by omega) ?_
  refine wb_c1 (as := [zI (xz xs (i + 1))]) (rest := []) G (pr_curve (xz_r _ _) hLI) hLI mX9_curve lL_148 iX9_curve eX9_curve ⟨_, rfl, rfl⟩ dL_law_1513 rfl rfl (Nat.le_of_ble_eq_true rfl) (by decide) hc (fun z hp1 P2 => ?_)
  refine wb_m G dL_law_1516 ?_
  refine wb_argC G 1 rfl dL_law_1517 dL_law_1518 dL_law_1519 dL_law_1520 dL_law_1521 (by omega) ?_
  refine wb_c2 (as := [zI (xz xs (i + 1))]) (rest := [zI z]) G P2 mX10_curve lL_151 iX10_curve eX10_curve ⟨_, rfl, rfl⟩ dL_law_1522 rfl rfl (Nat.le_of_ble_eq_true rfl) (by decide) hc (fun hp2 h2 => ?_)
  refine wb_eqI G dL_law_1525 ?_
  exact kk hp2 h2

theorem case_32 {K : KT} {b i L : Nat} {xs : Nat → Int32} {Q : State → Prop} {cs : Nat × Nat} {hp : PH} (G : GL K b L xs) (hi : i + 7 ≤ L) (hc : cs.1 + 5 ≤ room_1.cells ∧ cs.2 + 26 ≤ room_1.slots) (hLI : LI hp.1 (hget hp)) (kk : ∀ hp2 : PH, LI hp2.1 (hget hp2) → WpB K b i Q (cs.1 + 5, cs.2 + 26) 1600 [] hp2) : WpB K b i Q cs 1530 [] hp := by
  refine wb_widen (cs' := (cs.1 + 5, cs.2 + 26)) (Nat.le_add_right _ _) (Nat.le_add_right _ _) ?_
  refine wb_x G dL_law_1530 ?_
  refine wb_argC G 1 rfl dL_law_1531 dL_law_1532 dL_law_1533 dL_law_1534 dL_law_1535 (by omega) ?_
  refine wb_c1 (as := [zI (xz xs (i + 1))]) (rest := []) G (pr_mean (xz_r _ _) hLI) hLI mX9_mean lL_152 iX9_mean eX9_mean ⟨_, rfl, rfl⟩ dL_law_1536 rfl rfl (Nat.le_of_ble_eq_true rfl) (by decide) hc (fun z hp1 P2 => ?_)
  refine wb_m G dL_law_1539 ?_
  refine wb_argC G 1 rfl dL_law_1540 dL_law_1541 dL_law_1542 dL_law_1543 dL_law_1544 (by omega) ?_
  refine wb_c2 (as := [zI (xz xs (i + 1))]) (rest := [zJ z]) G P2 mX10_mean lL_156 iX10_mean eX10_mean ⟨_, rfl, rfl⟩ dL_law_1545 rfl rfl (Nat.le_of_ble_eq_true rfl) (by decide) hc (fun hp2 h2 => ?_)
  refine wb_eqJ G dL_law_1548 dL_law_1549 ?_
  exact kk hp2 h2

theorem case_33 {K : KT} {b i L : Nat} {xs : Nat → Int32} {Q : State → Prop} {cs : Nat × Nat} {hp : PH} (G : GL K b L xs) (hi : i + 7 ≤ L) (hc : cs.1 + 5 ≤ room_1.cells ∧ cs.2 + 26 ≤ room_1.slots) (hLI : LI hp.1 (hget hp)) (kk : ∀ hp2 : PH, LI hp2.1 (hget hp2) → WpB K b i Q (cs.1 + 5, cs.2 + 26) 1600 [] hp2) : WpB K b i Q cs 1554 [] hp := by
  refine wb_widen (cs' := (cs.1 + 5, cs.2 + 26)) (Nat.le_add_right _ _) (Nat.le_add_right _ _) ?_
  refine wb_x G dL_law_1554 ?_
  refine wb_argC G 1 rfl dL_law_1555 dL_law_1556 dL_law_1557 dL_law_1558 dL_law_1559 (by omega) ?_
  refine wb_c1 (as := [zI (xz xs (i + 1))]) (rest := []) G (pr_strengthen (xz_r _ _) hLI) hLI mX9_strengthen lL_157 iX9_strengthen eX9_strengthen ⟨_, rfl, rfl⟩ dL_law_1560 rfl rfl (Nat.le_of_ble_eq_true rfl) (by decide) hc (fun z hp1 P2 => ?_)
  refine wb_m G dL_law_1563 ?_
  refine wb_argC G 1 rfl dL_law_1564 dL_law_1565 dL_law_1566 dL_law_1567 dL_law_1568 (by omega) ?_
  refine wb_c2 (as := [zI (xz xs (i + 1))]) (rest := [zI z]) G P2 mX10_strengthen lL_160 iX10_strengthen eX10_strengthen ⟨_, rfl, rfl⟩ dL_law_1569 rfl rfl (Nat.le_of_ble_eq_true rfl) (by decide) hc (fun hp2 h2 => ?_)
  refine wb_eqI G dL_law_1572 ?_
  exact kk hp2 h2

theorem case_34 {K : KT} {b i L : Nat} {xs : Nat → Int32} {Q : State → Prop} {cs : Nat × Nat} {hp : PH} (G : GL K b L xs) (hi : i + 7 ≤ L) (hc : cs.1 + 5 ≤ room_1.cells ∧ cs.2 + 26 ≤ room_1.slots) (hLI : LI hp.1 (hget hp)) (kk : ∀ hp2 : PH, LI hp2.1 (hget hp2) → WpB K b i Q (cs.1 + 5, cs.2 + 26) 1600 [] hp2) : WpB K b i Q cs 1577 [] hp := by
  refine wb_widen (cs' := (cs.1 + 5, cs.2 + 26)) (Nat.le_add_right _ _) (Nat.le_add_right _ _) ?_
  refine wb_x G dL_law_1577 ?_
  refine wb_argC G 1 rfl dL_law_1578 dL_law_1579 dL_law_1580 dL_law_1581 dL_law_1582 (by omega) ?_
  refine wb_c1 (as := [zI (xz xs (i + 1))]) (rest := []) G (pr_told (xz_r _ _) hLI) hLI mX9_told lL_161 iX9_told eX9_told ⟨_, rfl, rfl⟩ dL_law_1583 rfl rfl (Nat.le_of_ble_eq_true rfl) (by decide) hc (fun z hp1 P2 => ?_)
  refine wb_m G dL_law_1586 ?_
  refine wb_argC G 1 rfl dL_law_1587 dL_law_1588 dL_law_1589 dL_law_1590 dL_law_1591 (by omega) ?_
  refine wb_c2 (as := [zI (xz xs (i + 1))]) (rest := [zI z]) G P2 mX10_told lL_164 iX10_told eX10_told ⟨_, rfl, rfl⟩ dL_law_1592 rfl rfl (Nat.le_of_ble_eq_true rfl) (by decide) hc (fun hp2 h2 => ?_)
  refine wb_eqI G dL_law_1595 ?_
  exact kk hp2 h2

