theorem op_person {Z : PL} {p : Program} {l : Launch} {e : Env} {s : State} {m : MethodId} {b L i : Nat} {xs : Nat → Int32} {below : List Frame} {meth : Method} {c : Code} {H : Heap} {locs : List Loc} {cells slots : Nat} {Q : State → Prop} {ls : Array Slot} {v : VV} {w : WV} (X : LX Z p s m b meth c L xs i) (h : HS Z s v w H locs) (hok : OKv (v, w)) (hl : LH Z b i ls) (hc : RoomOk cells slots) (kk : ∀ (u2 : VW) (H1 : Heap) (locs1 : List Loc), HS Z s u2.1 u2.2 H1 locs1 → OKv u2 → W p l e room_1 s m #[Value.ref b] below meth c H1 locs1 cells slots Q (F0 m 1380 ls [])) : W p l e room_1 s m #[Value.ref b] below meth c H locs cells slots Q (F0 m 204 ls []) := by
  refine lv_aload_n X.1.1 X.1.2.1 dL_law_204 rfl (lv_at hl 2 rfl) ?_
  refine r_arg X h hl 1 (by decide) (by decide) dL_law_205 dL_law_206 dL_law_207 dL_law_208 dL_law_209 ?_
  refine r_arg X h hl 2 (by decide) (by decide) dL_law_210 dL_law_211 dL_law_212 dL_law_213 dL_law_214 ?_
  refine r_arg X h hl 3 (by decide) (by decide) dL_law_215 dL_law_216 dL_law_217 dL_law_218 dL_law_219 ?_
  refine r_c1I X h hl hc (sim_person l Z hok _ _ _) mi_X7_person ml_RL_13 rfl (by decide) rfl rfl (Nat.le_of_ble_eq_true rfl) dL_law_220 (fun r1 u1 H locs h hs => ?_)
  refine lv_aload_n X.1.1 X.1.2.1 dL_law_223 rfl (lv_at hl 1 rfl) ?_
  refine r_arg X h hl 1 (by decide) (by decide) dL_law_224 dL_law_225 dL_law_226 dL_law_227 dL_law_228 ?_
  refine r_arg X h hl 2 (by decide) (by decide) dL_law_229 dL_law_230 dL_law_231 dL_law_232 dL_law_233 ?_
  refine r_arg X h hl 3 (by decide) (by decide) dL_law_234 dL_law_235 dL_law_236 dL_law_237 dL_law_238 ?_
  refine r_c2I X (rest := [.int r1]) h hl hc hs mi_X8_person ml_RL_17 rfl (by decide) rfl rfl (Nat.le_of_ble_eq_true rfl) dL_law_239 (fun u2 H locs h hok => ?_)
  exact r_eqI X dL_law_242 (by decide) (kk u2 _ _ h hok)
theorem op_of {Z : PL} {p : Program} {l : Launch} {e : Env} {s : State} {m : MethodId} {b L i : Nat} {xs : Nat → Int32} {below : List Frame} {meth : Method} {c : Code} {H : Heap} {locs : List Loc} {cells slots : Nat} {Q : State → Prop} {ls : Array Slot} {v : VV} {w : WV} (X : LX Z p s m b meth c L xs i) (h : HS Z s v w H locs) (hok : OKv (v, w)) (hl : LH Z b i ls) (hc : RoomOk cells slots) (kk : ∀ (u2 : VW) (H1 : Heap) (locs1 : List Loc), HS Z s u2.1 u2.2 H1 locs1 → OKv u2 → W p l e room_1 s m #[Value.ref b] below meth c H1 locs1 cells slots Q (F0 m 1380 ls [])) : W p l e room_1 s m #[Value.ref b] below meth c H locs cells slots Q (F0 m 247 ls []) := by
  refine lv_aload_n X.1.1 X.1.2.1 dL_law_247 rfl (lv_at hl 2 rfl) ?_
  refine r_arg X h hl 1 (by decide) (by decide) dL_law_248 dL_law_249 dL_law_250 dL_law_251 dL_law_252 ?_
  refine r_arg X h hl 2 (by decide) (by decide) dL_law_253 dL_law_254 dL_law_255 dL_law_256 dL_law_257 ?_
  refine r_c1I X h hl hc (sim_of l Z hok _ _) mi_X7_of ml_RL_18 rfl (by decide) rfl rfl (Nat.le_of_ble_eq_true rfl) dL_law_258 (fun r1 u1 H locs h hs => ?_)
  refine lv_aload_n X.1.1 X.1.2.1 dL_law_261 rfl (lv_at hl 1 rfl) ?_
  refine r_arg X h hl 1 (by decide) (by decide) dL_law_262 dL_law_263 dL_law_264 dL_law_265 dL_law_266 ?_
  refine r_arg X h hl 2 (by decide) (by decide) dL_law_267 dL_law_268 dL_law_269 dL_law_270 dL_law_271 ?_
  refine r_c2I X (rest := [.int r1]) h hl hc hs mi_X8_of ml_RL_22 rfl (by decide) rfl rfl (Nat.le_of_ble_eq_true rfl) dL_law_272 (fun u2 H locs h hok => ?_)
  exact r_eqI X dL_law_275 (by decide) (kk u2 _ _ h hok)
theorem op_thanks {Z : PL} {p : Program} {l : Launch} {e : Env} {s : State} {m : MethodId} {b L i : Nat} {xs : Nat → Int32} {below : List Frame} {meth : Method} {c : Code} {H : Heap} {locs : List Loc} {cells slots : Nat} {Q : State → Prop} {ls : Array Slot} {v : VV} {w : WV} (X : LX Z p s m b meth c L xs i) (h : HS Z s v w H locs) (hok : OKv (v, w)) (hl : LH Z b i ls) (hc : RoomOk cells slots) (kk : ∀ (u2 : VW) (H1 : Heap) (locs1 : List Loc), HS Z s u2.1 u2.2 H1 locs1 → OKv u2 → W p l e room_1 s m #[Value.ref b] below meth c H1 locs1 cells slots Q (F0 m 1380 ls [])) : W p l e room_1 s m #[Value.ref b] below meth c H locs cells slots Q (F0 m 280 ls []) := by
  refine lv_aload_n X.1.1 X.1.2.1 dL_law_280 rfl (lv_at hl 2 rfl) ?_
  refine r_arg X h hl 1 (by decide) (by decide) dL_law_281 dL_law_282 dL_law_283 dL_law_284 dL_law_285 ?_
  refine r_arg X h hl 2 (by decide) (by decide) dL_law_286 dL_law_287 dL_law_288 dL_law_289 dL_law_290 ?_
  refine r_c1I X h hl hc (sim_thanks l Z hok _ _) mi_X7_thanks ml_RL_23 rfl (by decide) rfl rfl (Nat.le_of_ble_eq_true rfl) dL_law_291 (fun r1 u1 H locs h hs => ?_)
  refine lv_aload_n X.1.1 X.1.2.1 dL_law_294 rfl (lv_at hl 1 rfl) ?_
  refine r_arg X h hl 1 (by decide) (by decide) dL_law_295 dL_law_296 dL_law_297 dL_law_298 dL_law_299 ?_
  refine r_arg X h hl 2 (by decide) (by decide) dL_law_300 dL_law_301 dL_law_302 dL_law_303 dL_law_304 ?_
  refine r_c2I X (rest := [.int r1]) h hl hc hs mi_X8_thanks ml_RL_26 rfl (by decide) rfl rfl (Nat.le_of_ble_eq_true rfl) dL_law_305 (fun u2 H locs h hok => ?_)
  exact r_eqI X dL_law_308 (by decide) (kk u2 _ _ h hok)
theorem op_kill {Z : PL} {p : Program} {l : Launch} {e : Env} {s : State} {m : MethodId} {b L i : Nat} {xs : Nat → Int32} {below : List Frame} {meth : Method} {c : Code} {H : Heap} {locs : List Loc} {cells slots : Nat} {Q : State → Prop} {ls : Array Slot} {v : VV} {w : WV} (X : LX Z p s m b meth c L xs i) (h : HS Z s v w H locs) (hok : OKv (v, w)) (hl : LH Z b i ls) (hc : RoomOk cells slots) (kk : ∀ (u2 : VW) (H1 : Heap) (locs1 : List Loc), HS Z s u2.1 u2.2 H1 locs1 → OKv u2 → W p l e room_1 s m #[Value.ref b] below meth c H1 locs1 cells slots Q (F0 m 1380 ls [])) : W p l e room_1 s m #[Value.ref b] below meth c H locs cells slots Q (F0 m 313 ls []) := by
  by_cases hz : xs (i + 2) = 0
  · skip
    refine lv_aload_n X.1.1 X.1.2.1 dL_law_313 rfl (lv_at hl 2 rfl) ?_
    refine r_arg X h hl 1 (by decide) (by decide) dL_law_314 dL_law_315 dL_law_316 dL_law_317 dL_law_318 ?_
    refine r_arg X h hl 2 (by decide) (by decide) dL_law_319 dL_law_320 dL_law_321 dL_law_322 dL_law_323 ?_
    refine lv_if_eq (tgt := 331) X.1.1 X.1.2.1 dL_law_324 (by decide) (fun _ => ?_) (fun q => absurd hz q)
    refine lv_iconst (v := 0) X.1.1 X.1.2.1 dL_law_331 (by decide) ?_
    refine r_c1I X h hl hc (sim_kill l Z hok _ _) mi_X7_kill ml_RL_27 rfl (by decide) rfl rfl (Nat.le_of_ble_eq_true rfl) dL_law_332 (fun r1 u1 H locs h hs => ?_)
    refine lv_aload_n X.1.1 X.1.2.1 dL_law_335 rfl (lv_at hl 1 rfl) ?_
    refine r_arg X h hl 1 (by decide) (by decide) dL_law_336 dL_law_337 dL_law_338 dL_law_339 dL_law_340 ?_
    refine r_arg X h hl 2 (by decide) (by decide) dL_law_341 dL_law_342 dL_law_343 dL_law_344 dL_law_345 ?_
    refine lv_if_eq (tgt := 353) X.1.1 X.1.2.1 dL_law_346 (by decide) (fun _ => ?_) (fun q => absurd hz q)
    refine lv_iconst (v := 0) X.1.1 X.1.2.1 dL_law_353 (by decide) ?_
    refine r_c2I X (rest := [.int r1]) h hl hc hs mi_X8_kill ml_RL_31 rfl (by decide) rfl rfl (Nat.le_of_ble_eq_true rfl) dL_law_354 (fun u2 H locs h hok => ?_)
    exact r_eqI X dL_law_357 (by decide) (kk u2 _ _ h hok)
  · skip
    refine lv_aload_n X.1.1 X.1.2.1 dL_law_313 rfl (lv_at hl 2 rfl) ?_
    refine r_arg X h hl 1 (by decide) (by decide) dL_law_314 dL_law_315 dL_law_316 dL_law_317 dL_law_318 ?_
    refine r_arg X h hl 2 (by decide) (by decide) dL_law_319 dL_law_320 dL_law_321 dL_law_322 dL_law_323 ?_
    refine lv_if_eq (tgt := 331) X.1.1 X.1.2.1 dL_law_324 (by decide) (fun q => absurd q hz) (fun _ => ?_)
    refine lv_iconst (v := 1) X.1.1 X.1.2.1 dL_law_327 (by decide) ?_
    refine lv_goto (tgt := 332) X.1.1 X.1.2.1 dL_law_328 (by decide) ?_
    refine r_c1I X h hl hc (sim_kill l Z hok _ _) mi_X7_kill ml_RL_27 rfl (by decide) rfl rfl (Nat.le_of_ble_eq_true rfl) dL_law_332 (fun r1 u1 H locs h hs => ?_)
    refine lv_aload_n X.1.1 X.1.2.1 dL_law_335 rfl (lv_at hl 1 rfl) ?_
    refine r_arg X h hl 1 (by decide) (by decide) dL_law_336 dL_law_337 dL_law_338 dL_law_339 dL_law_340 ?_
    refine r_arg X h hl 2 (by decide) (by decide) dL_law_341 dL_law_342 dL_law_343 dL_law_344 dL_law_345 ?_
    refine lv_if_eq (tgt := 353) X.1.1 X.1.2.1 dL_law_346 (by decide) (fun q => absurd q hz) (fun _ => ?_)
    refine lv_iconst (v := 1) X.1.1 X.1.2.1 dL_law_349 (by decide) ?_
    refine lv_goto (tgt := 354) X.1.1 X.1.2.1 dL_law_350 (by decide) ?_
    refine r_c2I X (rest := [.int r1]) h hl hc hs mi_X8_kill ml_RL_31 rfl (by decide) rfl rfl (Nat.le_of_ble_eq_true rfl) dL_law_354 (fun u2 H locs h hok => ?_)
    exact r_eqI X dL_law_357 (by decide) (kk u2 _ _ h hok)
theorem op_row {Z : PL} {p : Program} {l : Launch} {e : Env} {s : State} {m : MethodId} {b L i : Nat} {xs : Nat → Int32} {below : List Frame} {meth : Method} {c : Code} {H : Heap} {locs : List Loc} {cells slots : Nat} {Q : State → Prop} {ls : Array Slot} {v : VV} {w : WV} (X : LX Z p s m b meth c L xs i) (h : HS Z s v w H locs) (hok : OKv (v, w)) (hl : LH Z b i ls) (hc : RoomOk cells slots) (kk : ∀ (u2 : VW) (H1 : Heap) (locs1 : List Loc), HS Z s u2.1 u2.2 H1 locs1 → OKv u2 → W p l e room_1 s m #[Value.ref b] below meth c H1 locs1 cells slots Q (F0 m 1380 ls [])) : W p l e room_1 s m #[Value.ref b] below meth c H locs cells slots Q (F0 m 362 ls []) := by
  refine lv_aload_n X.1.1 X.1.2.1 dL_law_362 rfl (lv_at hl 2 rfl) ?_
  refine r_arg X h hl 1 (by decide) (by decide) dL_law_363 dL_law_364 dL_law_365 dL_law_366 dL_law_367 ?_
  refine r_arg X h hl 2 (by decide) (by decide) dL_law_368 dL_law_369 dL_law_370 dL_law_371 dL_law_372 ?_
  refine r_arg X h hl 3 (by decide) (by decide) dL_law_373 dL_law_374 dL_law_375 dL_law_376 dL_law_377 ?_
  refine r_c1I X h hl hc (sim_row l Z hok _ _ _) mi_X7_row ml_RL_32 rfl (by decide) rfl rfl (Nat.le_of_ble_eq_true rfl) dL_law_378 (fun r1 u1 H locs h hs => ?_)
  refine lv_aload_n X.1.1 X.1.2.1 dL_law_381 rfl (lv_at hl 1 rfl) ?_
  refine r_arg X h hl 1 (by decide) (by decide) dL_law_382 dL_law_383 dL_law_384 dL_law_385 dL_law_386 ?_
  refine r_arg X h hl 2 (by decide) (by decide) dL_law_387 dL_law_388 dL_law_389 dL_law_390 dL_law_391 ?_
  refine r_arg X h hl 3 (by decide) (by decide) dL_law_392 dL_law_393 dL_law_394 dL_law_395 dL_law_396 ?_
  refine r_c2I X (rest := [.int r1]) h hl hc hs mi_X8_row ml_RL_35 rfl (by decide) rfl rfl (Nat.le_of_ble_eq_true rfl) dL_law_397 (fun u2 H locs h hok => ?_)
  exact r_eqI X dL_law_400 (by decide) (kk u2 _ _ h hok)
theorem op_soldier {Z : PL} {p : Program} {l : Launch} {e : Env} {s : State} {m : MethodId} {b L i : Nat} {xs : Nat → Int32} {below : List Frame} {meth : Method} {c : Code} {H : Heap} {locs : List Loc} {cells slots : Nat} {Q : State → Prop} {ls : Array Slot} {v : VV} {w : WV} (X : LX Z p s m b meth c L xs i) (h : HS Z s v w H locs) (hok : OKv (v, w)) (hl : LH Z b i ls) (hc : RoomOk cells slots) (kk : ∀ (u2 : VW) (H1 : Heap) (locs1 : List Loc), HS Z s u2.1 u2.2 H1 locs1 → OKv u2 → W p l e room_1 s m #[Value.ref b] below meth c H1 locs1 cells slots Q (F0 m 1380 ls [])) : W p l e room_1 s m #[Value.ref b] below meth c H locs cells slots Q (F0 m 405 ls []) := by
  refine lv_aload_n X.1.1 X.1.2.1 dL_law_405 rfl (lv_at hl 2 rfl) ?_
  refine r_arg X h hl 1 (by decide) (by decide) dL_law_406 dL_law_407 dL_law_408 dL_law_409 dL_law_410 ?_
  refine r_arg X h hl 2 (by decide) (by decide) dL_law_411 dL_law_412 dL_law_413 dL_law_414 dL_law_415 ?_
  refine r_c1I X h hl hc (sim_soldier l Z hok _ _) mi_X7_soldier ml_RL_36 rfl (by decide) rfl rfl (Nat.le_of_ble_eq_true rfl) dL_law_416 (fun r1 u1 H locs h hs => ?_)
  refine lv_aload_n X.1.1 X.1.2.1 dL_law_419 rfl (lv_at hl 1 rfl) ?_
  refine r_arg X h hl 1 (by decide) (by decide) dL_law_420 dL_law_421 dL_law_422 dL_law_423 dL_law_424 ?_
  refine r_arg X h hl 2 (by decide) (by decide) dL_law_425 dL_law_426 dL_law_427 dL_law_428 dL_law_429 ?_
  refine r_c2I X (rest := [.int r1]) h hl hc hs mi_X8_soldier ml_RL_39 rfl (by decide) rfl rfl (Nat.le_of_ble_eq_true rfl) dL_law_430 (fun u2 H locs h hok => ?_)
  exact r_eqI X dL_law_433 (by decide) (kk u2 _ _ h hok)
theorem op_round {Z : PL} {p : Program} {l : Launch} {e : Env} {s : State} {m : MethodId} {b L i : Nat} {xs : Nat → Int32} {below : List Frame} {meth : Method} {c : Code} {H : Heap} {locs : List Loc} {cells slots : Nat} {Q : State → Prop} {ls : Array Slot} {v : VV} {w : WV} (X : LX Z p s m b meth c L xs i) (h : HS Z s v w H locs) (hok : OKv (v, w)) (hl : LH Z b i ls) (hc : RoomOk cells slots) (kk : ∀ (u2 : VW) (H1 : Heap) (locs1 : List Loc), HS Z s u2.1 u2.2 H1 locs1 → OKv u2 → W p l e room_1 s m #[Value.ref b] below meth c H1 locs1 cells slots Q (F0 m 1380 ls [])) : W p l e room_1 s m #[Value.ref b] below meth c H locs cells slots Q (F0 m 438 ls []) := by
  refine lv_aload_n X.1.1 X.1.2.1 dL_law_438 rfl (lv_at hl 2 rfl) ?_
  refine r_arg X h hl 1 (by decide) (by decide) dL_law_439 dL_law_440 dL_law_441 dL_law_442 dL_law_443 ?_
  refine r_c1I X h hl hc (sim_round l Z hok _) mi_X7_round ml_RL_40 rfl (by decide) rfl rfl (Nat.le_of_ble_eq_true rfl) dL_law_444 (fun r1 u1 H locs h hs => ?_)
  refine lv_aload_n X.1.1 X.1.2.1 dL_law_447 rfl (lv_at hl 1 rfl) ?_
  refine r_arg X h hl 1 (by decide) (by decide) dL_law_448 dL_law_449 dL_law_450 dL_law_451 dL_law_452 ?_
  refine r_c2I X (rest := [.int r1]) h hl hc hs mi_X8_round ml_RL_44 rfl (by decide) rfl rfl (Nat.le_of_ble_eq_true rfl) dL_law_453 (fun u2 H locs h hok => ?_)
  exact r_eqI X dL_law_456 (by decide) (kk u2 _ _ h hok)
theorem op_feed {Z : PL} {p : Program} {l : Launch} {e : Env} {s : State} {m : MethodId} {b L i : Nat} {xs : Nat → Int32} {below : List Frame} {meth : Method} {c : Code} {H : Heap} {locs : List Loc} {cells slots : Nat} {Q : State → Prop} {ls : Array Slot} {v : VV} {w : WV} (X : LX Z p s m b meth c L xs i) (h : HS Z s v w H locs) (hok : OKv (v, w)) (hl : LH Z b i ls) (hc : RoomOk cells slots) (kk : ∀ (u2 : VW) (H1 : Heap) (locs1 : List Loc), HS Z s u2.1 u2.2 H1 locs1 → OKv u2 → W p l e room_1 s m #[Value.ref b] below meth c H1 locs1 cells slots Q (F0 m 1380 ls [])) : W p l e room_1 s m #[Value.ref b] below meth c H locs cells slots Q (F0 m 461 ls []) := by
  refine lv_aload_n X.1.1 X.1.2.1 dL_law_461 rfl (lv_at hl 2 rfl) ?_
  refine r_arg X h hl 1 (by decide) (by decide) dL_law_462 dL_law_463 dL_law_464 dL_law_465 dL_law_466 ?_
  refine r_c1I X h hl hc (sim_feed l Z hok _) mi_X7_feed ml_RL_45 rfl (by decide) rfl rfl (Nat.le_of_ble_eq_true rfl) dL_law_467 (fun r1 u1 H locs h hs => ?_)
  refine lv_aload_n X.1.1 X.1.2.1 dL_law_470 rfl (lv_at hl 1 rfl) ?_
  refine r_arg X h hl 1 (by decide) (by decide) dL_law_471 dL_law_472 dL_law_473 dL_law_474 dL_law_475 ?_
  refine r_c2I X (rest := [.int r1]) h hl hc hs mi_X8_feed ml_RL_48 rfl (by decide) rfl rfl (Nat.le_of_ble_eq_true rfl) dL_law_476 (fun u2 H locs h hok => ?_)
  exact r_eqI X dL_law_479 (by decide) (kk u2 _ _ h hok)
theorem op_land {Z : PL} {p : Program} {l : Launch} {e : Env} {s : State} {m : MethodId} {b L i : Nat} {xs : Nat → Int32} {below : List Frame} {meth : Method} {c : Code} {H : Heap} {locs : List Loc} {cells slots : Nat} {Q : State → Prop} {ls : Array Slot} {v : VV} {w : WV} (X : LX Z p s m b meth c L xs i) (h : HS Z s v w H locs) (hok : OKv (v, w)) (hl : LH Z b i ls) (hc : RoomOk cells slots) (kk : ∀ (u2 : VW) (H1 : Heap) (locs1 : List Loc), HS Z s u2.1 u2.2 H1 locs1 → OKv u2 → W p l e room_1 s m #[Value.ref b] below meth c H1 locs1 cells slots Q (F0 m 1380 ls [])) : W p l e room_1 s m #[Value.ref b] below meth c H locs cells slots Q (F0 m 484 ls []) := by
  refine lv_aload_n X.1.1 X.1.2.1 dL_law_484 rfl (lv_at hl 2 rfl) ?_
  refine r_c1I X h hl hc (sim_land l Z hok) mi_X7_land ml_RL_49 rfl (by decide) rfl rfl (Nat.le_of_ble_eq_true rfl) dL_law_485 (fun r1 u1 H locs h hs => ?_)
  refine lv_aload_n X.1.1 X.1.2.1 dL_law_488 rfl (lv_at hl 1 rfl) ?_
  refine r_c2I X (rest := [.int r1]) h hl hc hs mi_X8_land ml_RL_53 rfl (by decide) rfl rfl (Nat.le_of_ble_eq_true rfl) dL_law_489 (fun u2 H locs h hok => ?_)
  exact r_eqI X dL_law_492 (by decide) (kk u2 _ _ h hok)
theorem op_told {Z : PL} {p : Program} {l : Launch} {e : Env} {s : State} {m : MethodId} {b L i : Nat} {xs : Nat → Int32} {below : List Frame} {meth : Method} {c : Code} {H : Heap} {locs : List Loc} {cells slots : Nat} {Q : State → Prop} {ls : Array Slot} {v : VV} {w : WV} (X : LX Z p s m b meth c L xs i) (h : HS Z s v w H locs) (hok : OKv (v, w)) (hl : LH Z b i ls) (hc : RoomOk cells slots) (kk : ∀ (u2 : VW) (H1 : Heap) (locs1 : List Loc), HS Z s u2.1 u2.2 H1 locs1 → OKv u2 → W p l e room_1 s m #[Value.ref b] below meth c H1 locs1 cells slots Q (F0 m 1380 ls [])) : W p l e room_1 s m #[Value.ref b] below meth c H locs cells slots Q (F0 m 497 ls []) := by
  refine lv_aload_n X.1.1 X.1.2.1 dL_law_497 rfl (lv_at hl 2 rfl) ?_
  refine r_arg X h hl 1 (by decide) (by decide) dL_law_498 dL_law_499 dL_law_500 dL_law_501 dL_law_502 ?_
  refine r_c1I X h hl hc (sim_told l Z hok _) mi_X7_told ml_RL_54 rfl (by decide) rfl rfl (Nat.le_of_ble_eq_true rfl) dL_law_503 (fun r1 u1 H locs h hs => ?_)
  refine lv_aload_n X.1.1 X.1.2.1 dL_law_506 rfl (lv_at hl 1 rfl) ?_
  refine r_arg X h hl 1 (by decide) (by decide) dL_law_507 dL_law_508 dL_law_509 dL_law_510 dL_law_511 ?_
  refine r_c2I X (rest := [.int r1]) h hl hc hs mi_X8_told ml_RL_57 rfl (by decide) rfl rfl (Nat.le_of_ble_eq_true rfl) dL_law_512 (fun u2 H locs h hok => ?_)
  exact r_eqI X dL_law_515 (by decide) (kk u2 _ _ h hok)
theorem op_pass {Z : PL} {p : Program} {l : Launch} {e : Env} {s : State} {m : MethodId} {b L i : Nat} {xs : Nat → Int32} {below : List Frame} {meth : Method} {c : Code} {H : Heap} {locs : List Loc} {cells slots : Nat} {Q : State → Prop} {ls : Array Slot} {v : VV} {w : WV} (X : LX Z p s m b meth c L xs i) (h : HS Z s v w H locs) (hok : OKv (v, w)) (hl : LH Z b i ls) (hc : RoomOk cells slots) (kk : ∀ (u2 : VW) (H1 : Heap) (locs1 : List Loc), HS Z s u2.1 u2.2 H1 locs1 → OKv u2 → W p l e room_1 s m #[Value.ref b] below meth c H1 locs1 cells slots Q (F0 m 1380 ls [])) : W p l e room_1 s m #[Value.ref b] below meth c H locs cells slots Q (F0 m 520 ls []) := by
  refine lv_aload_n X.1.1 X.1.2.1 dL_law_520 rfl (lv_at hl 2 rfl) ?_
  refine r_arg X h hl 1 (by decide) (by decide) dL_law_521 dL_law_522 dL_law_523 dL_law_524 dL_law_525 ?_
  refine r_c1I X h hl hc (sim_pass l Z hok _) mi_X7_pass ml_RL_58 rfl (by decide) rfl rfl (Nat.le_of_ble_eq_true rfl) dL_law_526 (fun r1 u1 H locs h hs => ?_)
  refine lv_aload_n X.1.1 X.1.2.1 dL_law_529 rfl (lv_at hl 1 rfl) ?_
  refine r_arg X h hl 1 (by decide) (by decide) dL_law_530 dL_law_531 dL_law_532 dL_law_533 dL_law_534 ?_
  refine r_c2I X (rest := [.int r1]) h hl hc hs mi_X8_pass ml_RL_61 rfl (by decide) rfl rfl (Nat.le_of_ble_eq_true rfl) dL_law_535 (fun u2 H locs h hok => ?_)
  exact r_eqI X dL_law_538 (by decide) (kk u2 _ _ h hok)
theorem op_on {Z : PL} {p : Program} {l : Launch} {e : Env} {s : State} {m : MethodId} {b L i : Nat} {xs : Nat → Int32} {below : List Frame} {meth : Method} {c : Code} {H : Heap} {locs : List Loc} {cells slots : Nat} {Q : State → Prop} {ls : Array Slot} {v : VV} {w : WV} (X : LX Z p s m b meth c L xs i) (h : HS Z s v w H locs) (hok : OKv (v, w)) (hl : LH Z b i ls) (hc : RoomOk cells slots) (kk : ∀ (u2 : VW) (H1 : Heap) (locs1 : List Loc), HS Z s u2.1 u2.2 H1 locs1 → OKv u2 → W p l e room_1 s m #[Value.ref b] below meth c H1 locs1 cells slots Q (F0 m 1380 ls [])) : W p l e room_1 s m #[Value.ref b] below meth c H locs cells slots Q (F0 m 543 ls []) := by
  refine lv_aload_n X.1.1 X.1.2.1 dL_law_543 rfl (lv_at hl 2 rfl) ?_
  refine r_arg X h hl 1 (by decide) (by decide) dL_law_544 dL_law_545 dL_law_546 dL_law_547 dL_law_548 ?_
  refine r_arg X h hl 2 (by decide) (by decide) dL_law_549 dL_law_550 dL_law_551 dL_law_552 dL_law_553 ?_
  refine r_c1I X h hl hc (sim_on l Z hok _ _) mi_X7_on ml_RL_62 rfl (by decide) rfl rfl (Nat.le_of_ble_eq_true rfl) dL_law_554 (fun r1 u1 H locs h hs => ?_)
  refine lv_aload_n X.1.1 X.1.2.1 dL_law_557 rfl (lv_at hl 1 rfl) ?_
  refine r_arg X h hl 1 (by decide) (by decide) dL_law_558 dL_law_559 dL_law_560 dL_law_561 dL_law_562 ?_
  refine r_arg X h hl 2 (by decide) (by decide) dL_law_563 dL_law_564 dL_law_565 dL_law_566 dL_law_567 ?_
  refine r_c2I X (rest := [.int r1]) h hl hc hs mi_X8_on ml_RL_65 rfl (by decide) rfl rfl (Nat.le_of_ble_eq_true rfl) dL_law_568 (fun u2 H locs h hok => ?_)
  exact r_eqI X dL_law_571 (by decide) (kk u2 _ _ h hok)
theorem op_dies {Z : PL} {p : Program} {l : Launch} {e : Env} {s : State} {m : MethodId} {b L i : Nat} {xs : Nat → Int32} {below : List Frame} {meth : Method} {c : Code} {H : Heap} {locs : List Loc} {cells slots : Nat} {Q : State → Prop} {ls : Array Slot} {v : VV} {w : WV} (X : LX Z p s m b meth c L xs i) (h : HS Z s v w H locs) (hok : OKv (v, w)) (hl : LH Z b i ls) (hc : RoomOk cells slots) (kk : ∀ (u2 : VW) (H1 : Heap) (locs1 : List Loc), HS Z s u2.1 u2.2 H1 locs1 → OKv u2 → W p l e room_1 s m #[Value.ref b] below meth c H1 locs1 cells slots Q (F0 m 1380 ls [])) : W p l e room_1 s m #[Value.ref b] below meth c H locs cells slots Q (F0 m 576 ls []) := by
  refine lv_aload_n X.1.1 X.1.2.1 dL_law_576 rfl (lv_at hl 2 rfl) ?_
  refine r_c1I X h hl hc (sim_dies l Z hok) mi_X7_dies ml_RL_66 rfl (by decide) rfl rfl (Nat.le_of_ble_eq_true rfl) dL_law_577 (fun r1 u1 H locs h hs => ?_)
  refine lv_aload_n X.1.1 X.1.2.1 dL_law_580 rfl (lv_at hl 1 rfl) ?_
  refine r_c2I X (rest := [.int r1]) h hl hc hs mi_X8_dies ml_RL_69 rfl (by decide) rfl rfl (Nat.le_of_ble_eq_true rfl) dL_law_581 (fun u2 H locs h hok => ?_)
  exact r_eqI X dL_law_584 (by decide) (kk u2 _ _ h hok)
theorem op_worst {Z : PL} {p : Program} {l : Launch} {e : Env} {s : State} {m : MethodId} {b L i : Nat} {xs : Nat → Int32} {below : List Frame} {meth : Method} {c : Code} {H : Heap} {locs : List Loc} {cells slots : Nat} {Q : State → Prop} {ls : Array Slot} {v : VV} {w : WV} (X : LX Z p s m b meth c L xs i) (h : HS Z s v w H locs) (hok : OKv (v, w)) (hl : LH Z b i ls) (hc : RoomOk cells slots) (kk : ∀ (u2 : VW) (H1 : Heap) (locs1 : List Loc), HS Z s u2.1 u2.2 H1 locs1 → OKv u2 → W p l e room_1 s m #[Value.ref b] below meth c H1 locs1 cells slots Q (F0 m 1380 ls [])) : W p l e room_1 s m #[Value.ref b] below meth c H locs cells slots Q (F0 m 589 ls []) := by
  refine lv_aload_n X.1.1 X.1.2.1 dL_law_589 rfl (lv_at hl 2 rfl) ?_
  refine r_arg X h hl 1 (by decide) (by decide) dL_law_590 dL_law_591 dL_law_592 dL_law_593 dL_law_594 ?_
  refine r_arg X h hl 2 (by decide) (by decide) dL_law_595 dL_law_596 dL_law_597 dL_law_598 dL_law_599 ?_
  refine r_c1I X h hl hc (sim_worst l Z hok _ _) mi_X7_worst ml_RL_70 rfl (by decide) rfl rfl (Nat.le_of_ble_eq_true rfl) dL_law_600 (fun r1 u1 H locs h hs => ?_)
  refine lv_aload_n X.1.1 X.1.2.1 dL_law_603 rfl (lv_at hl 1 rfl) ?_
  refine r_arg X h hl 1 (by decide) (by decide) dL_law_604 dL_law_605 dL_law_606 dL_law_607 dL_law_608 ?_
  refine r_arg X h hl 2 (by decide) (by decide) dL_law_609 dL_law_610 dL_law_611 dL_law_612 dL_law_613 ?_
  refine r_c2I X (rest := [.int r1]) h hl hc hs mi_X8_worst ml_RL_73 rfl (by decide) rfl rfl (Nat.le_of_ble_eq_true rfl) dL_law_614 (fun u2 H locs h hok => ?_)
  exact r_eqI X dL_law_617 (by decide) (kk u2 _ _ h hok)
theorem op_aim {Z : PL} {p : Program} {l : Launch} {e : Env} {s : State} {m : MethodId} {b L i : Nat} {xs : Nat → Int32} {below : List Frame} {meth : Method} {c : Code} {H : Heap} {locs : List Loc} {cells slots : Nat} {Q : State → Prop} {ls : Array Slot} {v : VV} {w : WV} (X : LX Z p s m b meth c L xs i) (h : HS Z s v w H locs) (hok : OKv (v, w)) (hl : LH Z b i ls) (hc : RoomOk cells slots) (kk : ∀ (u2 : VW) (H1 : Heap) (locs1 : List Loc), HS Z s u2.1 u2.2 H1 locs1 → OKv u2 → W p l e room_1 s m #[Value.ref b] below meth c H1 locs1 cells slots Q (F0 m 1380 ls [])) : W p l e room_1 s m #[Value.ref b] below meth c H locs cells slots Q (F0 m 622 ls []) := by
  refine lv_aload_n X.1.1 X.1.2.1 dL_law_622 rfl (lv_at hl 2 rfl) ?_
  refine r_c1I X h hl hc (sim_aim l Z hok) mi_X7_aim ml_RL_74 rfl (by decide) rfl rfl (Nat.le_of_ble_eq_true rfl) dL_law_623 (fun r1 u1 H locs h hs => ?_)
  refine lv_aload_n X.1.1 X.1.2.1 dL_law_626 rfl (lv_at hl 1 rfl) ?_
  refine r_c2I X (rest := [.int r1]) h hl hc hs mi_X8_aim ml_RL_77 rfl (by decide) rfl rfl (Nat.le_of_ble_eq_true rfl) dL_law_627 (fun u2 H locs h hok => ?_)
  exact r_eqI X dL_law_630 (by decide) (kk u2 _ _ h hok)
theorem op_swap {Z : PL} {p : Program} {l : Launch} {e : Env} {s : State} {m : MethodId} {b L i : Nat} {xs : Nat → Int32} {below : List Frame} {meth : Method} {c : Code} {H : Heap} {locs : List Loc} {cells slots : Nat} {Q : State → Prop} {ls : Array Slot} {v : VV} {w : WV} (X : LX Z p s m b meth c L xs i) (h : HS Z s v w H locs) (hok : OKv (v, w)) (hl : LH Z b i ls) (hc : RoomOk cells slots) (kk : ∀ (u2 : VW) (H1 : Heap) (locs1 : List Loc), HS Z s u2.1 u2.2 H1 locs1 → OKv u2 → W p l e room_1 s m #[Value.ref b] below meth c H1 locs1 cells slots Q (F0 m 1380 ls [])) : W p l e room_1 s m #[Value.ref b] below meth c H locs cells slots Q (F0 m 635 ls []) := by
  refine lv_aload_n X.1.1 X.1.2.1 dL_law_635 rfl (lv_at hl 2 rfl) ?_
  refine r_c1I X h hl hc (sim_swap l Z hok) mi_X7_swap ml_RL_78 rfl (by decide) rfl rfl (Nat.le_of_ble_eq_true rfl) dL_law_636 (fun r1 u1 H locs h hs => ?_)
  refine lv_aload_n X.1.1 X.1.2.1 dL_law_639 rfl (lv_at hl 1 rfl) ?_
  refine r_c2I X (rest := [.int r1]) h hl hc hs mi_X8_swap ml_RL_81 rfl (by decide) rfl rfl (Nat.le_of_ble_eq_true rfl) dL_law_640 (fun u2 H locs h hok => ?_)
  exact r_eqI X dL_law_643 (by decide) (kk u2 _ _ h hok)
theorem op_enough {Z : PL} {p : Program} {l : Launch} {e : Env} {s : State} {m : MethodId} {b L i : Nat} {xs : Nat → Int32} {below : List Frame} {meth : Method} {c : Code} {H : Heap} {locs : List Loc} {cells slots : Nat} {Q : State → Prop} {ls : Array Slot} {v : VV} {w : WV} (X : LX Z p s m b meth c L xs i) (h : HS Z s v w H locs) (hok : OKv (v, w)) (hl : LH Z b i ls) (hc : RoomOk cells slots) (kk : ∀ (u2 : VW) (H1 : Heap) (locs1 : List Loc), HS Z s u2.1 u2.2 H1 locs1 → OKv u2 → W p l e room_1 s m #[Value.ref b] below meth c H1 locs1 cells slots Q (F0 m 1380 ls [])) : W p l e room_1 s m #[Value.ref b] below meth c H locs cells slots Q (F0 m 648 ls []) := by
  refine lv_aload_n X.1.1 X.1.2.1 dL_law_648 rfl (lv_at hl 2 rfl) ?_
  refine r_arg X h hl 1 (by decide) (by decide) dL_law_649 dL_law_650 dL_law_651 dL_law_652 dL_law_653 ?_
  refine r_c1I X h hl hc (sim_enough l Z hok _) mi_X7_enough ml_RL_82 rfl (by decide) rfl rfl (Nat.le_of_ble_eq_true rfl) dL_law_654 (fun r1 u1 H locs h hs => ?_)
  refine lv_aload_n X.1.1 X.1.2.1 dL_law_657 rfl (lv_at hl 1 rfl) ?_
  refine r_arg X h hl 1 (by decide) (by decide) dL_law_658 dL_law_659 dL_law_660 dL_law_661 dL_law_662 ?_
  refine r_c2I X (rest := [.int r1]) h hl hc hs mi_X8_enough ml_RL_85 rfl (by decide) rfl rfl (Nat.le_of_ble_eq_true rfl) dL_law_663 (fun u2 H locs h hok => ?_)
  exact r_eqI X dL_law_666 (by decide) (kk u2 _ _ h hok)
theorem op_bears {Z : PL} {p : Program} {l : Launch} {e : Env} {s : State} {m : MethodId} {b L i : Nat} {xs : Nat → Int32} {below : List Frame} {meth : Method} {c : Code} {H : Heap} {locs : List Loc} {cells slots : Nat} {Q : State → Prop} {ls : Array Slot} {v : VV} {w : WV} (X : LX Z p s m b meth c L xs i) (h : HS Z s v w H locs) (hok : OKv (v, w)) (hl : LH Z b i ls) (hc : RoomOk cells slots) (kk : ∀ (u2 : VW) (H1 : Heap) (locs1 : List Loc), HS Z s u2.1 u2.2 H1 locs1 → OKv u2 → W p l e room_1 s m #[Value.ref b] below meth c H1 locs1 cells slots Q (F0 m 1380 ls [])) : W p l e room_1 s m #[Value.ref b] below meth c H locs cells slots Q (F0 m 671 ls []) := by
  refine lv_aload_n X.1.1 X.1.2.1 dL_law_671 rfl (lv_at hl 2 rfl) ?_
  refine r_arg X h hl 1 (by decide) (by decide) dL_law_672 dL_law_673 dL_law_674 dL_law_675 dL_law_676 ?_
  refine r_c1I X h hl hc (sim_bears l Z hok _) mi_X7_bears ml_RL_86 rfl (by decide) rfl rfl (Nat.le_of_ble_eq_true rfl) dL_law_677 (fun r1 u1 H locs h hs => ?_)
  refine lv_aload_n X.1.1 X.1.2.1 dL_law_680 rfl (lv_at hl 1 rfl) ?_
  refine r_arg X h hl 1 (by decide) (by decide) dL_law_681 dL_law_682 dL_law_683 dL_law_684 dL_law_685 ?_
  refine r_c2I X (rest := [.int r1]) h hl hc hs mi_X8_bears ml_RL_89 rfl (by decide) rfl rfl (Nat.le_of_ble_eq_true rfl) dL_law_686 (fun u2 H locs h hok => ?_)
  exact r_eqI X dL_law_689 (by decide) (kk u2 _ _ h hok)
theorem op_whose {Z : PL} {p : Program} {l : Launch} {e : Env} {s : State} {m : MethodId} {b L i : Nat} {xs : Nat → Int32} {below : List Frame} {meth : Method} {c : Code} {H : Heap} {locs : List Loc} {cells slots : Nat} {Q : State → Prop} {ls : Array Slot} {v : VV} {w : WV} (X : LX Z p s m b meth c L xs i) (h : HS Z s v w H locs) (hok : OKv (v, w)) (hl : LH Z b i ls) (hc : RoomOk cells slots) (kk : ∀ (u2 : VW) (H1 : Heap) (locs1 : List Loc), HS Z s u2.1 u2.2 H1 locs1 → OKv u2 → W p l e room_1 s m #[Value.ref b] below meth c H1 locs1 cells slots Q (F0 m 1380 ls [])) : W p l e room_1 s m #[Value.ref b] below meth c H locs cells slots Q (F0 m 694 ls []) := by
  refine lv_aload_n X.1.1 X.1.2.1 dL_law_694 rfl (lv_at hl 2 rfl) ?_
  refine r_arg X h hl 1 (by decide) (by decide) dL_law_695 dL_law_696 dL_law_697 dL_law_698 dL_law_699 ?_
  refine r_c1I X h hl hc (sim_whose l Z hok _) mi_X7_whose ml_RL_90 rfl (by decide) rfl rfl (Nat.le_of_ble_eq_true rfl) dL_law_700 (fun r1 u1 H locs h hs => ?_)
  refine lv_aload_n X.1.1 X.1.2.1 dL_law_703 rfl (lv_at hl 1 rfl) ?_
  refine r_arg X h hl 1 (by decide) (by decide) dL_law_704 dL_law_705 dL_law_706 dL_law_707 dL_law_708 ?_
  refine r_c2I X (rest := [.int r1]) h hl hc hs mi_X8_whose ml_RL_93 rfl (by decide) rfl rfl (Nat.le_of_ble_eq_true rfl) dL_law_709 (fun u2 H locs h hok => ?_)
  exact r_eqI X dL_law_712 (by decide) (kk u2 _ _ h hok)
theorem op_see {Z : PL} {p : Program} {l : Launch} {e : Env} {s : State} {m : MethodId} {b L i : Nat} {xs : Nat → Int32} {below : List Frame} {meth : Method} {c : Code} {H : Heap} {locs : List Loc} {cells slots : Nat} {Q : State → Prop} {ls : Array Slot} {v : VV} {w : WV} (X : LX Z p s m b meth c L xs i) (h : HS Z s v w H locs) (hok : OKv (v, w)) (hl : LH Z b i ls) (hc : RoomOk cells slots) (kk : ∀ (u2 : VW) (H1 : Heap) (locs1 : List Loc), HS Z s u2.1 u2.2 H1 locs1 → OKv u2 → W p l e room_1 s m #[Value.ref b] below meth c H1 locs1 cells slots Q (F0 m 1380 ls [])) : W p l e room_1 s m #[Value.ref b] below meth c H locs cells slots Q (F0 m 717 ls []) := by
  refine lv_aload_n X.1.1 X.1.2.1 dL_law_717 rfl (lv_at hl 2 rfl) ?_
  refine r_arg X h hl 1 (by decide) (by decide) dL_law_718 dL_law_719 dL_law_720 dL_law_721 dL_law_722 ?_
  refine r_arg X h hl 2 (by decide) (by decide) dL_law_723 dL_law_724 dL_law_725 dL_law_726 dL_law_727 ?_
  refine r_c1I X h hl hc (sim_see l Z hok _ _) mi_X7_see ml_RL_94 rfl (by decide) rfl rfl (Nat.le_of_ble_eq_true rfl) dL_law_728 (fun r1 u1 H locs h hs => ?_)
  refine lv_aload_n X.1.1 X.1.2.1 dL_law_731 rfl (lv_at hl 1 rfl) ?_
  refine r_arg X h hl 1 (by decide) (by decide) dL_law_732 dL_law_733 dL_law_734 dL_law_735 dL_law_736 ?_
  refine r_arg X h hl 2 (by decide) (by decide) dL_law_737 dL_law_738 dL_law_739 dL_law_740 dL_law_741 ?_
  refine r_c2I X (rest := [.int r1]) h hl hc hs mi_X8_see ml_RL_97 rfl (by decide) rfl rfl (Nat.le_of_ble_eq_true rfl) dL_law_742 (fun u2 H locs h hok => ?_)
  exact r_eqI X dL_law_745 (by decide) (kk u2 _ _ h hok)
theorem op_was {Z : PL} {p : Program} {l : Launch} {e : Env} {s : State} {m : MethodId} {b L i : Nat} {xs : Nat → Int32} {below : List Frame} {meth : Method} {c : Code} {H : Heap} {locs : List Loc} {cells slots : Nat} {Q : State → Prop} {ls : Array Slot} {v : VV} {w : WV} (X : LX Z p s m b meth c L xs i) (h : HS Z s v w H locs) (hok : OKv (v, w)) (hl : LH Z b i ls) (hc : RoomOk cells slots) (kk : ∀ (u2 : VW) (H1 : Heap) (locs1 : List Loc), HS Z s u2.1 u2.2 H1 locs1 → OKv u2 → W p l e room_1 s m #[Value.ref b] below meth c H1 locs1 cells slots Q (F0 m 1380 ls [])) : W p l e room_1 s m #[Value.ref b] below meth c H locs cells slots Q (F0 m 750 ls []) := by
  refine lv_aload_n X.1.1 X.1.2.1 dL_law_750 rfl (lv_at hl 2 rfl) ?_
  refine r_arg X h hl 1 (by decide) (by decide) dL_law_751 dL_law_752 dL_law_753 dL_law_754 dL_law_755 ?_
  refine r_arg X h hl 2 (by decide) (by decide) dL_law_756 dL_law_757 dL_law_758 dL_law_759 dL_law_760 ?_
  refine r_c1I X h hl hc (sim_was l Z hok _ _) mi_X7_was ml_RL_98 rfl (by decide) rfl rfl (Nat.le_of_ble_eq_true rfl) dL_law_761 (fun r1 u1 H locs h hs => ?_)
  refine lv_aload_n X.1.1 X.1.2.1 dL_law_764 rfl (lv_at hl 1 rfl) ?_
  refine r_arg X h hl 1 (by decide) (by decide) dL_law_765 dL_law_766 dL_law_767 dL_law_768 dL_law_769 ?_
  refine r_arg X h hl 2 (by decide) (by decide) dL_law_770 dL_law_771 dL_law_772 dL_law_773 dL_law_774 ?_
  refine r_c2I X (rest := [.int r1]) h hl hc hs mi_X8_was ml_RL_101 rfl (by decide) rfl rfl (Nat.le_of_ble_eq_true rfl) dL_law_775 (fun u2 H locs h hok => ?_)
  exact r_eqI X dL_law_778 (by decide) (kk u2 _ _ h hok)
theorem op_can {Z : PL} {p : Program} {l : Launch} {e : Env} {s : State} {m : MethodId} {b L i : Nat} {xs : Nat → Int32} {below : List Frame} {meth : Method} {c : Code} {H : Heap} {locs : List Loc} {cells slots : Nat} {Q : State → Prop} {ls : Array Slot} {v : VV} {w : WV} (X : LX Z p s m b meth c L xs i) (h : HS Z s v w H locs) (hok : OKv (v, w)) (hl : LH Z b i ls) (hc : RoomOk cells slots) (kk : ∀ (u2 : VW) (H1 : Heap) (locs1 : List Loc), HS Z s u2.1 u2.2 H1 locs1 → OKv u2 → W p l e room_1 s m #[Value.ref b] below meth c H1 locs1 cells slots Q (F0 m 1380 ls [])) : W p l e room_1 s m #[Value.ref b] below meth c H locs cells slots Q (F0 m 783 ls []) := by
  refine lv_aload_n X.1.1 X.1.2.1 dL_law_783 rfl (lv_at hl 2 rfl) ?_
  refine r_arg X h hl 1 (by decide) (by decide) dL_law_784 dL_law_785 dL_law_786 dL_law_787 dL_law_788 ?_
  refine r_arg X h hl 2 (by decide) (by decide) dL_law_789 dL_law_790 dL_law_791 dL_law_792 dL_law_793 ?_
  refine r_c1I X h hl hc (sim_can l Z hok _ _) mi_X7_can ml_RL_102 rfl (by decide) rfl rfl (Nat.le_of_ble_eq_true rfl) dL_law_794 (fun r1 u1 H locs h hs => ?_)
  refine lv_aload_n X.1.1 X.1.2.1 dL_law_797 rfl (lv_at hl 1 rfl) ?_
  refine r_arg X h hl 1 (by decide) (by decide) dL_law_798 dL_law_799 dL_law_800 dL_law_801 dL_law_802 ?_
  refine r_arg X h hl 2 (by decide) (by decide) dL_law_803 dL_law_804 dL_law_805 dL_law_806 dL_law_807 ?_
  refine r_c2I X (rest := [.int r1]) h hl hc hs mi_X8_can ml_RL_105 rfl (by decide) rfl rfl (Nat.le_of_ble_eq_true rfl) dL_law_808 (fun u2 H locs h hok => ?_)
  exact r_eqI X dL_law_811 (by decide) (kk u2 _ _ h hok)
theorem op_odds {Z : PL} {p : Program} {l : Launch} {e : Env} {s : State} {m : MethodId} {b L i : Nat} {xs : Nat → Int32} {below : List Frame} {meth : Method} {c : Code} {H : Heap} {locs : List Loc} {cells slots : Nat} {Q : State → Prop} {ls : Array Slot} {v : VV} {w : WV} (X : LX Z p s m b meth c L xs i) (h : HS Z s v w H locs) (hok : OKv (v, w)) (hl : LH Z b i ls) (hc : RoomOk cells slots) (kk : ∀ (u2 : VW) (H1 : Heap) (locs1 : List Loc), HS Z s u2.1 u2.2 H1 locs1 → OKv u2 → W p l e room_1 s m #[Value.ref b] below meth c H1 locs1 cells slots Q (F0 m 1380 ls [])) : W p l e room_1 s m #[Value.ref b] below meth c H locs cells slots Q (F0 m 816 ls []) := by
  refine lv_aload_n X.1.1 X.1.2.1 dL_law_816 rfl (lv_at hl 2 rfl) ?_
  refine r_arg X h hl 1 (by decide) (by decide) dL_law_817 dL_law_818 dL_law_819 dL_law_820 dL_law_821 ?_
  refine r_arg X h hl 2 (by decide) (by decide) dL_law_822 dL_law_823 dL_law_824 dL_law_825 dL_law_826 ?_
  refine r_c1L X h hl hc (sim_odds l Z hok _ _) mi_X7_odds ml_RL_106 rfl (by decide) rfl rfl (Nat.le_of_ble_eq_true rfl) dL_law_827 (fun r1 u1 H locs h hs => ?_)
  refine lv_aload_n X.1.1 X.1.2.1 dL_law_830 rfl (lv_at hl 1 rfl) ?_
  refine r_arg X h hl 1 (by decide) (by decide) dL_law_831 dL_law_832 dL_law_833 dL_law_834 dL_law_835 ?_
  refine r_arg X h hl 2 (by decide) (by decide) dL_law_836 dL_law_837 dL_law_838 dL_law_839 dL_law_840 ?_
  refine r_c2L X (rest := [.long r1]) h hl hc hs mi_X8_odds ml_RL_110 rfl (by decide) rfl rfl (Nat.le_of_ble_eq_true rfl) dL_law_841 (fun u2 H locs h hok => ?_)
  exact r_eqL X dL_law_844 dL_law_845 (by decide) (kk u2 _ _ h hok)
theorem op_mean {Z : PL} {p : Program} {l : Launch} {e : Env} {s : State} {m : MethodId} {b L i : Nat} {xs : Nat → Int32} {below : List Frame} {meth : Method} {c : Code} {H : Heap} {locs : List Loc} {cells slots : Nat} {Q : State → Prop} {ls : Array Slot} {v : VV} {w : WV} (X : LX Z p s m b meth c L xs i) (h : HS Z s v w H locs) (hok : OKv (v, w)) (hl : LH Z b i ls) (hc : RoomOk cells slots) (kk : ∀ (u2 : VW) (H1 : Heap) (locs1 : List Loc), HS Z s u2.1 u2.2 H1 locs1 → OKv u2 → W p l e room_1 s m #[Value.ref b] below meth c H1 locs1 cells slots Q (F0 m 1380 ls [])) : W p l e room_1 s m #[Value.ref b] below meth c H locs cells slots Q (F0 m 850 ls []) := by
  refine lv_aload_n X.1.1 X.1.2.1 dL_law_850 rfl (lv_at hl 2 rfl) ?_
  refine r_arg X h hl 1 (by decide) (by decide) dL_law_851 dL_law_852 dL_law_853 dL_law_854 dL_law_855 ?_
  refine r_arg X h hl 2 (by decide) (by decide) dL_law_856 dL_law_857 dL_law_858 dL_law_859 dL_law_860 ?_
  refine r_c1L X h hl hc (sim_mean l Z hok _ _) mi_X7_mean ml_RL_111 rfl (by decide) rfl rfl (Nat.le_of_ble_eq_true rfl) dL_law_861 (fun r1 u1 H locs h hs => ?_)
  refine lv_aload_n X.1.1 X.1.2.1 dL_law_864 rfl (lv_at hl 1 rfl) ?_
  refine r_arg X h hl 1 (by decide) (by decide) dL_law_865 dL_law_866 dL_law_867 dL_law_868 dL_law_869 ?_
  refine r_arg X h hl 2 (by decide) (by decide) dL_law_870 dL_law_871 dL_law_872 dL_law_873 dL_law_874 ?_
  refine r_c2L X (rest := [.long r1]) h hl hc hs mi_X8_mean ml_RL_114 rfl (by decide) rfl rfl (Nat.le_of_ble_eq_true rfl) dL_law_875 (fun u2 H locs h hok => ?_)
  exact r_eqL X dL_law_878 dL_law_879 (by decide) (kk u2 _ _ h hok)
theorem op_winter {Z : PL} {p : Program} {l : Launch} {e : Env} {s : State} {m : MethodId} {b L i : Nat} {xs : Nat → Int32} {below : List Frame} {meth : Method} {c : Code} {H : Heap} {locs : List Loc} {cells slots : Nat} {Q : State → Prop} {ls : Array Slot} {v : VV} {w : WV} (X : LX Z p s m b meth c L xs i) (h : HS Z s v w H locs) (hok : OKv (v, w)) (hl : LH Z b i ls) (hc : RoomOk cells slots) (kk : ∀ (u2 : VW) (H1 : Heap) (locs1 : List Loc), HS Z s u2.1 u2.2 H1 locs1 → OKv u2 → W p l e room_1 s m #[Value.ref b] below meth c H1 locs1 cells slots Q (F0 m 1380 ls [])) : W p l e room_1 s m #[Value.ref b] below meth c H locs cells slots Q (F0 m 884 ls []) := by
  refine lv_aload_n X.1.1 X.1.2.1 dL_law_884 rfl (lv_at hl 2 rfl) ?_
  refine r_arg X h hl 1 (by decide) (by decide) dL_law_885 dL_law_886 dL_law_887 dL_law_888 dL_law_889 ?_
  refine r_arg X h hl 2 (by decide) (by decide) dL_law_890 dL_law_891 dL_law_892 dL_law_893 dL_law_894 ?_
  refine r_c1I X h hl hc (sim_winter l Z hok _ _) mi_X7_winter ml_RL_115 rfl (by decide) rfl rfl (Nat.le_of_ble_eq_true rfl) dL_law_895 (fun r1 u1 H locs h hs => ?_)
  refine lv_aload_n X.1.1 X.1.2.1 dL_law_898 rfl (lv_at hl 1 rfl) ?_
  refine r_arg X h hl 1 (by decide) (by decide) dL_law_899 dL_law_900 dL_law_901 dL_law_902 dL_law_903 ?_
  refine r_arg X h hl 2 (by decide) (by decide) dL_law_904 dL_law_905 dL_law_906 dL_law_907 dL_law_908 ?_
  refine r_c2I X (rest := [.int r1]) h hl hc hs mi_X8_winter ml_RL_118 rfl (by decide) rfl rfl (Nat.le_of_ble_eq_true rfl) dL_law_909 (fun u2 H locs h hok => ?_)
  exact r_eqI X dL_law_912 (by decide) (kk u2 _ _ h hok)
theorem op_gone {Z : PL} {p : Program} {l : Launch} {e : Env} {s : State} {m : MethodId} {b L i : Nat} {xs : Nat → Int32} {below : List Frame} {meth : Method} {c : Code} {H : Heap} {locs : List Loc} {cells slots : Nat} {Q : State → Prop} {ls : Array Slot} {v : VV} {w : WV} (X : LX Z p s m b meth c L xs i) (h : HS Z s v w H locs) (hok : OKv (v, w)) (hl : LH Z b i ls) (hc : RoomOk cells slots) (kk : ∀ (u2 : VW) (H1 : Heap) (locs1 : List Loc), HS Z s u2.1 u2.2 H1 locs1 → OKv u2 → W p l e room_1 s m #[Value.ref b] below meth c H1 locs1 cells slots Q (F0 m 1380 ls [])) : W p l e room_1 s m #[Value.ref b] below meth c H locs cells slots Q (F0 m 917 ls []) := by
  refine lv_aload_n X.1.1 X.1.2.1 dL_law_917 rfl (lv_at hl 2 rfl) ?_
  refine r_arg X h hl 1 (by decide) (by decide) dL_law_918 dL_law_919 dL_law_920 dL_law_921 dL_law_922 ?_
  refine r_c1I X h hl hc (sim_gone l Z hok _) mi_X7_gone ml_RL_119 rfl (by decide) rfl rfl (Nat.le_of_ble_eq_true rfl) dL_law_923 (fun r1 u1 H locs h hs => ?_)
  refine lv_aload_n X.1.1 X.1.2.1 dL_law_926 rfl (lv_at hl 1 rfl) ?_
  refine r_arg X h hl 1 (by decide) (by decide) dL_law_927 dL_law_928 dL_law_929 dL_law_930 dL_law_931 ?_
  refine r_c2I X (rest := [.int r1]) h hl hc hs mi_X8_gone ml_RL_122 rfl (by decide) rfl rfl (Nat.le_of_ble_eq_true rfl) dL_law_932 (fun u2 H locs h hok => ?_)
  exact r_eqI X dL_law_935 (by decide) (kk u2 _ _ h hok)
theorem op_book {Z : PL} {p : Program} {l : Launch} {e : Env} {s : State} {m : MethodId} {b L i : Nat} {xs : Nat → Int32} {below : List Frame} {meth : Method} {c : Code} {H : Heap} {locs : List Loc} {cells slots : Nat} {Q : State → Prop} {ls : Array Slot} {v : VV} {w : WV} (X : LX Z p s m b meth c L xs i) (h : HS Z s v w H locs) (hok : OKv (v, w)) (hl : LH Z b i ls) (hc : RoomOk cells slots) (kk : ∀ (u2 : VW) (H1 : Heap) (locs1 : List Loc), HS Z s u2.1 u2.2 H1 locs1 → OKv u2 → W p l e room_1 s m #[Value.ref b] below meth c H1 locs1 cells slots Q (F0 m 1380 ls [])) : W p l e room_1 s m #[Value.ref b] below meth c H locs cells slots Q (F0 m 940 ls []) := by
  refine lv_aload_n X.1.1 X.1.2.1 dL_law_940 rfl (lv_at hl 2 rfl) ?_
  refine r_arg X h hl 1 (by decide) (by decide) dL_law_941 dL_law_942 dL_law_943 dL_law_944 dL_law_945 ?_
  refine r_arg X h hl 2 (by decide) (by decide) dL_law_946 dL_law_947 dL_law_948 dL_law_949 dL_law_950 ?_
  refine r_c1I X h hl hc (sim_book l Z hok _ _) mi_X7_book ml_RL_123 rfl (by decide) rfl rfl (Nat.le_of_ble_eq_true rfl) dL_law_951 (fun r1 u1 H locs h hs => ?_)
  refine lv_aload_n X.1.1 X.1.2.1 dL_law_954 rfl (lv_at hl 1 rfl) ?_
  refine r_arg X h hl 1 (by decide) (by decide) dL_law_955 dL_law_956 dL_law_957 dL_law_958 dL_law_959 ?_
  refine r_arg X h hl 2 (by decide) (by decide) dL_law_960 dL_law_961 dL_law_962 dL_law_963 dL_law_964 ?_
  refine r_c2I X (rest := [.int r1]) h hl hc hs mi_X8_book ml_RL_126 rfl (by decide) rfl rfl (Nat.le_of_ble_eq_true rfl) dL_law_965 (fun u2 H locs h hok => ?_)
  exact r_eqI X dL_law_968 (by decide) (kk u2 _ _ h hok)
theorem op_looked {Z : PL} {p : Program} {l : Launch} {e : Env} {s : State} {m : MethodId} {b L i : Nat} {xs : Nat → Int32} {below : List Frame} {meth : Method} {c : Code} {H : Heap} {locs : List Loc} {cells slots : Nat} {Q : State → Prop} {ls : Array Slot} {v : VV} {w : WV} (X : LX Z p s m b meth c L xs i) (h : HS Z s v w H locs) (hok : OKv (v, w)) (hl : LH Z b i ls) (hc : RoomOk cells slots) (kk : ∀ (u2 : VW) (H1 : Heap) (locs1 : List Loc), HS Z s u2.1 u2.2 H1 locs1 → OKv u2 → W p l e room_1 s m #[Value.ref b] below meth c H1 locs1 cells slots Q (F0 m 1380 ls [])) : W p l e room_1 s m #[Value.ref b] below meth c H locs cells slots Q (F0 m 973 ls []) := by
  refine lv_aload_n X.1.1 X.1.2.1 dL_law_973 rfl (lv_at hl 2 rfl) ?_
  refine r_c1I X h hl hc (sim_looked l Z hok) mi_X7_looked ml_RL_127 rfl (by decide) rfl rfl (Nat.le_of_ble_eq_true rfl) dL_law_974 (fun r1 u1 H locs h hs => ?_)
  refine lv_aload_n X.1.1 X.1.2.1 dL_law_977 rfl (lv_at hl 1 rfl) ?_
  refine r_c2I X (rest := [.int r1]) h hl hc hs mi_X8_looked ml_RL_130 rfl (by decide) rfl rfl (Nat.le_of_ble_eq_true rfl) dL_law_978 (fun u2 H locs h hok => ?_)
  exact r_eqI X dL_law_981 (by decide) (kk u2 _ _ h hok)
theorem op_judge {Z : PL} {p : Program} {l : Launch} {e : Env} {s : State} {m : MethodId} {b L i : Nat} {xs : Nat → Int32} {below : List Frame} {meth : Method} {c : Code} {H : Heap} {locs : List Loc} {cells slots : Nat} {Q : State → Prop} {ls : Array Slot} {v : VV} {w : WV} (X : LX Z p s m b meth c L xs i) (h : HS Z s v w H locs) (hok : OKv (v, w)) (hl : LH Z b i ls) (hc : RoomOk cells slots) (kk : ∀ (u2 : VW) (H1 : Heap) (locs1 : List Loc), HS Z s u2.1 u2.2 H1 locs1 → OKv u2 → W p l e room_1 s m #[Value.ref b] below meth c H1 locs1 cells slots Q (F0 m 1380 ls [])) : W p l e room_1 s m #[Value.ref b] below meth c H locs cells slots Q (F0 m 986 ls []) := by
  refine lv_aload_n X.1.1 X.1.2.1 dL_law_986 rfl (lv_at hl 2 rfl) ?_
  refine r_arg X h hl 1 (by decide) (by decide) dL_law_987 dL_law_988 dL_law_989 dL_law_990 dL_law_991 ?_
  refine r_arg X h hl 2 (by decide) (by decide) dL_law_992 dL_law_993 dL_law_994 dL_law_995 dL_law_996 ?_
  refine r_c1I X h hl hc (sim_judge l Z hok _ _) mi_X7_judge ml_RL_131 rfl (by decide) rfl rfl (Nat.le_of_ble_eq_true rfl) dL_law_997 (fun r1 u1 H locs h hs => ?_)
  refine lv_aload_n X.1.1 X.1.2.1 dL_law_1000 rfl (lv_at hl 1 rfl) ?_
  refine r_arg X h hl 1 (by decide) (by decide) dL_law_1001 dL_law_1002 dL_law_1003 dL_law_1004 dL_law_1005 ?_
  refine r_arg X h hl 2 (by decide) (by decide) dL_law_1006 dL_law_1007 dL_law_1008 dL_law_1009 dL_law_1010 ?_
  refine r_c2I X (rest := [.int r1]) h hl hc hs mi_X8_judge ml_RL_134 rfl (by decide) rfl rfl (Nat.le_of_ble_eq_true rfl) dL_law_1011 (fun u2 H locs h hok => ?_)
  exact r_eqI X dL_law_1014 (by decide) (kk u2 _ _ h hok)
theorem op_image {Z : PL} {p : Program} {l : Launch} {e : Env} {s : State} {m : MethodId} {b L i : Nat} {xs : Nat → Int32} {below : List Frame} {meth : Method} {c : Code} {H : Heap} {locs : List Loc} {cells slots : Nat} {Q : State → Prop} {ls : Array Slot} {v : VV} {w : WV} (X : LX Z p s m b meth c L xs i) (h : HS Z s v w H locs) (hok : OKv (v, w)) (hl : LH Z b i ls) (hc : RoomOk cells slots) (kk : ∀ (u2 : VW) (H1 : Heap) (locs1 : List Loc), HS Z s u2.1 u2.2 H1 locs1 → OKv u2 → W p l e room_1 s m #[Value.ref b] below meth c H1 locs1 cells slots Q (F0 m 1380 ls [])) : W p l e room_1 s m #[Value.ref b] below meth c H locs cells slots Q (F0 m 1019 ls []) := by
  refine lv_aload_n X.1.1 X.1.2.1 dL_law_1019 rfl (lv_at hl 2 rfl) ?_
  refine r_c1I X h hl hc (sim_image l Z hok) mi_X7_image ml_RL_135 rfl (by decide) rfl rfl (Nat.le_of_ble_eq_true rfl) dL_law_1020 (fun r1 u1 H locs h hs => ?_)
  refine lv_aload_n X.1.1 X.1.2.1 dL_law_1023 rfl (lv_at hl 1 rfl) ?_
  refine r_c2I X (rest := [.int r1]) h hl hc hs mi_X8_image ml_RL_138 rfl (by decide) rfl rfl (Nat.le_of_ble_eq_true rfl) dL_law_1024 (fun u2 H locs h hok => ?_)
  exact r_eqI X dL_law_1027 (by decide) (kk u2 _ _ h hok)
theorem op_undo {Z : PL} {p : Program} {l : Launch} {e : Env} {s : State} {m : MethodId} {b L i : Nat} {xs : Nat → Int32} {below : List Frame} {meth : Method} {c : Code} {H : Heap} {locs : List Loc} {cells slots : Nat} {Q : State → Prop} {ls : Array Slot} {v : VV} {w : WV} (X : LX Z p s m b meth c L xs i) (h : HS Z s v w H locs) (hok : OKv (v, w)) (hl : LH Z b i ls) (hc : RoomOk cells slots) (kk : ∀ (u2 : VW) (H1 : Heap) (locs1 : List Loc), HS Z s u2.1 u2.2 H1 locs1 → OKv u2 → W p l e room_1 s m #[Value.ref b] below meth c H1 locs1 cells slots Q (F0 m 1380 ls [])) : W p l e room_1 s m #[Value.ref b] below meth c H locs cells slots Q (F0 m 1032 ls []) := by
  refine lv_aload_n X.1.1 X.1.2.1 dL_law_1032 rfl (lv_at hl 2 rfl) ?_
  refine r_c1I X h hl hc (sim_undo l Z hok) mi_X7_undo ml_RL_139 rfl (by decide) rfl rfl (Nat.le_of_ble_eq_true rfl) dL_law_1033 (fun r1 u1 H locs h hs => ?_)
  refine lv_aload_n X.1.1 X.1.2.1 dL_law_1036 rfl (lv_at hl 1 rfl) ?_
  refine r_c2I X (rest := [.int r1]) h hl hc hs mi_X8_undo ml_RL_142 rfl (by decide) rfl rfl (Nat.le_of_ble_eq_true rfl) dL_law_1037 (fun u2 H locs h hok => ?_)
  exact r_eqI X dL_law_1040 (by decide) (kk u2 _ _ h hok)
theorem op_act {Z : PL} {p : Program} {l : Launch} {e : Env} {s : State} {m : MethodId} {b L i : Nat} {xs : Nat → Int32} {below : List Frame} {meth : Method} {c : Code} {H : Heap} {locs : List Loc} {cells slots : Nat} {Q : State → Prop} {ls : Array Slot} {v : VV} {w : WV} (X : LX Z p s m b meth c L xs i) (h : HS Z s v w H locs) (hok : OKv (v, w)) (hl : LH Z b i ls) (hc : RoomOk cells slots) (kk : ∀ (u2 : VW) (H1 : Heap) (locs1 : List Loc), HS Z s u2.1 u2.2 H1 locs1 → OKv u2 → W p l e room_1 s m #[Value.ref b] below meth c H1 locs1 cells slots Q (F0 m 1380 ls [])) : W p l e room_1 s m #[Value.ref b] below meth c H locs cells slots Q (F0 m 1045 ls []) := by
  refine lv_aload_n X.1.1 X.1.2.1 dL_law_1045 rfl (lv_at hl 2 rfl) ?_
  refine r_arg X h hl 1 (by decide) (by decide) dL_law_1046 dL_law_1047 dL_law_1048 dL_law_1049 dL_law_1050 ?_
  refine r_arg X h hl 2 (by decide) (by decide) dL_law_1051 dL_law_1052 dL_law_1053 dL_law_1054 dL_law_1055 ?_
  refine r_arg X h hl 3 (by decide) (by decide) dL_law_1056 dL_law_1057 dL_law_1058 dL_law_1059 dL_law_1060 ?_
  refine r_c1I X h hl hc (sim_act l Z hok _ _ _) mi_X7_act ml_RL_143 rfl (by decide) rfl rfl (Nat.le_of_ble_eq_true rfl) dL_law_1061 (fun r1 u1 H locs h hs => ?_)
  refine lv_aload_n X.1.1 X.1.2.1 dL_law_1064 rfl (lv_at hl 1 rfl) ?_
  refine r_arg X h hl 1 (by decide) (by decide) dL_law_1065 dL_law_1066 dL_law_1067 dL_law_1068 dL_law_1069 ?_
  refine r_arg X h hl 2 (by decide) (by decide) dL_law_1070 dL_law_1071 dL_law_1072 dL_law_1073 dL_law_1074 ?_
  refine r_arg X h hl 3 (by decide) (by decide) dL_law_1075 dL_law_1076 dL_law_1077 dL_law_1078 dL_law_1079 ?_
  refine r_c2I X (rest := [.int r1]) h hl hc hs mi_X8_act ml_RL_146 rfl (by decide) rfl rfl (Nat.le_of_ble_eq_true rfl) dL_law_1080 (fun u2 H locs h hok => ?_)
  exact r_eqI X dL_law_1083 (by decide) (kk u2 _ _ h hok)
theorem op_trace {Z : PL} {p : Program} {l : Launch} {e : Env} {s : State} {m : MethodId} {b L i : Nat} {xs : Nat → Int32} {below : List Frame} {meth : Method} {c : Code} {H : Heap} {locs : List Loc} {cells slots : Nat} {Q : State → Prop} {ls : Array Slot} {v : VV} {w : WV} (X : LX Z p s m b meth c L xs i) (h : HS Z s v w H locs) (hok : OKv (v, w)) (hl : LH Z b i ls) (hc : RoomOk cells slots) (kk : ∀ (u2 : VW) (H1 : Heap) (locs1 : List Loc), HS Z s u2.1 u2.2 H1 locs1 → OKv u2 → W p l e room_1 s m #[Value.ref b] below meth c H1 locs1 cells slots Q (F0 m 1380 ls [])) : W p l e room_1 s m #[Value.ref b] below meth c H locs cells slots Q (F0 m 1088 ls []) := by
  refine lv_aload_n X.1.1 X.1.2.1 dL_law_1088 rfl (lv_at hl 2 rfl) ?_
  refine r_arg X h hl 1 (by decide) (by decide) dL_law_1089 dL_law_1090 dL_law_1091 dL_law_1092 dL_law_1093 ?_
  refine r_c1I X h hl hc (sim_trace l Z hok _) mi_X7_trace ml_RL_147 rfl (by decide) rfl rfl (Nat.le_of_ble_eq_true rfl) dL_law_1094 (fun r1 u1 H locs h hs => ?_)
  refine lv_aload_n X.1.1 X.1.2.1 dL_law_1097 rfl (lv_at hl 1 rfl) ?_
  refine r_arg X h hl 1 (by decide) (by decide) dL_law_1098 dL_law_1099 dL_law_1100 dL_law_1101 dL_law_1102 ?_
  refine r_c2I X (rest := [.int r1]) h hl hc hs mi_X8_trace ml_RL_150 rfl (by decide) rfl rfl (Nat.le_of_ble_eq_true rfl) dL_law_1103 (fun u2 H locs h hok => ?_)
  exact r_eqI X dL_law_1106 (by decide) (kk u2 _ _ h hok)
theorem op_taken {Z : PL} {p : Program} {l : Launch} {e : Env} {s : State} {m : MethodId} {b L i : Nat} {xs : Nat → Int32} {below : List Frame} {meth : Method} {c : Code} {H : Heap} {locs : List Loc} {cells slots : Nat} {Q : State → Prop} {ls : Array Slot} {v : VV} {w : WV} (X : LX Z p s m b meth c L xs i) (h : HS Z s v w H locs) (hok : OKv (v, w)) (hl : LH Z b i ls) (hc : RoomOk cells slots) (kk : ∀ (u2 : VW) (H1 : Heap) (locs1 : List Loc), HS Z s u2.1 u2.2 H1 locs1 → OKv u2 → W p l e room_1 s m #[Value.ref b] below meth c H1 locs1 cells slots Q (F0 m 1380 ls [])) : W p l e room_1 s m #[Value.ref b] below meth c H locs cells slots Q (F0 m 1111 ls []) := by
  refine lv_aload_n X.1.1 X.1.2.1 dL_law_1111 rfl (lv_at hl 2 rfl) ?_
  refine r_arg X h hl 1 (by decide) (by decide) dL_law_1112 dL_law_1113 dL_law_1114 dL_law_1115 dL_law_1116 ?_
  refine r_arg X h hl 2 (by decide) (by decide) dL_law_1117 dL_law_1118 dL_law_1119 dL_law_1120 dL_law_1121 ?_
  refine r_c1I X h hl hc (sim_taken l Z hok _ _) mi_X7_taken ml_RL_151 rfl (by decide) rfl rfl (Nat.le_of_ble_eq_true rfl) dL_law_1122 (fun r1 u1 H locs h hs => ?_)
  refine lv_aload_n X.1.1 X.1.2.1 dL_law_1125 rfl (lv_at hl 1 rfl) ?_
  refine r_arg X h hl 1 (by decide) (by decide) dL_law_1126 dL_law_1127 dL_law_1128 dL_law_1129 dL_law_1130 ?_
  refine r_arg X h hl 2 (by decide) (by decide) dL_law_1131 dL_law_1132 dL_law_1133 dL_law_1134 dL_law_1135 ?_
  refine r_c2I X (rest := [.int r1]) h hl hc hs mi_X8_taken ml_RL_154 rfl (by decide) rfl rfl (Nat.le_of_ble_eq_true rfl) dL_law_1136 (fun u2 H locs h hok => ?_)
  exact r_eqI X dL_law_1139 (by decide) (kk u2 _ _ h hok)
theorem op_count {Z : PL} {p : Program} {l : Launch} {e : Env} {s : State} {m : MethodId} {b L i : Nat} {xs : Nat → Int32} {below : List Frame} {meth : Method} {c : Code} {H : Heap} {locs : List Loc} {cells slots : Nat} {Q : State → Prop} {ls : Array Slot} {v : VV} {w : WV} (X : LX Z p s m b meth c L xs i) (h : HS Z s v w H locs) (hok : OKv (v, w)) (hl : LH Z b i ls) (hc : RoomOk cells slots) (kk : ∀ (u2 : VW) (H1 : Heap) (locs1 : List Loc), HS Z s u2.1 u2.2 H1 locs1 → OKv u2 → W p l e room_1 s m #[Value.ref b] below meth c H1 locs1 cells slots Q (F0 m 1380 ls [])) : W p l e room_1 s m #[Value.ref b] below meth c H locs cells slots Q (F0 m 1144 ls []) := by
  refine lv_aload_n X.1.1 X.1.2.1 dL_law_1144 rfl (lv_at hl 2 rfl) ?_
  refine r_arg X h hl 1 (by decide) (by decide) dL_law_1145 dL_law_1146 dL_law_1147 dL_law_1148 dL_law_1149 ?_
  refine r_c1I X h hl hc (sim_count l Z hok _) mi_X7_count ml_RL_155 rfl (by decide) rfl rfl (Nat.le_of_ble_eq_true rfl) dL_law_1150 (fun r1 u1 H locs h hs => ?_)
  refine lv_aload_n X.1.1 X.1.2.1 dL_law_1153 rfl (lv_at hl 1 rfl) ?_
  refine r_arg X h hl 1 (by decide) (by decide) dL_law_1154 dL_law_1155 dL_law_1156 dL_law_1157 dL_law_1158 ?_
  refine r_c2I X (rest := [.int r1]) h hl hc hs mi_X8_count ml_RL_158 rfl (by decide) rfl rfl (Nat.le_of_ble_eq_true rfl) dL_law_1159 (fun u2 H locs h hok => ?_)
  exact r_eqI X dL_law_1162 (by decide) (kk u2 _ _ h hok)
theorem op_tape {Z : PL} {p : Program} {l : Launch} {e : Env} {s : State} {m : MethodId} {b L i : Nat} {xs : Nat → Int32} {below : List Frame} {meth : Method} {c : Code} {H : Heap} {locs : List Loc} {cells slots : Nat} {Q : State → Prop} {ls : Array Slot} {v : VV} {w : WV} (X : LX Z p s m b meth c L xs i) (h : HS Z s v w H locs) (hok : OKv (v, w)) (hl : LH Z b i ls) (hc : RoomOk cells slots) (kk : ∀ (u2 : VW) (H1 : Heap) (locs1 : List Loc), HS Z s u2.1 u2.2 H1 locs1 → OKv u2 → W p l e room_1 s m #[Value.ref b] below meth c H1 locs1 cells slots Q (F0 m 1380 ls [])) : W p l e room_1 s m #[Value.ref b] below meth c H locs cells slots Q (F0 m 1167 ls []) := by
  refine lv_aload_n X.1.1 X.1.2.1 dL_law_1167 rfl (lv_at hl 2 rfl) ?_
  refine r_arg X h hl 1 (by decide) (by decide) dL_law_1168 dL_law_1169 dL_law_1170 dL_law_1171 dL_law_1172 ?_
  refine r_arg X h hl 2 (by decide) (by decide) dL_law_1173 dL_law_1174 dL_law_1175 dL_law_1176 dL_law_1177 ?_
  refine r_arg X h hl 3 (by decide) (by decide) dL_law_1178 dL_law_1179 dL_law_1180 dL_law_1181 dL_law_1182 ?_
  refine r_c1I X h hl hc (sim_tape l Z hok _ _ _) mi_X7_tape ml_RL_159 rfl (by decide) rfl rfl (Nat.le_of_ble_eq_true rfl) dL_law_1183 (fun r1 u1 H locs h hs => ?_)
  refine lv_aload_n X.1.1 X.1.2.1 dL_law_1186 rfl (lv_at hl 1 rfl) ?_
  refine r_arg X h hl 1 (by decide) (by decide) dL_law_1187 dL_law_1188 dL_law_1189 dL_law_1190 dL_law_1191 ?_
  refine r_arg X h hl 2 (by decide) (by decide) dL_law_1192 dL_law_1193 dL_law_1194 dL_law_1195 dL_law_1196 ?_
  refine r_arg X h hl 3 (by decide) (by decide) dL_law_1197 dL_law_1198 dL_law_1199 dL_law_1200 dL_law_1201 ?_
  refine r_c2I X (rest := [.int r1]) h hl hc hs mi_X8_tape ml_RL_162 rfl (by decide) rfl rfl (Nat.le_of_ble_eq_true rfl) dL_law_1202 (fun u2 H locs h hok => ?_)
  exact r_eqI X dL_law_1205 (by decide) (kk u2 _ _ h hok)
theorem op_item {Z : PL} {p : Program} {l : Launch} {e : Env} {s : State} {m : MethodId} {b L i : Nat} {xs : Nat → Int32} {below : List Frame} {meth : Method} {c : Code} {H : Heap} {locs : List Loc} {cells slots : Nat} {Q : State → Prop} {ls : Array Slot} {v : VV} {w : WV} (X : LX Z p s m b meth c L xs i) (h : HS Z s v w H locs) (hok : OKv (v, w)) (hl : LH Z b i ls) (hc : RoomOk cells slots) (kk : ∀ (u2 : VW) (H1 : Heap) (locs1 : List Loc), HS Z s u2.1 u2.2 H1 locs1 → OKv u2 → W p l e room_1 s m #[Value.ref b] below meth c H1 locs1 cells slots Q (F0 m 1380 ls [])) : W p l e room_1 s m #[Value.ref b] below meth c H locs cells slots Q (F0 m 1210 ls []) := by
  refine lv_aload_n X.1.1 X.1.2.1 dL_law_1210 rfl (lv_at hl 2 rfl) ?_
  refine r_arg X h hl 1 (by decide) (by decide) dL_law_1211 dL_law_1212 dL_law_1213 dL_law_1214 dL_law_1215 ?_
  refine r_arg X h hl 2 (by decide) (by decide) dL_law_1216 dL_law_1217 dL_law_1218 dL_law_1219 dL_law_1220 ?_
  refine r_arg X h hl 3 (by decide) (by decide) dL_law_1221 dL_law_1222 dL_law_1223 dL_law_1224 dL_law_1225 ?_
  refine lv_i2l X.1.1 X.1.2.1 dL_law_1226 rfl ?_
  refine lv_bipush (v := 32) X.1.1 X.1.2.1 dL_law_1227 (by decide) ?_
  refine lv_lshl X.1.1 X.1.2.1 dL_law_1229 rfl ?_
  refine r_arg X h hl 4 (by decide) (by decide) dL_law_1230 dL_law_1231 dL_law_1232 dL_law_1233 dL_law_1234 ?_
  refine lv_i2l X.1.1 X.1.2.1 dL_law_1235 rfl ?_
  refine lv_ldc2 X.1.1 X.1.2.1 X.1.ow (X.1.ts _ cl_RL_163) dL_law_1236 ?_
  refine lv_land X.1.1 X.1.2.1 dL_law_1239 ?_
  refine lv_lor X.1.1 X.1.2.1 dL_law_1240 ?_
  refine r_c1I X h hl hc (sim_item l Z hok _ _ _) mi_X7_item ml_RL_165 rfl (by decide) rfl rfl (Nat.le_of_ble_eq_true rfl) dL_law_1241 (fun r1 u1 H locs h hs => ?_)
  refine lv_aload_n X.1.1 X.1.2.1 dL_law_1244 rfl (lv_at hl 1 rfl) ?_
  refine r_arg X h hl 1 (by decide) (by decide) dL_law_1245 dL_law_1246 dL_law_1247 dL_law_1248 dL_law_1249 ?_
  refine r_arg X h hl 2 (by decide) (by decide) dL_law_1250 dL_law_1251 dL_law_1252 dL_law_1253 dL_law_1254 ?_
  refine r_arg X h hl 3 (by decide) (by decide) dL_law_1255 dL_law_1256 dL_law_1257 dL_law_1258 dL_law_1259 ?_
  refine lv_i2l X.1.1 X.1.2.1 dL_law_1260 rfl ?_
  refine lv_bipush (v := 32) X.1.1 X.1.2.1 dL_law_1261 (by decide) ?_
  refine lv_lshl X.1.1 X.1.2.1 dL_law_1263 rfl ?_
  refine r_arg X h hl 4 (by decide) (by decide) dL_law_1264 dL_law_1265 dL_law_1266 dL_law_1267 dL_law_1268 ?_
  refine lv_i2l X.1.1 X.1.2.1 dL_law_1269 rfl ?_
  refine lv_ldc2 X.1.1 X.1.2.1 X.1.ow (X.1.ts _ cl_RL_163) dL_law_1270 ?_
  refine lv_land X.1.1 X.1.2.1 dL_law_1273 ?_
  refine lv_lor X.1.1 X.1.2.1 dL_law_1274 ?_
  refine r_c2I X (rest := [.int r1]) h hl hc hs mi_X8_item ml_RL_169 rfl (by decide) rfl rfl (Nat.le_of_ble_eq_true rfl) dL_law_1275 (fun u2 H locs h hok => ?_)
  exact r_eqI X dL_law_1278 (by decide) (kk u2 _ _ h hok)
theorem op_read {Z : PL} {p : Program} {l : Launch} {e : Env} {s : State} {m : MethodId} {b L i : Nat} {xs : Nat → Int32} {below : List Frame} {meth : Method} {c : Code} {H : Heap} {locs : List Loc} {cells slots : Nat} {Q : State → Prop} {ls : Array Slot} {v : VV} {w : WV} (X : LX Z p s m b meth c L xs i) (h : HS Z s v w H locs) (hok : OKv (v, w)) (hl : LH Z b i ls) (hc : RoomOk cells slots) (kk : ∀ (u2 : VW) (H1 : Heap) (locs1 : List Loc), HS Z s u2.1 u2.2 H1 locs1 → OKv u2 → W p l e room_1 s m #[Value.ref b] below meth c H1 locs1 cells slots Q (F0 m 1380 ls [])) : W p l e room_1 s m #[Value.ref b] below meth c H locs cells slots Q (F0 m 1283 ls []) := by
  refine lv_aload_n X.1.1 X.1.2.1 dL_law_1283 rfl (lv_at hl 2 rfl) ?_
  refine r_arg X h hl 1 (by decide) (by decide) dL_law_1284 dL_law_1285 dL_law_1286 dL_law_1287 dL_law_1288 ?_
  refine r_arg X h hl 2 (by decide) (by decide) dL_law_1289 dL_law_1290 dL_law_1291 dL_law_1292 dL_law_1293 ?_
  refine r_c1L X h hl hc (sim_read l Z hok _ _) mi_X7_read ml_RL_170 rfl (by decide) rfl rfl (Nat.le_of_ble_eq_true rfl) dL_law_1294 (fun r1 u1 H locs h hs => ?_)
  refine lv_aload_n X.1.1 X.1.2.1 dL_law_1297 rfl (lv_at hl 1 rfl) ?_
  refine r_arg X h hl 1 (by decide) (by decide) dL_law_1298 dL_law_1299 dL_law_1300 dL_law_1301 dL_law_1302 ?_
  refine r_arg X h hl 2 (by decide) (by decide) dL_law_1303 dL_law_1304 dL_law_1305 dL_law_1306 dL_law_1307 ?_
  refine r_c2L X (rest := [.long r1]) h hl hc hs mi_X8_read ml_RL_173 rfl (by decide) rfl rfl (Nat.le_of_ble_eq_true rfl) dL_law_1308 (fun u2 H locs h hok => ?_)
  exact r_eqL X dL_law_1311 dL_law_1312 (by decide) (kk u2 _ _ h hok)
theorem op_shift {Z : PL} {p : Program} {l : Launch} {e : Env} {s : State} {m : MethodId} {b L i : Nat} {xs : Nat → Int32} {below : List Frame} {meth : Method} {c : Code} {H : Heap} {locs : List Loc} {cells slots : Nat} {Q : State → Prop} {ls : Array Slot} {v : VV} {w : WV} (X : LX Z p s m b meth c L xs i) (h : HS Z s v w H locs) (hok : OKv (v, w)) (hl : LH Z b i ls) (hc : RoomOk cells slots) (kk : ∀ (u2 : VW) (H1 : Heap) (locs1 : List Loc), HS Z s u2.1 u2.2 H1 locs1 → OKv u2 → W p l e room_1 s m #[Value.ref b] below meth c H1 locs1 cells slots Q (F0 m 1380 ls [])) : W p l e room_1 s m #[Value.ref b] below meth c H locs cells slots Q (F0 m 1317 ls []) := by
  refine lv_aload_n X.1.1 X.1.2.1 dL_law_1317 rfl (lv_at hl 2 rfl) ?_
  refine r_arg X h hl 1 (by decide) (by decide) dL_law_1318 dL_law_1319 dL_law_1320 dL_law_1321 dL_law_1322 ?_
  refine r_arg X h hl 2 (by decide) (by decide) dL_law_1323 dL_law_1324 dL_law_1325 dL_law_1326 dL_law_1327 ?_
  refine r_arg X h hl 3 (by decide) (by decide) dL_law_1328 dL_law_1329 dL_law_1330 dL_law_1331 dL_law_1332 ?_
  refine r_arg X h hl 4 (by decide) (by decide) dL_law_1333 dL_law_1334 dL_law_1335 dL_law_1336 dL_law_1337 ?_
  refine r_arg X h hl 5 (by decide) (by decide) dL_law_1338 dL_law_1339 dL_law_1340 dL_law_1341 dL_law_1342 ?_
  refine r_c1I X h hl hc (sim_shift l Z hok _ _ _ _ _) mi_X7_shift ml_RL_174 rfl (by decide) rfl rfl (Nat.le_of_ble_eq_true rfl) dL_law_1343 (fun r1 u1 H locs h hs => ?_)
  refine lv_aload_n X.1.1 X.1.2.1 dL_law_1346 rfl (lv_at hl 1 rfl) ?_
  refine r_arg X h hl 1 (by decide) (by decide) dL_law_1347 dL_law_1348 dL_law_1349 dL_law_1350 dL_law_1351 ?_
  refine r_arg X h hl 2 (by decide) (by decide) dL_law_1352 dL_law_1353 dL_law_1354 dL_law_1355 dL_law_1356 ?_
  refine r_arg X h hl 3 (by decide) (by decide) dL_law_1357 dL_law_1358 dL_law_1359 dL_law_1360 dL_law_1361 ?_
  refine r_arg X h hl 4 (by decide) (by decide) dL_law_1362 dL_law_1363 dL_law_1364 dL_law_1365 dL_law_1366 ?_
  refine r_arg X h hl 5 (by decide) (by decide) dL_law_1367 dL_law_1368 dL_law_1369 dL_law_1370 dL_law_1371 ?_
  refine r_c2I X (rest := [.int r1]) h hl hc hs mi_X8_shift ml_RL_178 rfl (by decide) rfl rfl (Nat.le_of_ble_eq_true rfl) dL_law_1372 (fun u2 H locs h hok => ?_)
  exact r_eqI X dL_law_1375 (by decide) (kk u2 _ _ h hok)
