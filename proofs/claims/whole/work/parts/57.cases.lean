/-! the law's calls, one theorem each -/
set_option maxRecDepth 20000 in
theorem lc_tide {K : Cx} {b L : Nat} {xs : Nat → Int32} {p : Program} {e : Env} {s : State} {mi : MethodId} {below : List Frame} {meth : Method} {c : Code} {Z : State → Prop} {kc ks i : Nat} {m : TM} (C : LCX K b L xs p s mi meth c) (hi : i + 6 ≤ L) (hcs : kc + 0 ≤ room_1.cells ∧ ks + 0 ≤ room_1.slots) (hR : Rel m) (kk : ∀ m2, Rel m2 → LXI K p e s mi b below meth c Z kc ks 1369 (lvL K b i) [] m2) : LXI K p e s mi b below meth c Z kc ks 208 (lvL K b i) [] m := by
  obtain ⟨v, Q1, ⟨r, rfl⟩, h4, h5⟩ := op_tide (K := K) hR (xs (i + 1)) (xs (i + 2))
  refine i_aload_n (q := 209) (i := 2) C.1 dL_law_208 rfl rfl ?_
  refine l_arg (q := 214) (k := 1) C dL_law_209 dL_law_210 dL_law_211 dL_law_212 dL_law_213 rfl (by decide) (by omega) ?_
  refine l_arg (q := 219) (k := 2) C dL_law_214 dL_law_215 dL_law_216 dL_law_217 dL_law_218 rfl (by decide) (by omega) ?_
  refine l_call (q := 222) (as := [.int (xs (i + 1)), .int (xs (i + 2))]) C dL_law_219 rfl ml_L_13 mv_X4_tide rv4 rfl h4 rfl rfl rfl rfl (Nat.le_of_ble_eq_true rfl) ⟨Nat.le_of_ble_eq_true rfl, Nat.le_of_ble_eq_true rfl⟩ hcs (fun m1 hm1 => ?_)
  obtain ⟨Q2, h6, h7⟩ := h5 m1 hm1
  refine i_aload_n (q := 223) (i := 1) C.1 dL_law_222 rfl rfl ?_
  refine l_arg (q := 228) (k := 1) C dL_law_223 dL_law_224 dL_law_225 dL_law_226 dL_law_227 rfl (by decide) (by omega) ?_
  refine l_arg (q := 233) (k := 2) C dL_law_228 dL_law_229 dL_law_230 dL_law_231 dL_law_232 rfl (by decide) (by omega) ?_
  refine l_call (q := 236) (as := [.int (xs (i + 1)), .int (xs (i + 2))]) C dL_law_233 rfl ml_L_17 mv_X5_tide rv5 rfl h6 rfl rfl rfl rfl (Nat.le_of_ble_eq_true rfl) ⟨Nat.le_of_ble_eq_true rfl, Nat.le_of_ble_eq_true rfl⟩ hcs (fun m2 hm2 => ?_)
  exact i_icmp_eq (t := 1369) C.1 dL_law_236 (by decide) (kk m2 (h7 m2 hm2))
set_option maxRecDepth 20000 in
theorem lc_listed {K : Cx} {b L : Nat} {xs : Nat → Int32} {p : Program} {e : Env} {s : State} {mi : MethodId} {below : List Frame} {meth : Method} {c : Code} {Z : State → Prop} {kc ks i : Nat} {m : TM} (C : LCX K b L xs p s mi meth c) (hi : i + 6 ≤ L) (hcs : kc + 0 ≤ room_1.cells ∧ ks + 0 ≤ room_1.slots) (hR : Rel m) (kk : ∀ m2, Rel m2 → LXI K p e s mi b below meth c Z kc ks 1369 (lvL K b i) [] m2) : LXI K p e s mi b below meth c Z kc ks 241 (lvL K b i) [] m := by
  obtain ⟨v, Q1, ⟨r, rfl⟩, h4, h5⟩ := op_listed (K := K) hR (xs (i + 1))
  refine i_aload_n (q := 242) (i := 2) C.1 dL_law_241 rfl rfl ?_
  refine l_arg (q := 247) (k := 1) C dL_law_242 dL_law_243 dL_law_244 dL_law_245 dL_law_246 rfl (by decide) (by omega) ?_
  refine l_call (q := 250) (as := [.int (xs (i + 1))]) C dL_law_247 rfl ml_L_18 mv_X4_listed rv4 rfl h4 rfl rfl rfl rfl (Nat.le_of_ble_eq_true rfl) ⟨Nat.le_of_ble_eq_true rfl, Nat.le_of_ble_eq_true rfl⟩ hcs (fun m1 hm1 => ?_)
  obtain ⟨Q2, h6, h7⟩ := h5 m1 hm1
  refine i_aload_n (q := 251) (i := 1) C.1 dL_law_250 rfl rfl ?_
  refine l_arg (q := 256) (k := 1) C dL_law_251 dL_law_252 dL_law_253 dL_law_254 dL_law_255 rfl (by decide) (by omega) ?_
  refine l_call (q := 259) (as := [.int (xs (i + 1))]) C dL_law_256 rfl ml_L_22 mv_X5_listed rv5 rfl h6 rfl rfl rfl rfl (Nat.le_of_ble_eq_true rfl) ⟨Nat.le_of_ble_eq_true rfl, Nat.le_of_ble_eq_true rfl⟩ hcs (fun m2 hm2 => ?_)
  exact i_icmp_eq (t := 1369) C.1 dL_law_259 (by decide) (kk m2 (h7 m2 hm2))
set_option maxRecDepth 20000 in
theorem lc_set {K : Cx} {b L : Nat} {xs : Nat → Int32} {p : Program} {e : Env} {s : State} {mi : MethodId} {below : List Frame} {meth : Method} {c : Code} {Z : State → Prop} {kc ks i : Nat} {m : TM} (C : LCX K b L xs p s mi meth c) (hi : i + 6 ≤ L) (hcs : kc + 0 ≤ room_1.cells ∧ ks + 0 ≤ room_1.slots) (hR : Rel m) (kk : ∀ m2, Rel m2 → LXI K p e s mi b below meth c Z kc ks 1369 (lvL K b i) [] m2) : LXI K p e s mi b below meth c Z kc ks 264 (lvL K b i) [] m := by
  obtain ⟨v, Q1, ⟨r, rfl⟩, h4, h5⟩ := op_set (K := K) hR (xs (i + 1)) (xs (i + 2))
  refine i_aload_n (q := 265) (i := 2) C.1 dL_law_264 rfl rfl ?_
  refine l_arg (q := 270) (k := 1) C dL_law_265 dL_law_266 dL_law_267 dL_law_268 dL_law_269 rfl (by decide) (by omega) ?_
  refine l_arg (q := 275) (k := 2) C dL_law_270 dL_law_271 dL_law_272 dL_law_273 dL_law_274 rfl (by decide) (by omega) ?_
  refine l_call (q := 278) (as := [.int (xs (i + 1)), .int (xs (i + 2))]) C dL_law_275 rfl ml_L_23 mv_X4_set rv4 rfl h4 rfl rfl rfl rfl (Nat.le_of_ble_eq_true rfl) ⟨Nat.le_of_ble_eq_true rfl, Nat.le_of_ble_eq_true rfl⟩ hcs (fun m1 hm1 => ?_)
  obtain ⟨Q2, h6, h7⟩ := h5 m1 hm1
  refine i_aload_n (q := 279) (i := 1) C.1 dL_law_278 rfl rfl ?_
  refine l_arg (q := 284) (k := 1) C dL_law_279 dL_law_280 dL_law_281 dL_law_282 dL_law_283 rfl (by decide) (by omega) ?_
  refine l_arg (q := 289) (k := 2) C dL_law_284 dL_law_285 dL_law_286 dL_law_287 dL_law_288 rfl (by decide) (by omega) ?_
  refine l_call (q := 292) (as := [.int (xs (i + 1)), .int (xs (i + 2))]) C dL_law_289 rfl ml_L_26 mv_X5_set rv5 rfl h6 rfl rfl rfl rfl (Nat.le_of_ble_eq_true rfl) ⟨Nat.le_of_ble_eq_true rfl, Nat.le_of_ble_eq_true rfl⟩ hcs (fun m2 hm2 => ?_)
  exact i_icmp_eq (t := 1369) C.1 dL_law_292 (by decide) (kk m2 (h7 m2 hm2))
set_option maxRecDepth 20000 in
theorem lc_parcel {K : Cx} {b L : Nat} {xs : Nat → Int32} {p : Program} {e : Env} {s : State} {mi : MethodId} {below : List Frame} {meth : Method} {c : Code} {Z : State → Prop} {kc ks i : Nat} {m : TM} (C : LCX K b L xs p s mi meth c) (hi : i + 6 ≤ L) (hcs : kc + 0 ≤ room_1.cells ∧ ks + 0 ≤ room_1.slots) (hR : Rel m) (kk : ∀ m2, Rel m2 → LXI K p e s mi b below meth c Z kc ks 1369 (lvL K b i) [] m2) : LXI K p e s mi b below meth c Z kc ks 297 (lvL K b i) [] m := by
  obtain ⟨v, Q1, ⟨r, rfl⟩, h4, h5⟩ := op_parcel (K := K) hR (xs (i + 1)) (xs (i + 2))
  refine i_aload_n (q := 298) (i := 2) C.1 dL_law_297 rfl rfl ?_
  refine l_arg (q := 303) (k := 1) C dL_law_298 dL_law_299 dL_law_300 dL_law_301 dL_law_302 rfl (by decide) (by omega) ?_
  refine l_arg (q := 308) (k := 2) C dL_law_303 dL_law_304 dL_law_305 dL_law_306 dL_law_307 rfl (by decide) (by omega) ?_
  refine l_call (q := 311) (as := [.int (xs (i + 1)), .int (xs (i + 2))]) C dL_law_308 rfl ml_L_27 mv_X4_parcel rv4 rfl h4 rfl rfl rfl rfl (Nat.le_of_ble_eq_true rfl) ⟨Nat.le_of_ble_eq_true rfl, Nat.le_of_ble_eq_true rfl⟩ hcs (fun m1 hm1 => ?_)
  obtain ⟨Q2, h6, h7⟩ := h5 m1 hm1
  refine i_aload_n (q := 312) (i := 1) C.1 dL_law_311 rfl rfl ?_
  refine l_arg (q := 317) (k := 1) C dL_law_312 dL_law_313 dL_law_314 dL_law_315 dL_law_316 rfl (by decide) (by omega) ?_
  refine l_arg (q := 322) (k := 2) C dL_law_317 dL_law_318 dL_law_319 dL_law_320 dL_law_321 rfl (by decide) (by omega) ?_
  refine l_call (q := 325) (as := [.int (xs (i + 1)), .int (xs (i + 2))]) C dL_law_322 rfl ml_L_30 mv_X5_parcel rv5 rfl h6 rfl rfl rfl rfl (Nat.le_of_ble_eq_true rfl) ⟨Nat.le_of_ble_eq_true rfl, Nat.le_of_ble_eq_true rfl⟩ hcs (fun m2 hm2 => ?_)
  exact i_icmp_eq (t := 1369) C.1 dL_law_325 (by decide) (kk m2 (h7 m2 hm2))
set_option maxRecDepth 20000 in
theorem lc_of {K : Cx} {b L : Nat} {xs : Nat → Int32} {p : Program} {e : Env} {s : State} {mi : MethodId} {below : List Frame} {meth : Method} {c : Code} {Z : State → Prop} {kc ks i : Nat} {m : TM} (C : LCX K b L xs p s mi meth c) (hi : i + 6 ≤ L) (hcs : kc + 0 ≤ room_1.cells ∧ ks + 0 ≤ room_1.slots) (hR : Rel m) (kk : ∀ m2, Rel m2 → LXI K p e s mi b below meth c Z kc ks 1369 (lvL K b i) [] m2) : LXI K p e s mi b below meth c Z kc ks 330 (lvL K b i) [] m := by
  obtain ⟨v, Q1, ⟨r, rfl⟩, h4, h5⟩ := op_of (K := K) hR (xs (i + 1)) (xs (i + 2))
  refine i_aload_n (q := 331) (i := 2) C.1 dL_law_330 rfl rfl ?_
  refine l_arg (q := 336) (k := 1) C dL_law_331 dL_law_332 dL_law_333 dL_law_334 dL_law_335 rfl (by decide) (by omega) ?_
  refine l_arg (q := 341) (k := 2) C dL_law_336 dL_law_337 dL_law_338 dL_law_339 dL_law_340 rfl (by decide) (by omega) ?_
  refine l_call (q := 344) (as := [.int (xs (i + 1)), .int (xs (i + 2))]) C dL_law_341 rfl ml_L_31 mv_X4_of rv4 rfl h4 rfl rfl rfl rfl (Nat.le_of_ble_eq_true rfl) ⟨Nat.le_of_ble_eq_true rfl, Nat.le_of_ble_eq_true rfl⟩ hcs (fun m1 hm1 => ?_)
  obtain ⟨Q2, h6, h7⟩ := h5 m1 hm1
  refine i_aload_n (q := 345) (i := 1) C.1 dL_law_344 rfl rfl ?_
  refine l_arg (q := 350) (k := 1) C dL_law_345 dL_law_346 dL_law_347 dL_law_348 dL_law_349 rfl (by decide) (by omega) ?_
  refine l_arg (q := 355) (k := 2) C dL_law_350 dL_law_351 dL_law_352 dL_law_353 dL_law_354 rfl (by decide) (by omega) ?_
  refine l_call (q := 358) (as := [.int (xs (i + 1)), .int (xs (i + 2))]) C dL_law_355 rfl ml_L_34 mv_X5_of rv5 rfl h6 rfl rfl rfl rfl (Nat.le_of_ble_eq_true rfl) ⟨Nat.le_of_ble_eq_true rfl, Nat.le_of_ble_eq_true rfl⟩ hcs (fun m2 hm2 => ?_)
  exact i_icmp_eq (t := 1369) C.1 dL_law_358 (by decide) (kk m2 (h7 m2 hm2))
set_option maxRecDepth 20000 in
theorem lc_change {K : Cx} {b L : Nat} {xs : Nat → Int32} {p : Program} {e : Env} {s : State} {mi : MethodId} {below : List Frame} {meth : Method} {c : Code} {Z : State → Prop} {kc ks i : Nat} {m : TM} (C : LCX K b L xs p s mi meth c) (hi : i + 6 ≤ L) (hcs : kc + 0 ≤ room_1.cells ∧ ks + 0 ≤ room_1.slots) (hR : Rel m) (kk : ∀ m2, Rel m2 → LXI K p e s mi b below meth c Z kc ks 1369 (lvL K b i) [] m2) : LXI K p e s mi b below meth c Z kc ks 363 (lvL K b i) [] m := by
  obtain ⟨v, Q1, ⟨r, rfl⟩, h4, h5⟩ := op_change (K := K) hR (xs (i + 1)) (xs (i + 2)) (xs (i + 3))
  refine i_aload_n (q := 364) (i := 2) C.1 dL_law_363 rfl rfl ?_
  refine l_arg (q := 369) (k := 1) C dL_law_364 dL_law_365 dL_law_366 dL_law_367 dL_law_368 rfl (by decide) (by omega) ?_
  refine l_arg (q := 374) (k := 2) C dL_law_369 dL_law_370 dL_law_371 dL_law_372 dL_law_373 rfl (by decide) (by omega) ?_
  refine l_arg (q := 379) (k := 3) C dL_law_374 dL_law_375 dL_law_376 dL_law_377 dL_law_378 rfl (by decide) (by omega) ?_
  refine l_call (q := 382) (as := [.int (xs (i + 1)), .int (xs (i + 2)), .int (xs (i + 3))]) C dL_law_379 rfl ml_L_35 mv_X4_change rv4 rfl h4 rfl rfl rfl rfl (Nat.le_of_ble_eq_true rfl) ⟨Nat.le_of_ble_eq_true rfl, Nat.le_of_ble_eq_true rfl⟩ hcs (fun m1 hm1 => ?_)
  obtain ⟨Q2, h6, h7⟩ := h5 m1 hm1
  refine i_aload_n (q := 383) (i := 1) C.1 dL_law_382 rfl rfl ?_
  refine l_arg (q := 388) (k := 1) C dL_law_383 dL_law_384 dL_law_385 dL_law_386 dL_law_387 rfl (by decide) (by omega) ?_
  refine l_arg (q := 393) (k := 2) C dL_law_388 dL_law_389 dL_law_390 dL_law_391 dL_law_392 rfl (by decide) (by omega) ?_
  refine l_arg (q := 398) (k := 3) C dL_law_393 dL_law_394 dL_law_395 dL_law_396 dL_law_397 rfl (by decide) (by omega) ?_
  refine l_call (q := 401) (as := [.int (xs (i + 1)), .int (xs (i + 2)), .int (xs (i + 3))]) C dL_law_398 rfl ml_L_39 mv_X5_change rv5 rfl h6 rfl rfl rfl rfl (Nat.le_of_ble_eq_true rfl) ⟨Nat.le_of_ble_eq_true rfl, Nat.le_of_ble_eq_true rfl⟩ hcs (fun m2 hm2 => ?_)
  exact i_icmp_eq (t := 1369) C.1 dL_law_401 (by decide) (kk m2 (h7 m2 hm2))
set_option maxRecDepth 20000 in
theorem lc_signs {K : Cx} {b L : Nat} {xs : Nat → Int32} {p : Program} {e : Env} {s : State} {mi : MethodId} {below : List Frame} {meth : Method} {c : Code} {Z : State → Prop} {kc ks i : Nat} {m : TM} (C : LCX K b L xs p s mi meth c) (hi : i + 6 ≤ L) (hcs : kc + 0 ≤ room_1.cells ∧ ks + 0 ≤ room_1.slots) (hR : Rel m) (kk : ∀ m2, Rel m2 → LXI K p e s mi b below meth c Z kc ks 1369 (lvL K b i) [] m2) : LXI K p e s mi b below meth c Z kc ks 406 (lvL K b i) [] m := by
  obtain ⟨v, Q1, ⟨r, rfl⟩, h4, h5⟩ := op_signs (K := K) hR (xs (i + 1)) (xs (i + 2))
  refine i_aload_n (q := 407) (i := 2) C.1 dL_law_406 rfl rfl ?_
  refine l_arg (q := 412) (k := 1) C dL_law_407 dL_law_408 dL_law_409 dL_law_410 dL_law_411 rfl (by decide) (by omega) ?_
  refine l_arg (q := 417) (k := 2) C dL_law_412 dL_law_413 dL_law_414 dL_law_415 dL_law_416 rfl (by decide) (by omega) ?_
  refine l_call (q := 420) (as := [.int (xs (i + 1)), .int (xs (i + 2))]) C dL_law_417 rfl ml_L_40 mv_X4_signs rv4 rfl h4 rfl rfl rfl rfl (Nat.le_of_ble_eq_true rfl) ⟨Nat.le_of_ble_eq_true rfl, Nat.le_of_ble_eq_true rfl⟩ hcs (fun m1 hm1 => ?_)
  obtain ⟨Q2, h6, h7⟩ := h5 m1 hm1
  refine i_aload_n (q := 421) (i := 1) C.1 dL_law_420 rfl rfl ?_
  refine l_arg (q := 426) (k := 1) C dL_law_421 dL_law_422 dL_law_423 dL_law_424 dL_law_425 rfl (by decide) (by omega) ?_
  refine l_arg (q := 431) (k := 2) C dL_law_426 dL_law_427 dL_law_428 dL_law_429 dL_law_430 rfl (by decide) (by omega) ?_
  refine l_call (q := 434) (as := [.int (xs (i + 1)), .int (xs (i + 2))]) C dL_law_431 rfl ml_L_43 mv_X5_signs rv5 rfl h6 rfl rfl rfl rfl (Nat.le_of_ble_eq_true rfl) ⟨Nat.le_of_ble_eq_true rfl, Nat.le_of_ble_eq_true rfl⟩ hcs (fun m2 hm2 => ?_)
  exact i_icmp_eq (t := 1369) C.1 dL_law_434 (by decide) (kk m2 (h7 m2 hm2))
set_option maxRecDepth 20000 in
theorem lc_onLine {K : Cx} {b L : Nat} {xs : Nat → Int32} {p : Program} {e : Env} {s : State} {mi : MethodId} {below : List Frame} {meth : Method} {c : Code} {Z : State → Prop} {kc ks i : Nat} {m : TM} (C : LCX K b L xs p s mi meth c) (hi : i + 6 ≤ L) (hcs : kc + 0 ≤ room_1.cells ∧ ks + 0 ≤ room_1.slots) (hR : Rel m) (kk : ∀ m2, Rel m2 → LXI K p e s mi b below meth c Z kc ks 1369 (lvL K b i) [] m2) : LXI K p e s mi b below meth c Z kc ks 439 (lvL K b i) [] m := by
  obtain ⟨v, Q1, ⟨r, rfl⟩, h4, h5⟩ := op_onLine (K := K) hR (xs (i + 1))
  refine i_aload_n (q := 440) (i := 2) C.1 dL_law_439 rfl rfl ?_
  refine l_arg (q := 445) (k := 1) C dL_law_440 dL_law_441 dL_law_442 dL_law_443 dL_law_444 rfl (by decide) (by omega) ?_
  refine l_call (q := 448) (as := [.int (xs (i + 1))]) C dL_law_445 rfl ml_L_44 mv_X4_onLine rv4 rfl h4 rfl rfl rfl rfl (Nat.le_of_ble_eq_true rfl) ⟨Nat.le_of_ble_eq_true rfl, Nat.le_of_ble_eq_true rfl⟩ hcs (fun m1 hm1 => ?_)
  obtain ⟨Q2, h6, h7⟩ := h5 m1 hm1
  refine i_aload_n (q := 449) (i := 1) C.1 dL_law_448 rfl rfl ?_
  refine l_arg (q := 454) (k := 1) C dL_law_449 dL_law_450 dL_law_451 dL_law_452 dL_law_453 rfl (by decide) (by omega) ?_
  refine l_call (q := 457) (as := [.int (xs (i + 1))]) C dL_law_454 rfl ml_L_47 mv_X5_onLine rv5 rfl h6 rfl rfl rfl rfl (Nat.le_of_ble_eq_true rfl) ⟨Nat.le_of_ble_eq_true rfl, Nat.le_of_ble_eq_true rfl⟩ hcs (fun m2 hm2 => ?_)
  exact i_icmp_eq (t := 1369) C.1 dL_law_457 (by decide) (kk m2 (h7 m2 hm2))
set_option maxRecDepth 20000 in
theorem lc_go {K : Cx} {b L : Nat} {xs : Nat → Int32} {p : Program} {e : Env} {s : State} {mi : MethodId} {below : List Frame} {meth : Method} {c : Code} {Z : State → Prop} {kc ks i : Nat} {m : TM} (C : LCX K b L xs p s mi meth c) (hi : i + 6 ≤ L) (hcs : kc + 0 ≤ room_1.cells ∧ ks + 0 ≤ room_1.slots) (hR : Rel m) (kk : ∀ m2, Rel m2 → LXI K p e s mi b below meth c Z kc ks 1369 (lvL K b i) [] m2) : LXI K p e s mi b below meth c Z kc ks 462 (lvL K b i) [] m := by
  obtain ⟨v, Q1, ⟨r, rfl⟩, h4, h5⟩ := op_go (K := K) hR (xs (i + 1))
  refine i_aload_n (q := 463) (i := 2) C.1 dL_law_462 rfl rfl ?_
  refine l_arg (q := 468) (k := 1) C dL_law_463 dL_law_464 dL_law_465 dL_law_466 dL_law_467 rfl (by decide) (by omega) ?_
  refine l_call (q := 471) (as := [.int (xs (i + 1))]) C dL_law_468 rfl ml_L_48 mv_X4_go rv4 rfl h4 rfl rfl rfl rfl (Nat.le_of_ble_eq_true rfl) ⟨Nat.le_of_ble_eq_true rfl, Nat.le_of_ble_eq_true rfl⟩ hcs (fun m1 hm1 => ?_)
  obtain ⟨Q2, h6, h7⟩ := h5 m1 hm1
  refine i_aload_n (q := 472) (i := 1) C.1 dL_law_471 rfl rfl ?_
  refine l_arg (q := 477) (k := 1) C dL_law_472 dL_law_473 dL_law_474 dL_law_475 dL_law_476 rfl (by decide) (by omega) ?_
  refine l_call (q := 480) (as := [.int (xs (i + 1))]) C dL_law_477 rfl ml_L_51 mv_X5_go rv5 rfl h6 rfl rfl rfl rfl (Nat.le_of_ble_eq_true rfl) ⟨Nat.le_of_ble_eq_true rfl, Nat.le_of_ble_eq_true rfl⟩ hcs (fun m2 hm2 => ?_)
  exact i_icmp_eq (t := 1369) C.1 dL_law_480 (by decide) (kk m2 (h7 m2 hm2))
set_option maxRecDepth 20000 in
theorem lc_now {K : Cx} {b L : Nat} {xs : Nat → Int32} {p : Program} {e : Env} {s : State} {mi : MethodId} {below : List Frame} {meth : Method} {c : Code} {Z : State → Prop} {kc ks i : Nat} {m : TM} (C : LCX K b L xs p s mi meth c) (hi : i + 6 ≤ L) (hcs : kc + 0 ≤ room_1.cells ∧ ks + 0 ≤ room_1.slots) (hR : Rel m) (kk : ∀ m2, Rel m2 → LXI K p e s mi b below meth c Z kc ks 1369 (lvL K b i) [] m2) : LXI K p e s mi b below meth c Z kc ks 485 (lvL K b i) [] m := by
  obtain ⟨v, Q1, ⟨r, rfl⟩, h4, h5⟩ := op_now (K := K) hR (xs (i + 1))
  refine i_aload_n (q := 486) (i := 2) C.1 dL_law_485 rfl rfl ?_
  refine l_arg (q := 491) (k := 1) C dL_law_486 dL_law_487 dL_law_488 dL_law_489 dL_law_490 rfl (by decide) (by omega) ?_
  refine l_call (q := 494) (as := [.int (xs (i + 1))]) C dL_law_491 rfl ml_L_52 mv_X4_now rv4 rfl h4 rfl rfl rfl rfl (Nat.le_of_ble_eq_true rfl) ⟨Nat.le_of_ble_eq_true rfl, Nat.le_of_ble_eq_true rfl⟩ hcs (fun m1 hm1 => ?_)
  obtain ⟨Q2, h6, h7⟩ := h5 m1 hm1
  refine i_aload_n (q := 495) (i := 1) C.1 dL_law_494 rfl rfl ?_
  refine l_arg (q := 500) (k := 1) C dL_law_495 dL_law_496 dL_law_497 dL_law_498 dL_law_499 rfl (by decide) (by omega) ?_
  refine l_call (q := 503) (as := [.int (xs (i + 1))]) C dL_law_500 rfl ml_L_55 mv_X5_now rv5 rfl h6 rfl rfl rfl rfl (Nat.le_of_ble_eq_true rfl) ⟨Nat.le_of_ble_eq_true rfl, Nat.le_of_ble_eq_true rfl⟩ hcs (fun m2 hm2 => ?_)
  exact i_icmp_eq (t := 1369) C.1 dL_law_503 (by decide) (kk m2 (h7 m2 hm2))
set_option maxRecDepth 20000 in
theorem lc_ahead {K : Cx} {b L : Nat} {xs : Nat → Int32} {p : Program} {e : Env} {s : State} {mi : MethodId} {below : List Frame} {meth : Method} {c : Code} {Z : State → Prop} {kc ks i : Nat} {m : TM} (C : LCX K b L xs p s mi meth c) (hi : i + 6 ≤ L) (hcs : kc + 0 ≤ room_1.cells ∧ ks + 0 ≤ room_1.slots) (hR : Rel m) (kk : ∀ m2, Rel m2 → LXI K p e s mi b below meth c Z kc ks 1369 (lvL K b i) [] m2) : LXI K p e s mi b below meth c Z kc ks 508 (lvL K b i) [] m := by
  obtain ⟨v, Q1, ⟨r, rfl⟩, h4, h5⟩ := op_ahead (K := K) hR (xs (i + 1)) (xs (i + 2)) (xs (i + 3))
  refine i_aload_n (q := 509) (i := 2) C.1 dL_law_508 rfl rfl ?_
  refine l_arg (q := 514) (k := 1) C dL_law_509 dL_law_510 dL_law_511 dL_law_512 dL_law_513 rfl (by decide) (by omega) ?_
  refine l_arg (q := 519) (k := 2) C dL_law_514 dL_law_515 dL_law_516 dL_law_517 dL_law_518 rfl (by decide) (by omega) ?_
  refine l_arg (q := 524) (k := 3) C dL_law_519 dL_law_520 dL_law_521 dL_law_522 dL_law_523 rfl (by decide) (by omega) ?_
  refine l_call (q := 527) (as := [.int (xs (i + 1)), .int (xs (i + 2)), .int (xs (i + 3))]) C dL_law_524 rfl ml_L_56 mv_X4_ahead rv4 rfl h4 rfl rfl rfl rfl (Nat.le_of_ble_eq_true rfl) ⟨Nat.le_of_ble_eq_true rfl, Nat.le_of_ble_eq_true rfl⟩ hcs (fun m1 hm1 => ?_)
  obtain ⟨Q2, h6, h7⟩ := h5 m1 hm1
  refine i_aload_n (q := 528) (i := 1) C.1 dL_law_527 rfl rfl ?_
  refine l_arg (q := 533) (k := 1) C dL_law_528 dL_law_529 dL_law_530 dL_law_531 dL_law_532 rfl (by decide) (by omega) ?_
  refine l_arg (q := 538) (k := 2) C dL_law_533 dL_law_534 dL_law_535 dL_law_536 dL_law_537 rfl (by decide) (by omega) ?_
  refine l_arg (q := 543) (k := 3) C dL_law_538 dL_law_539 dL_law_540 dL_law_541 dL_law_542 rfl (by decide) (by omega) ?_
  refine l_call (q := 546) (as := [.int (xs (i + 1)), .int (xs (i + 2)), .int (xs (i + 3))]) C dL_law_543 rfl ml_L_59 mv_X5_ahead rv5 rfl h6 rfl rfl rfl rfl (Nat.le_of_ble_eq_true rfl) ⟨Nat.le_of_ble_eq_true rfl, Nat.le_of_ble_eq_true rfl⟩ hcs (fun m2 hm2 => ?_)
  exact i_icmp_eq (t := 1369) C.1 dL_law_546 (by decide) (kk m2 (h7 m2 hm2))
set_option maxRecDepth 20000 in
theorem lc_sea {K : Cx} {b L : Nat} {xs : Nat → Int32} {p : Program} {e : Env} {s : State} {mi : MethodId} {below : List Frame} {meth : Method} {c : Code} {Z : State → Prop} {kc ks i : Nat} {m : TM} (C : LCX K b L xs p s mi meth c) (hi : i + 6 ≤ L) (hcs : kc + 0 ≤ room_1.cells ∧ ks + 0 ≤ room_1.slots) (hR : Rel m) (kk : ∀ m2, Rel m2 → LXI K p e s mi b below meth c Z kc ks 1369 (lvL K b i) [] m2) : LXI K p e s mi b below meth c Z kc ks 551 (lvL K b i) [] m := by
  obtain ⟨v, Q1, ⟨r, rfl⟩, h4, h5⟩ := op_sea (K := K) hR (xs (i + 1)) (xs (i + 2))
  refine i_aload_n (q := 552) (i := 2) C.1 dL_law_551 rfl rfl ?_
  refine l_arg (q := 557) (k := 1) C dL_law_552 dL_law_553 dL_law_554 dL_law_555 dL_law_556 rfl (by decide) (by omega) ?_
  refine l_arg (q := 562) (k := 2) C dL_law_557 dL_law_558 dL_law_559 dL_law_560 dL_law_561 rfl (by decide) (by omega) ?_
  refine l_call (q := 565) (as := [.int (xs (i + 1)), .int (xs (i + 2))]) C dL_law_562 rfl ml_L_60 mv_X4_sea rv4 rfl h4 rfl rfl rfl rfl (Nat.le_of_ble_eq_true rfl) ⟨Nat.le_of_ble_eq_true rfl, Nat.le_of_ble_eq_true rfl⟩ hcs (fun m1 hm1 => ?_)
  obtain ⟨Q2, h6, h7⟩ := h5 m1 hm1
  refine i_aload_n (q := 566) (i := 1) C.1 dL_law_565 rfl rfl ?_
  refine l_arg (q := 571) (k := 1) C dL_law_566 dL_law_567 dL_law_568 dL_law_569 dL_law_570 rfl (by decide) (by omega) ?_
  refine l_arg (q := 576) (k := 2) C dL_law_571 dL_law_572 dL_law_573 dL_law_574 dL_law_575 rfl (by decide) (by omega) ?_
  refine l_call (q := 579) (as := [.int (xs (i + 1)), .int (xs (i + 2))]) C dL_law_576 rfl ml_L_63 mv_X5_sea rv5 rfl h6 rfl rfl rfl rfl (Nat.le_of_ble_eq_true rfl) ⟨Nat.le_of_ble_eq_true rfl, Nat.le_of_ble_eq_true rfl⟩ hcs (fun m2 hm2 => ?_)
  exact i_icmp_eq (t := 1369) C.1 dL_law_579 (by decide) (kk m2 (h7 m2 hm2))
set_option maxRecDepth 20000 in
theorem lc_when {K : Cx} {b L : Nat} {xs : Nat → Int32} {p : Program} {e : Env} {s : State} {mi : MethodId} {below : List Frame} {meth : Method} {c : Code} {Z : State → Prop} {kc ks i : Nat} {m : TM} (C : LCX K b L xs p s mi meth c) (hi : i + 6 ≤ L) (hcs : kc + 0 ≤ room_1.cells ∧ ks + 0 ≤ room_1.slots) (hR : Rel m) (kk : ∀ m2, Rel m2 → LXI K p e s mi b below meth c Z kc ks 1369 (lvL K b i) [] m2) : LXI K p e s mi b below meth c Z kc ks 584 (lvL K b i) [] m := by
  obtain ⟨v, Q1, ⟨r, rfl⟩, h4, h5⟩ := op_when (K := K) hR (xs (i + 1)) (xs (i + 2))
  refine i_aload_n (q := 585) (i := 2) C.1 dL_law_584 rfl rfl ?_
  refine l_arg (q := 590) (k := 1) C dL_law_585 dL_law_586 dL_law_587 dL_law_588 dL_law_589 rfl (by decide) (by omega) ?_
  refine l_arg (q := 595) (k := 2) C dL_law_590 dL_law_591 dL_law_592 dL_law_593 dL_law_594 rfl (by decide) (by omega) ?_
  refine l_call (q := 598) (as := [.int (xs (i + 1)), .int (xs (i + 2))]) C dL_law_595 rfl ml_L_64 mv_X4_when rv4 rfl h4 rfl rfl rfl rfl (Nat.le_of_ble_eq_true rfl) ⟨Nat.le_of_ble_eq_true rfl, Nat.le_of_ble_eq_true rfl⟩ hcs (fun m1 hm1 => ?_)
  obtain ⟨Q2, h6, h7⟩ := h5 m1 hm1
  refine i_aload_n (q := 599) (i := 1) C.1 dL_law_598 rfl rfl ?_
  refine l_arg (q := 604) (k := 1) C dL_law_599 dL_law_600 dL_law_601 dL_law_602 dL_law_603 rfl (by decide) (by omega) ?_
  refine l_arg (q := 609) (k := 2) C dL_law_604 dL_law_605 dL_law_606 dL_law_607 dL_law_608 rfl (by decide) (by omega) ?_
  refine l_call (q := 612) (as := [.int (xs (i + 1)), .int (xs (i + 2))]) C dL_law_609 rfl ml_L_67 mv_X5_when rv5 rfl h6 rfl rfl rfl rfl (Nat.le_of_ble_eq_true rfl) ⟨Nat.le_of_ble_eq_true rfl, Nat.le_of_ble_eq_true rfl⟩ hcs (fun m2 hm2 => ?_)
  exact i_icmp_eq (t := 1369) C.1 dL_law_612 (by decide) (kk m2 (h7 m2 hm2))
set_option maxRecDepth 20000 in
theorem lc_cleared {K : Cx} {b L : Nat} {xs : Nat → Int32} {p : Program} {e : Env} {s : State} {mi : MethodId} {below : List Frame} {meth : Method} {c : Code} {Z : State → Prop} {kc ks i : Nat} {m : TM} (C : LCX K b L xs p s mi meth c) (hi : i + 6 ≤ L) (hcs : kc + 0 ≤ room_1.cells ∧ ks + 0 ≤ room_1.slots) (hR : Rel m) (kk : ∀ m2, Rel m2 → LXI K p e s mi b below meth c Z kc ks 1369 (lvL K b i) [] m2) : LXI K p e s mi b below meth c Z kc ks 617 (lvL K b i) [] m := by
  obtain ⟨v, Q1, ⟨r, rfl⟩, h4, h5⟩ := op_cleared (K := K) hR
  refine i_aload_n (q := 618) (i := 2) C.1 dL_law_617 rfl rfl ?_
  refine l_call (q := 621) (as := []) C dL_law_618 rfl ml_L_68 mv_X4_cleared rv4 rfl h4 rfl rfl rfl rfl (Nat.le_of_ble_eq_true rfl) ⟨Nat.le_of_ble_eq_true rfl, Nat.le_of_ble_eq_true rfl⟩ hcs (fun m1 hm1 => ?_)
  obtain ⟨Q2, h6, h7⟩ := h5 m1 hm1
  refine i_aload_n (q := 622) (i := 1) C.1 dL_law_621 rfl rfl ?_
  refine l_call (q := 625) (as := []) C dL_law_622 rfl ml_L_72 mv_X5_cleared rv5 rfl h6 rfl rfl rfl rfl (Nat.le_of_ble_eq_true rfl) ⟨Nat.le_of_ble_eq_true rfl, Nat.le_of_ble_eq_true rfl⟩ hcs (fun m2 hm2 => ?_)
  exact i_icmp_eq (t := 1369) C.1 dL_law_625 (by decide) (kk m2 (h7 m2 hm2))
set_option maxRecDepth 20000 in
theorem lc_paid {K : Cx} {b L : Nat} {xs : Nat → Int32} {p : Program} {e : Env} {s : State} {mi : MethodId} {below : List Frame} {meth : Method} {c : Code} {Z : State → Prop} {kc ks i : Nat} {m : TM} (C : LCX K b L xs p s mi meth c) (hi : i + 6 ≤ L) (hcs : kc + 0 ≤ room_1.cells ∧ ks + 0 ≤ room_1.slots) (hR : Rel m) (kk : ∀ m2, Rel m2 → LXI K p e s mi b below meth c Z kc ks 1369 (lvL K b i) [] m2) : LXI K p e s mi b below meth c Z kc ks 630 (lvL K b i) [] m := by
  obtain ⟨v, Q1, ⟨r, rfl⟩, h4, h5⟩ := op_paid (K := K) hR (xs (i + 1))
  refine i_aload_n (q := 631) (i := 2) C.1 dL_law_630 rfl rfl ?_
  refine l_arg (q := 636) (k := 1) C dL_law_631 dL_law_632 dL_law_633 dL_law_634 dL_law_635 rfl (by decide) (by omega) ?_
  refine l_call (q := 639) (as := [.int (xs (i + 1))]) C dL_law_636 rfl ml_L_73 mv_X4_paid rv4 rfl h4 rfl rfl rfl rfl (Nat.le_of_ble_eq_true rfl) ⟨Nat.le_of_ble_eq_true rfl, Nat.le_of_ble_eq_true rfl⟩ hcs (fun m1 hm1 => ?_)
  obtain ⟨Q2, h6, h7⟩ := h5 m1 hm1
  refine i_aload_n (q := 640) (i := 1) C.1 dL_law_639 rfl rfl ?_
  refine l_arg (q := 645) (k := 1) C dL_law_640 dL_law_641 dL_law_642 dL_law_643 dL_law_644 rfl (by decide) (by omega) ?_
  refine l_call (q := 648) (as := [.int (xs (i + 1))]) C dL_law_645 rfl ml_L_76 mv_X5_paid rv5 rfl h6 rfl rfl rfl rfl (Nat.le_of_ble_eq_true rfl) ⟨Nat.le_of_ble_eq_true rfl, Nat.le_of_ble_eq_true rfl⟩ hcs (fun m2 hm2 => ?_)
  exact i_icmp_eq (t := 1369) C.1 dL_law_648 (by decide) (kk m2 (h7 m2 hm2))
set_option maxRecDepth 20000 in
theorem lc_lineFor {K : Cx} {b L : Nat} {xs : Nat → Int32} {p : Program} {e : Env} {s : State} {mi : MethodId} {below : List Frame} {meth : Method} {c : Code} {Z : State → Prop} {kc ks i : Nat} {m : TM} (C : LCX K b L xs p s mi meth c) (hi : i + 6 ≤ L) (hcs : kc + 0 ≤ room_1.cells ∧ ks + 0 ≤ room_1.slots) (hR : Rel m) (kk : ∀ m2, Rel m2 → LXI K p e s mi b below meth c Z kc ks 1369 (lvL K b i) [] m2) : LXI K p e s mi b below meth c Z kc ks 653 (lvL K b i) [] m := by
  obtain ⟨v, Q1, ⟨r, rfl⟩, h4, h5⟩ := op_lineFor (K := K) hR (xs (i + 1)) (xs (i + 2))
  refine i_aload_n (q := 654) (i := 2) C.1 dL_law_653 rfl rfl ?_
  refine l_arg (q := 659) (k := 1) C dL_law_654 dL_law_655 dL_law_656 dL_law_657 dL_law_658 rfl (by decide) (by omega) ?_
  refine l_arg (q := 664) (k := 2) C dL_law_659 dL_law_660 dL_law_661 dL_law_662 dL_law_663 rfl (by decide) (by omega) ?_
  refine l_call (q := 667) (as := [.int (xs (i + 1)), .int (xs (i + 2))]) C dL_law_664 rfl ml_L_77 mv_X4_lineFor rv4 rfl h4 rfl rfl rfl rfl (Nat.le_of_ble_eq_true rfl) ⟨Nat.le_of_ble_eq_true rfl, Nat.le_of_ble_eq_true rfl⟩ hcs (fun m1 hm1 => ?_)
  obtain ⟨Q2, h6, h7⟩ := h5 m1 hm1
  refine i_aload_n (q := 668) (i := 1) C.1 dL_law_667 rfl rfl ?_
  refine l_arg (q := 673) (k := 1) C dL_law_668 dL_law_669 dL_law_670 dL_law_671 dL_law_672 rfl (by decide) (by omega) ?_
  refine l_arg (q := 678) (k := 2) C dL_law_673 dL_law_674 dL_law_675 dL_law_676 dL_law_677 rfl (by decide) (by omega) ?_
  refine l_call (q := 681) (as := [.int (xs (i + 1)), .int (xs (i + 2))]) C dL_law_678 rfl ml_L_80 mv_X5_lineFor rv5 rfl h6 rfl rfl rfl rfl (Nat.le_of_ble_eq_true rfl) ⟨Nat.le_of_ble_eq_true rfl, Nat.le_of_ble_eq_true rfl⟩ hcs (fun m2 hm2 => ?_)
  exact i_icmp_eq (t := 1369) C.1 dL_law_681 (by decide) (kk m2 (h7 m2 hm2))
set_option maxRecDepth 20000 in
theorem lc_weightFor {K : Cx} {b L : Nat} {xs : Nat → Int32} {p : Program} {e : Env} {s : State} {mi : MethodId} {below : List Frame} {meth : Method} {c : Code} {Z : State → Prop} {kc ks i : Nat} {m : TM} (C : LCX K b L xs p s mi meth c) (hi : i + 6 ≤ L) (hcs : kc + 0 ≤ room_1.cells ∧ ks + 0 ≤ room_1.slots) (hR : Rel m) (kk : ∀ m2, Rel m2 → LXI K p e s mi b below meth c Z kc ks 1369 (lvL K b i) [] m2) : LXI K p e s mi b below meth c Z kc ks 686 (lvL K b i) [] m := by
  obtain ⟨v, Q1, ⟨r, rfl⟩, h4, h5⟩ := op_weightFor (K := K) hR (xs (i + 1)) (xs (i + 2))
  refine i_aload_n (q := 687) (i := 2) C.1 dL_law_686 rfl rfl ?_
  refine l_arg (q := 692) (k := 1) C dL_law_687 dL_law_688 dL_law_689 dL_law_690 dL_law_691 rfl (by decide) (by omega) ?_
  refine l_arg (q := 697) (k := 2) C dL_law_692 dL_law_693 dL_law_694 dL_law_695 dL_law_696 rfl (by decide) (by omega) ?_
  refine l_call (q := 700) (as := [.int (xs (i + 1)), .int (xs (i + 2))]) C dL_law_697 rfl ml_L_81 mv_X4_weightFor rv4 rfl h4 rfl rfl rfl rfl (Nat.le_of_ble_eq_true rfl) ⟨Nat.le_of_ble_eq_true rfl, Nat.le_of_ble_eq_true rfl⟩ hcs (fun m1 hm1 => ?_)
  obtain ⟨Q2, h6, h7⟩ := h5 m1 hm1
  refine i_aload_n (q := 701) (i := 1) C.1 dL_law_700 rfl rfl ?_
  refine l_arg (q := 706) (k := 1) C dL_law_701 dL_law_702 dL_law_703 dL_law_704 dL_law_705 rfl (by decide) (by omega) ?_
  refine l_arg (q := 711) (k := 2) C dL_law_706 dL_law_707 dL_law_708 dL_law_709 dL_law_710 rfl (by decide) (by omega) ?_
  refine l_call (q := 714) (as := [.int (xs (i + 1)), .int (xs (i + 2))]) C dL_law_711 rfl ml_L_84 mv_X5_weightFor rv5 rfl h6 rfl rfl rfl rfl (Nat.le_of_ble_eq_true rfl) ⟨Nat.le_of_ble_eq_true rfl, Nat.le_of_ble_eq_true rfl⟩ hcs (fun m2 hm2 => ?_)
  exact i_icmp_eq (t := 1369) C.1 dL_law_714 (by decide) (kk m2 (h7 m2 hm2))
set_option maxRecDepth 20000 in
theorem lc_kindFor {K : Cx} {b L : Nat} {xs : Nat → Int32} {p : Program} {e : Env} {s : State} {mi : MethodId} {below : List Frame} {meth : Method} {c : Code} {Z : State → Prop} {kc ks i : Nat} {m : TM} (C : LCX K b L xs p s mi meth c) (hi : i + 6 ≤ L) (hcs : kc + 0 ≤ room_1.cells ∧ ks + 0 ≤ room_1.slots) (hR : Rel m) (kk : ∀ m2, Rel m2 → LXI K p e s mi b below meth c Z kc ks 1369 (lvL K b i) [] m2) : LXI K p e s mi b below meth c Z kc ks 719 (lvL K b i) [] m := by
  obtain ⟨v, Q1, ⟨r, rfl⟩, h4, h5⟩ := op_kindFor (K := K) hR (xs (i + 1)) (xs (i + 2))
  refine i_aload_n (q := 720) (i := 2) C.1 dL_law_719 rfl rfl ?_
  refine l_arg (q := 725) (k := 1) C dL_law_720 dL_law_721 dL_law_722 dL_law_723 dL_law_724 rfl (by decide) (by omega) ?_
  refine l_arg (q := 730) (k := 2) C dL_law_725 dL_law_726 dL_law_727 dL_law_728 dL_law_729 rfl (by decide) (by omega) ?_
  refine l_call (q := 733) (as := [.int (xs (i + 1)), .int (xs (i + 2))]) C dL_law_730 rfl ml_L_85 mv_X4_kindFor rv4 rfl h4 rfl rfl rfl rfl (Nat.le_of_ble_eq_true rfl) ⟨Nat.le_of_ble_eq_true rfl, Nat.le_of_ble_eq_true rfl⟩ hcs (fun m1 hm1 => ?_)
  obtain ⟨Q2, h6, h7⟩ := h5 m1 hm1
  refine i_aload_n (q := 734) (i := 1) C.1 dL_law_733 rfl rfl ?_
  refine l_arg (q := 739) (k := 1) C dL_law_734 dL_law_735 dL_law_736 dL_law_737 dL_law_738 rfl (by decide) (by omega) ?_
  refine l_arg (q := 744) (k := 2) C dL_law_739 dL_law_740 dL_law_741 dL_law_742 dL_law_743 rfl (by decide) (by omega) ?_
  refine l_call (q := 747) (as := [.int (xs (i + 1)), .int (xs (i + 2))]) C dL_law_744 rfl ml_L_88 mv_X5_kindFor rv5 rfl h6 rfl rfl rfl rfl (Nat.le_of_ble_eq_true rfl) ⟨Nat.le_of_ble_eq_true rfl, Nat.le_of_ble_eq_true rfl⟩ hcs (fun m2 hm2 => ?_)
  exact i_icmp_eq (t := 1369) C.1 dL_law_747 (by decide) (kk m2 (h7 m2 hm2))
set_option maxRecDepth 20000 in
theorem lc_stormFor {K : Cx} {b L : Nat} {xs : Nat → Int32} {p : Program} {e : Env} {s : State} {mi : MethodId} {below : List Frame} {meth : Method} {c : Code} {Z : State → Prop} {kc ks i : Nat} {m : TM} (C : LCX K b L xs p s mi meth c) (hi : i + 6 ≤ L) (hcs : kc + 0 ≤ room_1.cells ∧ ks + 0 ≤ room_1.slots) (hR : Rel m) (kk : ∀ m2, Rel m2 → LXI K p e s mi b below meth c Z kc ks 1369 (lvL K b i) [] m2) : LXI K p e s mi b below meth c Z kc ks 752 (lvL K b i) [] m := by
  obtain ⟨v, Q1, ⟨r, rfl⟩, h4, h5⟩ := op_stormFor (K := K) hR (xs (i + 1)) (xs (i + 2))
  refine i_aload_n (q := 753) (i := 2) C.1 dL_law_752 rfl rfl ?_
  refine l_arg (q := 758) (k := 1) C dL_law_753 dL_law_754 dL_law_755 dL_law_756 dL_law_757 rfl (by decide) (by omega) ?_
  refine l_arg (q := 763) (k := 2) C dL_law_758 dL_law_759 dL_law_760 dL_law_761 dL_law_762 rfl (by decide) (by omega) ?_
  refine l_call (q := 766) (as := [.int (xs (i + 1)), .int (xs (i + 2))]) C dL_law_763 rfl ml_L_89 mv_X4_stormFor rv4 rfl h4 rfl rfl rfl rfl (Nat.le_of_ble_eq_true rfl) ⟨Nat.le_of_ble_eq_true rfl, Nat.le_of_ble_eq_true rfl⟩ hcs (fun m1 hm1 => ?_)
  obtain ⟨Q2, h6, h7⟩ := h5 m1 hm1
  refine i_aload_n (q := 767) (i := 1) C.1 dL_law_766 rfl rfl ?_
  refine l_arg (q := 772) (k := 1) C dL_law_767 dL_law_768 dL_law_769 dL_law_770 dL_law_771 rfl (by decide) (by omega) ?_
  refine l_arg (q := 777) (k := 2) C dL_law_772 dL_law_773 dL_law_774 dL_law_775 dL_law_776 rfl (by decide) (by omega) ?_
  refine l_call (q := 780) (as := [.int (xs (i + 1)), .int (xs (i + 2))]) C dL_law_777 rfl ml_L_92 mv_X5_stormFor rv5 rfl h6 rfl rfl rfl rfl (Nat.le_of_ble_eq_true rfl) ⟨Nat.le_of_ble_eq_true rfl, Nat.le_of_ble_eq_true rfl⟩ hcs (fun m2 hm2 => ?_)
  exact i_icmp_eq (t := 1369) C.1 dL_law_780 (by decide) (kk m2 (h7 m2 hm2))
set_option maxRecDepth 20000 in
theorem lc_holdBack {K : Cx} {b L : Nat} {xs : Nat → Int32} {p : Program} {e : Env} {s : State} {mi : MethodId} {below : List Frame} {meth : Method} {c : Code} {Z : State → Prop} {kc ks i : Nat} {m : TM} (C : LCX K b L xs p s mi meth c) (hi : i + 6 ≤ L) (hcs : kc + 0 ≤ room_1.cells ∧ ks + 0 ≤ room_1.slots) (hR : Rel m) (kk : ∀ m2, Rel m2 → LXI K p e s mi b below meth c Z kc ks 1369 (lvL K b i) [] m2) : LXI K p e s mi b below meth c Z kc ks 785 (lvL K b i) [] m := by
  obtain ⟨v, Q1, ⟨r, rfl⟩, h4, h5⟩ := op_holdBack (K := K) hR (xs (i + 1))
  refine i_aload_n (q := 786) (i := 2) C.1 dL_law_785 rfl rfl ?_
  refine l_arg (q := 791) (k := 1) C dL_law_786 dL_law_787 dL_law_788 dL_law_789 dL_law_790 rfl (by decide) (by omega) ?_
  refine l_call (q := 794) (as := [.int (xs (i + 1))]) C dL_law_791 rfl ml_L_93 mv_X4_holdBack rv4 rfl h4 rfl rfl rfl rfl (Nat.le_of_ble_eq_true rfl) ⟨Nat.le_of_ble_eq_true rfl, Nat.le_of_ble_eq_true rfl⟩ hcs (fun m1 hm1 => ?_)
  obtain ⟨Q2, h6, h7⟩ := h5 m1 hm1
  refine i_aload_n (q := 795) (i := 1) C.1 dL_law_794 rfl rfl ?_
  refine l_arg (q := 800) (k := 1) C dL_law_795 dL_law_796 dL_law_797 dL_law_798 dL_law_799 rfl (by decide) (by omega) ?_
  refine l_call (q := 803) (as := [.int (xs (i + 1))]) C dL_law_800 rfl ml_L_96 mv_X5_holdBack rv5 rfl h6 rfl rfl rfl rfl (Nat.le_of_ble_eq_true rfl) ⟨Nat.le_of_ble_eq_true rfl, Nat.le_of_ble_eq_true rfl⟩ hcs (fun m2 hm2 => ?_)
  exact i_icmp_eq (t := 1369) C.1 dL_law_803 (by decide) (kk m2 (h7 m2 hm2))
set_option maxRecDepth 20000 in
theorem lc_fits {K : Cx} {b L : Nat} {xs : Nat → Int32} {p : Program} {e : Env} {s : State} {mi : MethodId} {below : List Frame} {meth : Method} {c : Code} {Z : State → Prop} {kc ks i : Nat} {m : TM} (C : LCX K b L xs p s mi meth c) (hi : i + 6 ≤ L) (hcs : kc + 0 ≤ room_1.cells ∧ ks + 0 ≤ room_1.slots) (hR : Rel m) (kk : ∀ m2, Rel m2 → LXI K p e s mi b below meth c Z kc ks 1369 (lvL K b i) [] m2) : LXI K p e s mi b below meth c Z kc ks 808 (lvL K b i) [] m := by
  obtain ⟨v, Q1, ⟨r, rfl⟩, h4, h5⟩ := op_fits (K := K) hR (xs (i + 1)) (xs (i + 2))
  refine i_aload_n (q := 809) (i := 2) C.1 dL_law_808 rfl rfl ?_
  refine l_arg (q := 814) (k := 1) C dL_law_809 dL_law_810 dL_law_811 dL_law_812 dL_law_813 rfl (by decide) (by omega) ?_
  refine l_arg (q := 819) (k := 2) C dL_law_814 dL_law_815 dL_law_816 dL_law_817 dL_law_818 rfl (by decide) (by omega) ?_
  refine l_call (q := 822) (as := [.int (xs (i + 1)), .int (xs (i + 2))]) C dL_law_819 rfl ml_L_97 mv_X4_fits rv4 rfl h4 rfl rfl rfl rfl (Nat.le_of_ble_eq_true rfl) ⟨Nat.le_of_ble_eq_true rfl, Nat.le_of_ble_eq_true rfl⟩ hcs (fun m1 hm1 => ?_)
  obtain ⟨Q2, h6, h7⟩ := h5 m1 hm1
  refine i_aload_n (q := 823) (i := 1) C.1 dL_law_822 rfl rfl ?_
  refine l_arg (q := 828) (k := 1) C dL_law_823 dL_law_824 dL_law_825 dL_law_826 dL_law_827 rfl (by decide) (by omega) ?_
  refine l_arg (q := 833) (k := 2) C dL_law_828 dL_law_829 dL_law_830 dL_law_831 dL_law_832 rfl (by decide) (by omega) ?_
  refine l_call (q := 836) (as := [.int (xs (i + 1)), .int (xs (i + 2))]) C dL_law_833 rfl ml_L_100 mv_X5_fits rv5 rfl h6 rfl rfl rfl rfl (Nat.le_of_ble_eq_true rfl) ⟨Nat.le_of_ble_eq_true rfl, Nat.le_of_ble_eq_true rfl⟩ hcs (fun m2 hm2 => ?_)
  exact i_icmp_eq (t := 1369) C.1 dL_law_836 (by decide) (kk m2 (h7 m2 hm2))
set_option maxRecDepth 20000 in
theorem lc_kinds {K : Cx} {b L : Nat} {xs : Nat → Int32} {p : Program} {e : Env} {s : State} {mi : MethodId} {below : List Frame} {meth : Method} {c : Code} {Z : State → Prop} {kc ks i : Nat} {m : TM} (C : LCX K b L xs p s mi meth c) (hi : i + 6 ≤ L) (hcs : kc + 0 ≤ room_1.cells ∧ ks + 0 ≤ room_1.slots) (hR : Rel m) (kk : ∀ m2, Rel m2 → LXI K p e s mi b below meth c Z kc ks 1369 (lvL K b i) [] m2) : LXI K p e s mi b below meth c Z kc ks 841 (lvL K b i) [] m := by
  obtain ⟨v, Q1, ⟨r, rfl⟩, h4, h5⟩ := op_kinds (K := K) hR (xs (i + 1)) (xs (i + 2))
  refine i_aload_n (q := 842) (i := 2) C.1 dL_law_841 rfl rfl ?_
  refine l_arg (q := 847) (k := 1) C dL_law_842 dL_law_843 dL_law_844 dL_law_845 dL_law_846 rfl (by decide) (by omega) ?_
  refine l_arg (q := 852) (k := 2) C dL_law_847 dL_law_848 dL_law_849 dL_law_850 dL_law_851 rfl (by decide) (by omega) ?_
  refine l_call (q := 855) (as := [.int (xs (i + 1)), .int (xs (i + 2))]) C dL_law_852 rfl ml_L_101 mv_X4_kinds rv4 rfl h4 rfl rfl rfl rfl (Nat.le_of_ble_eq_true rfl) ⟨Nat.le_of_ble_eq_true rfl, Nat.le_of_ble_eq_true rfl⟩ hcs (fun m1 hm1 => ?_)
  obtain ⟨Q2, h6, h7⟩ := h5 m1 hm1
  refine i_aload_n (q := 856) (i := 1) C.1 dL_law_855 rfl rfl ?_
  refine l_arg (q := 861) (k := 1) C dL_law_856 dL_law_857 dL_law_858 dL_law_859 dL_law_860 rfl (by decide) (by omega) ?_
  refine l_arg (q := 866) (k := 2) C dL_law_861 dL_law_862 dL_law_863 dL_law_864 dL_law_865 rfl (by decide) (by omega) ?_
  refine l_call (q := 869) (as := [.int (xs (i + 1)), .int (xs (i + 2))]) C dL_law_866 rfl ml_L_104 mv_X5_kinds rv5 rfl h6 rfl rfl rfl rfl (Nat.le_of_ble_eq_true rfl) ⟨Nat.le_of_ble_eq_true rfl, Nat.le_of_ble_eq_true rfl⟩ hcs (fun m2 hm2 => ?_)
  exact i_icmp_eq (t := 1369) C.1 dL_law_869 (by decide) (kk m2 (h7 m2 hm2))
set_option maxRecDepth 20000 in
theorem lc_swell {K : Cx} {b L : Nat} {xs : Nat → Int32} {p : Program} {e : Env} {s : State} {mi : MethodId} {below : List Frame} {meth : Method} {c : Code} {Z : State → Prop} {kc ks i : Nat} {m : TM} (C : LCX K b L xs p s mi meth c) (hi : i + 6 ≤ L) (hcs : kc + 0 ≤ room_1.cells ∧ ks + 0 ≤ room_1.slots) (hR : Rel m) (kk : ∀ m2, Rel m2 → LXI K p e s mi b below meth c Z kc ks 1369 (lvL K b i) [] m2) : LXI K p e s mi b below meth c Z kc ks 874 (lvL K b i) [] m := by
  obtain ⟨v, Q1, ⟨r, rfl⟩, h4, h5⟩ := op_swell (K := K) hR (xs (i + 1))
  refine i_aload_n (q := 875) (i := 2) C.1 dL_law_874 rfl rfl ?_
  refine l_arg (q := 880) (k := 1) C dL_law_875 dL_law_876 dL_law_877 dL_law_878 dL_law_879 rfl (by decide) (by omega) ?_
  refine l_call (q := 883) (as := [.int (xs (i + 1))]) C dL_law_880 rfl ml_L_105 mv_X4_swell rv4 rfl h4 rfl rfl rfl rfl (Nat.le_of_ble_eq_true rfl) ⟨Nat.le_of_ble_eq_true rfl, Nat.le_of_ble_eq_true rfl⟩ hcs (fun m1 hm1 => ?_)
  obtain ⟨Q2, h6, h7⟩ := h5 m1 hm1
  refine i_aload_n (q := 884) (i := 1) C.1 dL_law_883 rfl rfl ?_
  refine l_arg (q := 889) (k := 1) C dL_law_884 dL_law_885 dL_law_886 dL_law_887 dL_law_888 rfl (by decide) (by omega) ?_
  refine l_call (q := 892) (as := [.int (xs (i + 1))]) C dL_law_889 rfl ml_L_108 mv_X5_swell rv5 rfl h6 rfl rfl rfl rfl (Nat.le_of_ble_eq_true rfl) ⟨Nat.le_of_ble_eq_true rfl, Nat.le_of_ble_eq_true rfl⟩ hcs (fun m2 hm2 => ?_)
  exact i_icmp_eq (t := 1369) C.1 dL_law_892 (by decide) (kk m2 (h7 m2 hm2))
set_option maxRecDepth 20000 in
theorem lc_odds {K : Cx} {b L : Nat} {xs : Nat → Int32} {p : Program} {e : Env} {s : State} {mi : MethodId} {below : List Frame} {meth : Method} {c : Code} {Z : State → Prop} {kc ks i : Nat} {m : TM} (C : LCX K b L xs p s mi meth c) (hi : i + 6 ≤ L) (hcs : kc + 0 ≤ room_1.cells ∧ ks + 0 ≤ room_1.slots) (hR : Rel m) (kk : ∀ m2, Rel m2 → LXI K p e s mi b below meth c Z kc ks 1369 (lvL K b i) [] m2) : LXI K p e s mi b below meth c Z kc ks 897 (lvL K b i) [] m := by
  obtain ⟨v, Q1, ⟨r, rfl⟩, h4, h5⟩ := op_odds (K := K) hR (xs (i + 1)) (xs (i + 2)) (xs (i + 3))
  refine i_aload_n (q := 898) (i := 2) C.1 dL_law_897 rfl rfl ?_
  refine l_arg (q := 903) (k := 1) C dL_law_898 dL_law_899 dL_law_900 dL_law_901 dL_law_902 rfl (by decide) (by omega) ?_
  refine l_arg (q := 908) (k := 2) C dL_law_903 dL_law_904 dL_law_905 dL_law_906 dL_law_907 rfl (by decide) (by omega) ?_
  refine l_arg (q := 913) (k := 3) C dL_law_908 dL_law_909 dL_law_910 dL_law_911 dL_law_912 rfl (by decide) (by omega) ?_
  refine l_call (q := 916) (as := [.int (xs (i + 1)), .int (xs (i + 2)), .int (xs (i + 3))]) C dL_law_913 rfl ml_L_109 mv_X4_odds rv4 rfl h4 rfl rfl rfl rfl (Nat.le_of_ble_eq_true rfl) ⟨Nat.le_of_ble_eq_true rfl, Nat.le_of_ble_eq_true rfl⟩ hcs (fun m1 hm1 => ?_)
  obtain ⟨Q2, h6, h7⟩ := h5 m1 hm1
  refine i_aload_n (q := 917) (i := 1) C.1 dL_law_916 rfl rfl ?_
  refine l_arg (q := 922) (k := 1) C dL_law_917 dL_law_918 dL_law_919 dL_law_920 dL_law_921 rfl (by decide) (by omega) ?_
  refine l_arg (q := 927) (k := 2) C dL_law_922 dL_law_923 dL_law_924 dL_law_925 dL_law_926 rfl (by decide) (by omega) ?_
  refine l_arg (q := 932) (k := 3) C dL_law_927 dL_law_928 dL_law_929 dL_law_930 dL_law_931 rfl (by decide) (by omega) ?_
  refine l_call (q := 935) (as := [.int (xs (i + 1)), .int (xs (i + 2)), .int (xs (i + 3))]) C dL_law_932 rfl ml_L_113 mv_X5_odds rv5 rfl h6 rfl rfl rfl rfl (Nat.le_of_ble_eq_true rfl) ⟨Nat.le_of_ble_eq_true rfl, Nat.le_of_ble_eq_true rfl⟩ hcs (fun m2 hm2 => ?_)
  exact i_lcmp_eq (t := 1369) C.1 dL_law_935 dL_law_936 (by decide) (kk m2 (h7 m2 hm2))
set_option maxRecDepth 20000 in
theorem lc_seed {K : Cx} {b L : Nat} {xs : Nat → Int32} {p : Program} {e : Env} {s : State} {mi : MethodId} {below : List Frame} {meth : Method} {c : Code} {Z : State → Prop} {kc ks i : Nat} {m : TM} (C : LCX K b L xs p s mi meth c) (hi : i + 6 ≤ L) (hcs : kc + 0 ≤ room_1.cells ∧ ks + 0 ≤ room_1.slots) (hR : Rel m) (kk : ∀ m2, Rel m2 → LXI K p e s mi b below meth c Z kc ks 1369 (lvL K b i) [] m2) : LXI K p e s mi b below meth c Z kc ks 941 (lvL K b i) [] m := by
  obtain ⟨v, Q1, ⟨r, rfl⟩, h4, h5⟩ := op_seed (K := K) hR (xs (i + 1))
  refine i_aload_n (q := 942) (i := 2) C.1 dL_law_941 rfl rfl ?_
  refine l_arg (q := 947) (k := 1) C dL_law_942 dL_law_943 dL_law_944 dL_law_945 dL_law_946 rfl (by decide) (by omega) ?_
  refine l_call (q := 950) (as := [.int (xs (i + 1))]) C dL_law_947 rfl ml_L_114 mv_X4_seed rv4 rfl h4 rfl rfl rfl rfl (Nat.le_of_ble_eq_true rfl) ⟨Nat.le_of_ble_eq_true rfl, Nat.le_of_ble_eq_true rfl⟩ hcs (fun m1 hm1 => ?_)
  obtain ⟨Q2, h6, h7⟩ := h5 m1 hm1
  refine i_aload_n (q := 951) (i := 1) C.1 dL_law_950 rfl rfl ?_
  refine l_arg (q := 956) (k := 1) C dL_law_951 dL_law_952 dL_law_953 dL_law_954 dL_law_955 rfl (by decide) (by omega) ?_
  refine l_call (q := 959) (as := [.int (xs (i + 1))]) C dL_law_956 rfl ml_L_117 mv_X5_seed rv5 rfl h6 rfl rfl rfl rfl (Nat.le_of_ble_eq_true rfl) ⟨Nat.le_of_ble_eq_true rfl, Nat.le_of_ble_eq_true rfl⟩ hcs (fun m2 hm2 => ?_)
  exact i_icmp_eq (t := 1369) C.1 dL_law_959 (by decide) (kk m2 (h7 m2 hm2))
set_option maxRecDepth 20000 in
theorem lc_feed {K : Cx} {b L : Nat} {xs : Nat → Int32} {p : Program} {e : Env} {s : State} {mi : MethodId} {below : List Frame} {meth : Method} {c : Code} {Z : State → Prop} {kc ks i : Nat} {m : TM} (C : LCX K b L xs p s mi meth c) (hi : i + 6 ≤ L) (hcs : kc + 0 ≤ room_1.cells ∧ ks + 0 ≤ room_1.slots) (hR : Rel m) (kk : ∀ m2, Rel m2 → LXI K p e s mi b below meth c Z kc ks 1369 (lvL K b i) [] m2) : LXI K p e s mi b below meth c Z kc ks 964 (lvL K b i) [] m := by
  obtain ⟨v, Q1, ⟨r, rfl⟩, h4, h5⟩ := op_feed (K := K) hR (xs (i + 1)) (xs (i + 2))
  refine i_aload_n (q := 965) (i := 2) C.1 dL_law_964 rfl rfl ?_
  refine l_arg (q := 970) (k := 1) C dL_law_965 dL_law_966 dL_law_967 dL_law_968 dL_law_969 rfl (by decide) (by omega) ?_
  refine l_arg (q := 975) (k := 2) C dL_law_970 dL_law_971 dL_law_972 dL_law_973 dL_law_974 rfl (by decide) (by omega) ?_
  refine l_call (q := 978) (as := [.int (xs (i + 1)), .int (xs (i + 2))]) C dL_law_975 rfl ml_L_118 mv_X4_feed rv4 rfl h4 rfl rfl rfl rfl (Nat.le_of_ble_eq_true rfl) ⟨Nat.le_of_ble_eq_true rfl, Nat.le_of_ble_eq_true rfl⟩ hcs (fun m1 hm1 => ?_)
  obtain ⟨Q2, h6, h7⟩ := h5 m1 hm1
  refine i_aload_n (q := 979) (i := 1) C.1 dL_law_978 rfl rfl ?_
  refine l_arg (q := 984) (k := 1) C dL_law_979 dL_law_980 dL_law_981 dL_law_982 dL_law_983 rfl (by decide) (by omega) ?_
  refine l_arg (q := 989) (k := 2) C dL_law_984 dL_law_985 dL_law_986 dL_law_987 dL_law_988 rfl (by decide) (by omega) ?_
  refine l_call (q := 992) (as := [.int (xs (i + 1)), .int (xs (i + 2))]) C dL_law_989 rfl ml_L_121 mv_X5_feed rv5 rfl h6 rfl rfl rfl rfl (Nat.le_of_ble_eq_true rfl) ⟨Nat.le_of_ble_eq_true rfl, Nat.le_of_ble_eq_true rfl⟩ hcs (fun m2 hm2 => ?_)
  exact i_icmp_eq (t := 1369) C.1 dL_law_992 (by decide) (kk m2 (h7 m2 hm2))
set_option maxRecDepth 20000 in
theorem lc_wipe {K : Cx} {b L : Nat} {xs : Nat → Int32} {p : Program} {e : Env} {s : State} {mi : MethodId} {below : List Frame} {meth : Method} {c : Code} {Z : State → Prop} {kc ks i : Nat} {m : TM} (C : LCX K b L xs p s mi meth c) (hi : i + 6 ≤ L) (hcs : kc + 0 ≤ room_1.cells ∧ ks + 0 ≤ room_1.slots) (hR : Rel m) (kk : ∀ m2, Rel m2 → LXI K p e s mi b below meth c Z kc ks 1369 (lvL K b i) [] m2) : LXI K p e s mi b below meth c Z kc ks 997 (lvL K b i) [] m := by
  obtain ⟨v, Q1, ⟨r, rfl⟩, h4, h5⟩ := op_wipe (K := K) hR
  refine i_aload_n (q := 998) (i := 2) C.1 dL_law_997 rfl rfl ?_
  refine l_call (q := 1001) (as := []) C dL_law_998 rfl ml_L_122 mv_X4_wipe rv4 rfl h4 rfl rfl rfl rfl (Nat.le_of_ble_eq_true rfl) ⟨Nat.le_of_ble_eq_true rfl, Nat.le_of_ble_eq_true rfl⟩ hcs (fun m1 hm1 => ?_)
  obtain ⟨Q2, h6, h7⟩ := h5 m1 hm1
  refine i_aload_n (q := 1002) (i := 1) C.1 dL_law_1001 rfl rfl ?_
  refine l_call (q := 1005) (as := []) C dL_law_1002 rfl ml_L_125 mv_X5_wipe rv5 rfl h6 rfl rfl rfl rfl (Nat.le_of_ble_eq_true rfl) ⟨Nat.le_of_ble_eq_true rfl, Nat.le_of_ble_eq_true rfl⟩ hcs (fun m2 hm2 => ?_)
  exact i_icmp_eq (t := 1369) C.1 dL_law_1005 (by decide) (kk m2 (h7 m2 hm2))
set_option maxRecDepth 20000 in
theorem lc_text {K : Cx} {b L : Nat} {xs : Nat → Int32} {p : Program} {e : Env} {s : State} {mi : MethodId} {below : List Frame} {meth : Method} {c : Code} {Z : State → Prop} {kc ks i : Nat} {m : TM} (C : LCX K b L xs p s mi meth c) (hi : i + 6 ≤ L) (hcs : kc + 0 ≤ room_1.cells ∧ ks + 0 ≤ room_1.slots) (hR : Rel m) (kk : ∀ m2, Rel m2 → LXI K p e s mi b below meth c Z kc ks 1369 (lvL K b i) [] m2) : LXI K p e s mi b below meth c Z kc ks 1010 (lvL K b i) [] m := by
  obtain ⟨v, Q1, ⟨r, rfl⟩, h4, h5⟩ := op_text (K := K) hR
  refine i_aload_n (q := 1011) (i := 2) C.1 dL_law_1010 rfl rfl ?_
  refine l_call (q := 1014) (as := []) C dL_law_1011 rfl ml_L_126 mv_X4_text rv4 rfl h4 rfl rfl rfl rfl (Nat.le_of_ble_eq_true rfl) ⟨Nat.le_of_ble_eq_true rfl, Nat.le_of_ble_eq_true rfl⟩ hcs (fun m1 hm1 => ?_)
  obtain ⟨Q2, h6, h7⟩ := h5 m1 hm1
  refine i_aload_n (q := 1015) (i := 1) C.1 dL_law_1014 rfl rfl ?_
  refine l_call (q := 1018) (as := []) C dL_law_1015 rfl ml_L_129 mv_X5_text rv5 rfl h6 rfl rfl rfl rfl (Nat.le_of_ble_eq_true rfl) ⟨Nat.le_of_ble_eq_true rfl, Nat.le_of_ble_eq_true rfl⟩ hcs (fun m2 hm2 => ?_)
  exact i_icmp_eq (t := 1369) C.1 dL_law_1018 (by decide) (kk m2 (h7 m2 hm2))
set_option maxRecDepth 20000 in
theorem lc_hold {K : Cx} {b L : Nat} {xs : Nat → Int32} {p : Program} {e : Env} {s : State} {mi : MethodId} {below : List Frame} {meth : Method} {c : Code} {Z : State → Prop} {kc ks i : Nat} {m : TM} (C : LCX K b L xs p s mi meth c) (hi : i + 6 ≤ L) (hcs : kc + 0 ≤ room_1.cells ∧ ks + 0 ≤ room_1.slots) (hR : Rel m) (kk : ∀ m2, Rel m2 → LXI K p e s mi b below meth c Z kc ks 1369 (lvL K b i) [] m2) : LXI K p e s mi b below meth c Z kc ks 1023 (lvL K b i) [] m := by
  obtain ⟨v, Q1, ⟨r, rfl⟩, h4, h5⟩ := op_hold (K := K) hR (xs (i + 1)) (xs (i + 2))
  refine i_aload_n (q := 1024) (i := 2) C.1 dL_law_1023 rfl rfl ?_
  refine l_arg (q := 1029) (k := 1) C dL_law_1024 dL_law_1025 dL_law_1026 dL_law_1027 dL_law_1028 rfl (by decide) (by omega) ?_
  refine l_arg (q := 1034) (k := 2) C dL_law_1029 dL_law_1030 dL_law_1031 dL_law_1032 dL_law_1033 rfl (by decide) (by omega) ?_
  refine l_call (q := 1037) (as := [.int (xs (i + 1)), .int (xs (i + 2))]) C dL_law_1034 rfl ml_L_130 mv_X4_hold rv4 rfl h4 rfl rfl rfl rfl (Nat.le_of_ble_eq_true rfl) ⟨Nat.le_of_ble_eq_true rfl, Nat.le_of_ble_eq_true rfl⟩ hcs (fun m1 hm1 => ?_)
  obtain ⟨Q2, h6, h7⟩ := h5 m1 hm1
  refine i_aload_n (q := 1038) (i := 1) C.1 dL_law_1037 rfl rfl ?_
  refine l_arg (q := 1043) (k := 1) C dL_law_1038 dL_law_1039 dL_law_1040 dL_law_1041 dL_law_1042 rfl (by decide) (by omega) ?_
  refine l_arg (q := 1048) (k := 2) C dL_law_1043 dL_law_1044 dL_law_1045 dL_law_1046 dL_law_1047 rfl (by decide) (by omega) ?_
  refine l_call (q := 1051) (as := [.int (xs (i + 1)), .int (xs (i + 2))]) C dL_law_1048 rfl ml_L_133 mv_X5_hold rv5 rfl h6 rfl rfl rfl rfl (Nat.le_of_ble_eq_true rfl) ⟨Nat.le_of_ble_eq_true rfl, Nat.le_of_ble_eq_true rfl⟩ hcs (fun m2 hm2 => ?_)
  exact i_icmp_eq (t := 1369) C.1 dL_law_1051 (by decide) (kk m2 (h7 m2 hm2))
set_option maxRecDepth 20000 in
theorem lc_as {K : Cx} {b L : Nat} {xs : Nat → Int32} {p : Program} {e : Env} {s : State} {mi : MethodId} {below : List Frame} {meth : Method} {c : Code} {Z : State → Prop} {kc ks i : Nat} {m : TM} (C : LCX K b L xs p s mi meth c) (hi : i + 6 ≤ L) (hcs : kc + 0 ≤ room_1.cells ∧ ks + 0 ≤ room_1.slots) (hR : Rel m) (kk : ∀ m2, Rel m2 → LXI K p e s mi b below meth c Z kc ks 1369 (lvL K b i) [] m2) : LXI K p e s mi b below meth c Z kc ks 1056 (lvL K b i) [] m := by
  obtain ⟨v, Q1, ⟨r, rfl⟩, h4, h5⟩ := op_as (K := K) hR (xs (i + 1)) (xs (i + 2))
  refine i_aload_n (q := 1057) (i := 2) C.1 dL_law_1056 rfl rfl ?_
  refine l_arg (q := 1062) (k := 1) C dL_law_1057 dL_law_1058 dL_law_1059 dL_law_1060 dL_law_1061 rfl (by decide) (by omega) ?_
  refine l_arg (q := 1067) (k := 2) C dL_law_1062 dL_law_1063 dL_law_1064 dL_law_1065 dL_law_1066 rfl (by decide) (by omega) ?_
  refine l_call (q := 1070) (as := [.int (xs (i + 1)), .int (xs (i + 2))]) C dL_law_1067 rfl ml_L_134 mv_X4_as rv4 rfl h4 rfl rfl rfl rfl (Nat.le_of_ble_eq_true rfl) ⟨Nat.le_of_ble_eq_true rfl, Nat.le_of_ble_eq_true rfl⟩ hcs (fun m1 hm1 => ?_)
  obtain ⟨Q2, h6, h7⟩ := h5 m1 hm1
  refine i_aload_n (q := 1071) (i := 1) C.1 dL_law_1070 rfl rfl ?_
  refine l_arg (q := 1076) (k := 1) C dL_law_1071 dL_law_1072 dL_law_1073 dL_law_1074 dL_law_1075 rfl (by decide) (by omega) ?_
  refine l_arg (q := 1081) (k := 2) C dL_law_1076 dL_law_1077 dL_law_1078 dL_law_1079 dL_law_1080 rfl (by decide) (by omega) ?_
  refine l_call (q := 1084) (as := [.int (xs (i + 1)), .int (xs (i + 2))]) C dL_law_1081 rfl ml_L_137 mv_X5_as rv5 rfl h6 rfl rfl rfl rfl (Nat.le_of_ble_eq_true rfl) ⟨Nat.le_of_ble_eq_true rfl, Nat.le_of_ble_eq_true rfl⟩ hcs (fun m2 hm2 => ?_)
  exact i_icmp_eq (t := 1369) C.1 dL_law_1084 (by decide) (kk m2 (h7 m2 hm2))
set_option maxRecDepth 20000 in
theorem lc_sheet {K : Cx} {b L : Nat} {xs : Nat → Int32} {p : Program} {e : Env} {s : State} {mi : MethodId} {below : List Frame} {meth : Method} {c : Code} {Z : State → Prop} {kc ks i : Nat} {m : TM} (C : LCX K b L xs p s mi meth c) (hi : i + 6 ≤ L) (hcs : kc + 0 ≤ room_1.cells ∧ ks + 0 ≤ room_1.slots) (hR : Rel m) (kk : ∀ m2, Rel m2 → LXI K p e s mi b below meth c Z kc ks 1369 (lvL K b i) [] m2) : LXI K p e s mi b below meth c Z kc ks 1089 (lvL K b i) [] m := by
  obtain ⟨v, Q1, ⟨r, rfl⟩, h4, h5⟩ := op_sheet (K := K) hR (xs (i + 1)) (xs (i + 2)) (xs (i + 3))
  refine i_aload_n (q := 1090) (i := 2) C.1 dL_law_1089 rfl rfl ?_
  refine l_arg (q := 1095) (k := 1) C dL_law_1090 dL_law_1091 dL_law_1092 dL_law_1093 dL_law_1094 rfl (by decide) (by omega) ?_
  refine l_arg (q := 1100) (k := 2) C dL_law_1095 dL_law_1096 dL_law_1097 dL_law_1098 dL_law_1099 rfl (by decide) (by omega) ?_
  refine l_arg (q := 1105) (k := 3) C dL_law_1100 dL_law_1101 dL_law_1102 dL_law_1103 dL_law_1104 rfl (by decide) (by omega) ?_
  refine l_call (q := 1108) (as := [.int (xs (i + 1)), .int (xs (i + 2)), .int (xs (i + 3))]) C dL_law_1105 rfl ml_L_138 mv_X4_sheet rv4 rfl h4 rfl rfl rfl rfl (Nat.le_of_ble_eq_true rfl) ⟨Nat.le_of_ble_eq_true rfl, Nat.le_of_ble_eq_true rfl⟩ hcs (fun m1 hm1 => ?_)
  obtain ⟨Q2, h6, h7⟩ := h5 m1 hm1
  refine i_aload_n (q := 1109) (i := 1) C.1 dL_law_1108 rfl rfl ?_
  refine l_arg (q := 1114) (k := 1) C dL_law_1109 dL_law_1110 dL_law_1111 dL_law_1112 dL_law_1113 rfl (by decide) (by omega) ?_
  refine l_arg (q := 1119) (k := 2) C dL_law_1114 dL_law_1115 dL_law_1116 dL_law_1117 dL_law_1118 rfl (by decide) (by omega) ?_
  refine l_arg (q := 1124) (k := 3) C dL_law_1119 dL_law_1120 dL_law_1121 dL_law_1122 dL_law_1123 rfl (by decide) (by omega) ?_
  refine l_call (q := 1127) (as := [.int (xs (i + 1)), .int (xs (i + 2)), .int (xs (i + 3))]) C dL_law_1124 rfl ml_L_141 mv_X5_sheet rv5 rfl h6 rfl rfl rfl rfl (Nat.le_of_ble_eq_true rfl) ⟨Nat.le_of_ble_eq_true rfl, Nat.le_of_ble_eq_true rfl⟩ hcs (fun m2 hm2 => ?_)
  exact i_icmp_eq (t := 1369) C.1 dL_law_1127 (by decide) (kk m2 (h7 m2 hm2))
set_option maxRecDepth 20000 in
theorem lc_write {K : Cx} {b L : Nat} {xs : Nat → Int32} {p : Program} {e : Env} {s : State} {mi : MethodId} {below : List Frame} {meth : Method} {c : Code} {Z : State → Prop} {kc ks i : Nat} {m : TM} (C : LCX K b L xs p s mi meth c) (hi : i + 6 ≤ L) (hcs : kc + 0 ≤ room_1.cells ∧ ks + 0 ≤ room_1.slots) (hR : Rel m) (kk : ∀ m2, Rel m2 → LXI K p e s mi b below meth c Z kc ks 1369 (lvL K b i) [] m2) : LXI K p e s mi b below meth c Z kc ks 1132 (lvL K b i) [] m := by
  obtain ⟨v, Q1, ⟨r, rfl⟩, h4, h5⟩ := op_write (K := K) hR (xs (i + 1)) (xs (i + 2)) (xs (i + 3))
  refine i_aload_n (q := 1133) (i := 2) C.1 dL_law_1132 rfl rfl ?_
  refine l_arg (q := 1138) (k := 1) C dL_law_1133 dL_law_1134 dL_law_1135 dL_law_1136 dL_law_1137 rfl (by decide) (by omega) ?_
  refine l_arg (q := 1143) (k := 2) C dL_law_1138 dL_law_1139 dL_law_1140 dL_law_1141 dL_law_1142 rfl (by decide) (by omega) ?_
  refine l_arg (q := 1148) (k := 3) C dL_law_1143 dL_law_1144 dL_law_1145 dL_law_1146 dL_law_1147 rfl (by decide) (by omega) ?_
  refine l_call (q := 1151) (as := [.int (xs (i + 1)), .int (xs (i + 2)), .int (xs (i + 3))]) C dL_law_1148 rfl ml_L_142 mv_X4_write rv4 rfl h4 rfl rfl rfl rfl (Nat.le_of_ble_eq_true rfl) ⟨Nat.le_of_ble_eq_true rfl, Nat.le_of_ble_eq_true rfl⟩ hcs (fun m1 hm1 => ?_)
  obtain ⟨Q2, h6, h7⟩ := h5 m1 hm1
  refine i_aload_n (q := 1152) (i := 1) C.1 dL_law_1151 rfl rfl ?_
  refine l_arg (q := 1157) (k := 1) C dL_law_1152 dL_law_1153 dL_law_1154 dL_law_1155 dL_law_1156 rfl (by decide) (by omega) ?_
  refine l_arg (q := 1162) (k := 2) C dL_law_1157 dL_law_1158 dL_law_1159 dL_law_1160 dL_law_1161 rfl (by decide) (by omega) ?_
  refine l_arg (q := 1167) (k := 3) C dL_law_1162 dL_law_1163 dL_law_1164 dL_law_1165 dL_law_1166 rfl (by decide) (by omega) ?_
  refine l_call (q := 1170) (as := [.int (xs (i + 1)), .int (xs (i + 2)), .int (xs (i + 3))]) C dL_law_1167 rfl ml_L_145 mv_X5_write rv5 rfl h6 rfl rfl rfl rfl (Nat.le_of_ble_eq_true rfl) ⟨Nat.le_of_ble_eq_true rfl, Nat.le_of_ble_eq_true rfl⟩ hcs (fun m2 hm2 => ?_)
  exact i_icmp_eq (t := 1369) C.1 dL_law_1170 (by decide) (kk m2 (h7 m2 hm2))
set_option maxRecDepth 20000 in
theorem lc_copy {K : Cx} {b L : Nat} {xs : Nat → Int32} {p : Program} {e : Env} {s : State} {mi : MethodId} {below : List Frame} {meth : Method} {c : Code} {Z : State → Prop} {kc ks i : Nat} {m : TM} (C : LCX K b L xs p s mi meth c) (hi : i + 6 ≤ L) (hcs : kc + 0 ≤ room_1.cells ∧ ks + 0 ≤ room_1.slots) (hR : Rel m) (kk : ∀ m2, Rel m2 → LXI K p e s mi b below meth c Z kc ks 1369 (lvL K b i) [] m2) : LXI K p e s mi b below meth c Z kc ks 1175 (lvL K b i) [] m := by
  obtain ⟨v, Q1, ⟨r, rfl⟩, h4, h5⟩ := op_copy (K := K) hR (xs (i + 1)) (xs (i + 2)) (xs (i + 3)) (xs (i + 4)) (xs (i + 5))
  refine i_aload_n (q := 1176) (i := 2) C.1 dL_law_1175 rfl rfl ?_
  refine l_arg (q := 1181) (k := 1) C dL_law_1176 dL_law_1177 dL_law_1178 dL_law_1179 dL_law_1180 rfl (by decide) (by omega) ?_
  refine l_arg (q := 1186) (k := 2) C dL_law_1181 dL_law_1182 dL_law_1183 dL_law_1184 dL_law_1185 rfl (by decide) (by omega) ?_
  refine l_arg (q := 1191) (k := 3) C dL_law_1186 dL_law_1187 dL_law_1188 dL_law_1189 dL_law_1190 rfl (by decide) (by omega) ?_
  refine l_arg (q := 1196) (k := 4) C dL_law_1191 dL_law_1192 dL_law_1193 dL_law_1194 dL_law_1195 rfl (by decide) (by omega) ?_
  refine l_arg (q := 1201) (k := 5) C dL_law_1196 dL_law_1197 dL_law_1198 dL_law_1199 dL_law_1200 rfl (by decide) (by omega) ?_
  refine l_call (q := 1204) (as := [.int (xs (i + 1)), .int (xs (i + 2)), .int (xs (i + 3)), .int (xs (i + 4)), .int (xs (i + 5))]) C dL_law_1201 rfl ml_L_146 mv_X4_copy rv4 rfl h4 rfl rfl rfl rfl (Nat.le_of_ble_eq_true rfl) ⟨Nat.le_of_ble_eq_true rfl, Nat.le_of_ble_eq_true rfl⟩ hcs (fun m1 hm1 => ?_)
  obtain ⟨Q2, h6, h7⟩ := h5 m1 hm1
  refine i_aload_n (q := 1205) (i := 1) C.1 dL_law_1204 rfl rfl ?_
  refine l_arg (q := 1210) (k := 1) C dL_law_1205 dL_law_1206 dL_law_1207 dL_law_1208 dL_law_1209 rfl (by decide) (by omega) ?_
  refine l_arg (q := 1215) (k := 2) C dL_law_1210 dL_law_1211 dL_law_1212 dL_law_1213 dL_law_1214 rfl (by decide) (by omega) ?_
  refine l_arg (q := 1220) (k := 3) C dL_law_1215 dL_law_1216 dL_law_1217 dL_law_1218 dL_law_1219 rfl (by decide) (by omega) ?_
  refine l_arg (q := 1225) (k := 4) C dL_law_1220 dL_law_1221 dL_law_1222 dL_law_1223 dL_law_1224 rfl (by decide) (by omega) ?_
  refine l_arg (q := 1230) (k := 5) C dL_law_1225 dL_law_1226 dL_law_1227 dL_law_1228 dL_law_1229 rfl (by decide) (by omega) ?_
  refine l_call (q := 1233) (as := [.int (xs (i + 1)), .int (xs (i + 2)), .int (xs (i + 3)), .int (xs (i + 4)), .int (xs (i + 5))]) C dL_law_1230 rfl ml_L_150 mv_X5_copy rv5 rfl h6 rfl rfl rfl rfl (Nat.le_of_ble_eq_true rfl) ⟨Nat.le_of_ble_eq_true rfl, Nat.le_of_ble_eq_true rfl⟩ hcs (fun m2 hm2 => ?_)
  exact i_icmp_eq (t := 1369) C.1 dL_law_1233 (by decide) (kk m2 (h7 m2 hm2))
set_option maxRecDepth 20000 in
theorem lc_load {K : Cx} {b L : Nat} {xs : Nat → Int32} {p : Program} {e : Env} {s : State} {mi : MethodId} {below : List Frame} {meth : Method} {c : Code} {Z : State → Prop} {kc ks i : Nat} {m : TM} (C : LCX K b L xs p s mi meth c) (hi : i + 6 ≤ L) (hcs : kc + 0 ≤ room_1.cells ∧ ks + 0 ≤ room_1.slots) (hR : Rel m) (kk : ∀ m2, Rel m2 → LXI K p e s mi b below meth c Z kc ks 1369 (lvL K b i) [] m2) : LXI K p e s mi b below meth c Z kc ks 1238 (lvL K b i) [] m := by
  obtain ⟨v, Q1, ⟨r, rfl⟩, h4, h5⟩ := op_load (K := K) hR (xs (i + 1))
  refine i_aload_n (q := 1239) (i := 2) C.1 dL_law_1238 rfl rfl ?_
  refine l_arg (q := 1244) (k := 1) C dL_law_1239 dL_law_1240 dL_law_1241 dL_law_1242 dL_law_1243 rfl (by decide) (by omega) ?_
  refine l_call (q := 1247) (as := [.int (xs (i + 1))]) C dL_law_1244 rfl ml_L_151 mv_X4_load rv4 rfl h4 rfl rfl rfl rfl (Nat.le_of_ble_eq_true rfl) ⟨Nat.le_of_ble_eq_true rfl, Nat.le_of_ble_eq_true rfl⟩ hcs (fun m1 hm1 => ?_)
  obtain ⟨Q2, h6, h7⟩ := h5 m1 hm1
  refine i_aload_n (q := 1248) (i := 1) C.1 dL_law_1247 rfl rfl ?_
  refine l_arg (q := 1253) (k := 1) C dL_law_1248 dL_law_1249 dL_law_1250 dL_law_1251 dL_law_1252 rfl (by decide) (by omega) ?_
  refine l_call (q := 1256) (as := [.int (xs (i + 1))]) C dL_law_1253 rfl ml_L_154 mv_X5_load rv5 rfl h6 rfl rfl rfl rfl (Nat.le_of_ble_eq_true rfl) ⟨Nat.le_of_ble_eq_true rfl, Nat.le_of_ble_eq_true rfl⟩ hcs (fun m2 hm2 => ?_)
  exact i_icmp_eq (t := 1369) C.1 dL_law_1256 (by decide) (kk m2 (h7 m2 hm2))
set_option maxRecDepth 20000 in
theorem lc_judge {K : Cx} {b L : Nat} {xs : Nat → Int32} {p : Program} {e : Env} {s : State} {mi : MethodId} {below : List Frame} {meth : Method} {c : Code} {Z : State → Prop} {kc ks i : Nat} {m : TM} (C : LCX K b L xs p s mi meth c) (hi : i + 6 ≤ L) (hcs : kc + 0 ≤ room_1.cells ∧ ks + 0 ≤ room_1.slots) (hR : Rel m) (kk : ∀ m2, Rel m2 → LXI K p e s mi b below meth c Z kc ks 1369 (lvL K b i) [] m2) : LXI K p e s mi b below meth c Z kc ks 1261 (lvL K b i) [] m := by
  obtain ⟨v, Q1, ⟨r, rfl⟩, h4, h5⟩ := op_judge (K := K) hR (xs (i + 1))
  refine i_aload_n (q := 1262) (i := 2) C.1 dL_law_1261 rfl rfl ?_
  refine l_arg (q := 1267) (k := 1) C dL_law_1262 dL_law_1263 dL_law_1264 dL_law_1265 dL_law_1266 rfl (by decide) (by omega) ?_
  refine l_call (q := 1270) (as := [.int (xs (i + 1))]) C dL_law_1267 rfl ml_L_155 mv_X4_judge rv4 rfl h4 rfl rfl rfl rfl (Nat.le_of_ble_eq_true rfl) ⟨Nat.le_of_ble_eq_true rfl, Nat.le_of_ble_eq_true rfl⟩ hcs (fun m1 hm1 => ?_)
  obtain ⟨Q2, h6, h7⟩ := h5 m1 hm1
  refine i_aload_n (q := 1271) (i := 1) C.1 dL_law_1270 rfl rfl ?_
  refine l_arg (q := 1276) (k := 1) C dL_law_1271 dL_law_1272 dL_law_1273 dL_law_1274 dL_law_1275 rfl (by decide) (by omega) ?_
  refine l_call (q := 1279) (as := [.int (xs (i + 1))]) C dL_law_1276 rfl ml_L_158 mv_X5_judge rv5 rfl h6 rfl rfl rfl rfl (Nat.le_of_ble_eq_true rfl) ⟨Nat.le_of_ble_eq_true rfl, Nat.le_of_ble_eq_true rfl⟩ hcs (fun m2 hm2 => ?_)
  exact i_icmp_eq (t := 1369) C.1 dL_law_1279 (by decide) (kk m2 (h7 m2 hm2))
set_option maxRecDepth 20000 in
theorem lc_image {K : Cx} {b L : Nat} {xs : Nat → Int32} {p : Program} {e : Env} {s : State} {mi : MethodId} {below : List Frame} {meth : Method} {c : Code} {Z : State → Prop} {kc ks i : Nat} {m : TM} (C : LCX K b L xs p s mi meth c) (hi : i + 6 ≤ L) (hcs : kc + 0 ≤ room_1.cells ∧ ks + 0 ≤ room_1.slots) (hR : Rel m) (kk : ∀ m2, Rel m2 → LXI K p e s mi b below meth c Z kc ks 1369 (lvL K b i) [] m2) : LXI K p e s mi b below meth c Z kc ks 1284 (lvL K b i) [] m := by
  obtain ⟨v, Q1, ⟨r, rfl⟩, h4, h5⟩ := op_image (K := K) hR
  refine i_aload_n (q := 1285) (i := 2) C.1 dL_law_1284 rfl rfl ?_
  refine l_call (q := 1288) (as := []) C dL_law_1285 rfl ml_L_159 mv_X4_image rv4 rfl h4 rfl rfl rfl rfl (Nat.le_of_ble_eq_true rfl) ⟨Nat.le_of_ble_eq_true rfl, Nat.le_of_ble_eq_true rfl⟩ hcs (fun m1 hm1 => ?_)
  obtain ⟨Q2, h6, h7⟩ := h5 m1 hm1
  refine i_aload_n (q := 1289) (i := 1) C.1 dL_law_1288 rfl rfl ?_
  refine l_call (q := 1292) (as := []) C dL_law_1289 rfl ml_L_162 mv_X5_image rv5 rfl h6 rfl rfl rfl rfl (Nat.le_of_ble_eq_true rfl) ⟨Nat.le_of_ble_eq_true rfl, Nat.le_of_ble_eq_true rfl⟩ hcs (fun m2 hm2 => ?_)
  exact i_icmp_eq (t := 1369) C.1 dL_law_1292 (by decide) (kk m2 (h7 m2 hm2))
set_option maxRecDepth 20000 in
theorem lc_undo {K : Cx} {b L : Nat} {xs : Nat → Int32} {p : Program} {e : Env} {s : State} {mi : MethodId} {below : List Frame} {meth : Method} {c : Code} {Z : State → Prop} {kc ks i : Nat} {m : TM} (C : LCX K b L xs p s mi meth c) (hi : i + 6 ≤ L) (hcs : kc + 0 ≤ room_1.cells ∧ ks + 0 ≤ room_1.slots) (hR : Rel m) (kk : ∀ m2, Rel m2 → LXI K p e s mi b below meth c Z kc ks 1369 (lvL K b i) [] m2) : LXI K p e s mi b below meth c Z kc ks 1297 (lvL K b i) [] m := by
  obtain ⟨v, Q1, ⟨r, rfl⟩, h4, h5⟩ := op_undo (K := K) hR
  refine i_aload_n (q := 1298) (i := 2) C.1 dL_law_1297 rfl rfl ?_
  refine l_call (q := 1301) (as := []) C dL_law_1298 rfl ml_L_163 mv_X4_undo rv4 rfl h4 rfl rfl rfl rfl (Nat.le_of_ble_eq_true rfl) ⟨Nat.le_of_ble_eq_true rfl, Nat.le_of_ble_eq_true rfl⟩ hcs (fun m1 hm1 => ?_)
  obtain ⟨Q2, h6, h7⟩ := h5 m1 hm1
  refine i_aload_n (q := 1302) (i := 1) C.1 dL_law_1301 rfl rfl ?_
  refine l_call (q := 1305) (as := []) C dL_law_1302 rfl ml_L_166 mv_X5_undo rv5 rfl h6 rfl rfl rfl rfl (Nat.le_of_ble_eq_true rfl) ⟨Nat.le_of_ble_eq_true rfl, Nat.le_of_ble_eq_true rfl⟩ hcs (fun m2 hm2 => ?_)
  exact i_icmp_eq (t := 1369) C.1 dL_law_1305 (by decide) (kk m2 (h7 m2 hm2))
set_option maxRecDepth 20000 in
theorem lc_tear {K : Cx} {b L : Nat} {xs : Nat → Int32} {p : Program} {e : Env} {s : State} {mi : MethodId} {below : List Frame} {meth : Method} {c : Code} {Z : State → Prop} {kc ks i : Nat} {m : TM} (C : LCX K b L xs p s mi meth c) (hi : i + 6 ≤ L) (hcs : kc + 0 ≤ room_1.cells ∧ ks + 0 ≤ room_1.slots) (hR : Rel m) (kk : ∀ m2, Rel m2 → LXI K p e s mi b below meth c Z kc ks 1369 (lvL K b i) [] m2) : LXI K p e s mi b below meth c Z kc ks 1310 (lvL K b i) [] m := by
  obtain ⟨v, Q1, ⟨r, rfl⟩, h4, h5⟩ := op_tear (K := K) hR
  refine i_aload_n (q := 1311) (i := 2) C.1 dL_law_1310 rfl rfl ?_
  refine l_call (q := 1314) (as := []) C dL_law_1311 rfl ml_L_167 mv_X4_tear rv4 rfl h4 rfl rfl rfl rfl (Nat.le_of_ble_eq_true rfl) ⟨Nat.le_of_ble_eq_true rfl, Nat.le_of_ble_eq_true rfl⟩ hcs (fun m1 hm1 => ?_)
  obtain ⟨Q2, h6, h7⟩ := h5 m1 hm1
  refine i_aload_n (q := 1315) (i := 1) C.1 dL_law_1314 rfl rfl ?_
  refine l_call (q := 1318) (as := []) C dL_law_1315 rfl ml_L_170 mv_X5_tear rv5 rfl h6 rfl rfl rfl rfl (Nat.le_of_ble_eq_true rfl) ⟨Nat.le_of_ble_eq_true rfl, Nat.le_of_ble_eq_true rfl⟩ hcs (fun m2 hm2 => ?_)
  exact i_icmp_eq (t := 1369) C.1 dL_law_1318 (by decide) (kk m2 (h7 m2 hm2))
set_option maxRecDepth 20000 in
theorem lc_count {K : Cx} {b L : Nat} {xs : Nat → Int32} {p : Program} {e : Env} {s : State} {mi : MethodId} {below : List Frame} {meth : Method} {c : Code} {Z : State → Prop} {kc ks i : Nat} {m : TM} (C : LCX K b L xs p s mi meth c) (hi : i + 6 ≤ L) (hcs : kc + 0 ≤ room_1.cells ∧ ks + 0 ≤ room_1.slots) (hR : Rel m) (kk : ∀ m2, Rel m2 → LXI K p e s mi b below meth c Z kc ks 1369 (lvL K b i) [] m2) : LXI K p e s mi b below meth c Z kc ks 1323 (lvL K b i) [] m := by
  obtain ⟨v, Q1, ⟨r, rfl⟩, h4, h5⟩ := op_count (K := K) hR (xs (i + 1))
  refine i_aload_n (q := 1324) (i := 2) C.1 dL_law_1323 rfl rfl ?_
  refine l_arg (q := 1329) (k := 1) C dL_law_1324 dL_law_1325 dL_law_1326 dL_law_1327 dL_law_1328 rfl (by decide) (by omega) ?_
  refine l_call (q := 1332) (as := [.int (xs (i + 1))]) C dL_law_1329 rfl ml_L_171 mv_X4_count rv4 rfl h4 rfl rfl rfl rfl (Nat.le_of_ble_eq_true rfl) ⟨Nat.le_of_ble_eq_true rfl, Nat.le_of_ble_eq_true rfl⟩ hcs (fun m1 hm1 => ?_)
  obtain ⟨Q2, h6, h7⟩ := h5 m1 hm1
  refine i_aload_n (q := 1333) (i := 1) C.1 dL_law_1332 rfl rfl ?_
  refine l_arg (q := 1338) (k := 1) C dL_law_1333 dL_law_1334 dL_law_1335 dL_law_1336 dL_law_1337 rfl (by decide) (by omega) ?_
  refine l_call (q := 1341) (as := [.int (xs (i + 1))]) C dL_law_1338 rfl ml_L_174 mv_X5_count rv5 rfl h6 rfl rfl rfl rfl (Nat.le_of_ble_eq_true rfl) ⟨Nat.le_of_ble_eq_true rfl, Nat.le_of_ble_eq_true rfl⟩ hcs (fun m2 hm2 => ?_)
  exact i_icmp_eq (t := 1369) C.1 dL_law_1341 (by decide) (kk m2 (h7 m2 hm2))
set_option maxRecDepth 20000 in
theorem lc_status {K : Cx} {b L : Nat} {xs : Nat → Int32} {p : Program} {e : Env} {s : State} {mi : MethodId} {below : List Frame} {meth : Method} {c : Code} {Z : State → Prop} {kc ks i : Nat} {m : TM} (C : LCX K b L xs p s mi meth c) (hi : i + 6 ≤ L) (hcs : kc + 0 ≤ room_1.cells ∧ ks + 0 ≤ room_1.slots) (hR : Rel m) (kk : ∀ m2, Rel m2 → LXI K p e s mi b below meth c Z kc ks 1369 (lvL K b i) [] m2) : LXI K p e s mi b below meth c Z kc ks 1346 (lvL K b i) [] m := by
  obtain ⟨v, Q1, ⟨r, rfl⟩, h4, h5⟩ := op_status (K := K) hR (xs (i + 1))
  refine i_aload_n (q := 1347) (i := 2) C.1 dL_law_1346 rfl rfl ?_
  refine l_arg (q := 1352) (k := 1) C dL_law_1347 dL_law_1348 dL_law_1349 dL_law_1350 dL_law_1351 rfl (by decide) (by omega) ?_
  refine l_call (q := 1355) (as := [.int (xs (i + 1))]) C dL_law_1352 rfl ml_L_175 mv_X4_status rv4 rfl h4 rfl rfl rfl rfl (Nat.le_of_ble_eq_true rfl) ⟨Nat.le_of_ble_eq_true rfl, Nat.le_of_ble_eq_true rfl⟩ hcs (fun m1 hm1 => ?_)
  obtain ⟨Q2, h6, h7⟩ := h5 m1 hm1
  refine i_aload_n (q := 1356) (i := 1) C.1 dL_law_1355 rfl rfl ?_
  refine l_arg (q := 1361) (k := 1) C dL_law_1356 dL_law_1357 dL_law_1358 dL_law_1359 dL_law_1360 rfl (by decide) (by omega) ?_
  refine l_call (q := 1364) (as := [.int (xs (i + 1))]) C dL_law_1361 rfl ml_L_178 mv_X5_status rv5 rfl h6 rfl rfl rfl rfl (Nat.le_of_ble_eq_true rfl) ⟨Nat.le_of_ble_eq_true rfl, Nat.le_of_ble_eq_true rfl⟩ hcs (fun m2 hm2 => ?_)
  exact i_icmp_eq (t := 1369) C.1 dL_law_1364 (by decide) (kk m2 (h7 m2 hm2))
