/-! the cases 0 to 7 of the law -/
section
variable {p : Program} {l : Launch} {e : Env} {s : State} {m : MethodId} {args : Array Value} {below : List Frame} {meth : Method} {c : Code} {H : Heap} {locs : List Loc} {cells slots : Nat} {Q : State → Prop}
variable {ls : Array Slot} {D : va_G} {A0 : Nat → Prop} {cI cL : ClassId} {u a b : Nat → Nat} {o x L : Nat} {xs : Nat → Int32} {S : Nat → Nat → Nat} {th : Int32} {K : Nat → Nat} {S2 : Nat → Nat → Nat} {f : Nat → Int64}
set_option maxRecDepth 100000 in
set_option maxHeartbeats 4000000 in
theorem lc_0 (F : LF p s m c args) (X : LX l s D A0 cI cL x L xs) {i : Nat} (hi : i + 4 ≤ L) (hc : cells + 149 ≤ 601024) (hs : slots + 944 ≤ 7293033) (G : LG s D A0 cI cL u o a b x i S th K S2 f H locs ls) (N : LN p l e s m args below meth c Q D A0 cI cL u o a b x i cells slots) : W p l e room_1 s m args below meth c H locs cells slots Q (F0 m 212 ls []) := by
  obtain ⟨hI, hP, hD, hS, hl⟩ := G
  have hl : lv_has ls 9 [(4, .int (nI i)), (0, .ref x), (1, .ref (a 13)), (2, .ref (u 0)), (3, .ref o)] := hl
  refine lv_aload_n F.1 F.2.1 dL_law_212 rfl (lv_at hl 2 rfl) ?_
  refine w_rd (k := 1) F X (by decide) (by omega) hS 1 0 hl rfl rfl dL_law_213 dL_law_214 dL_law_216 dL_law_217 dL_law_218 ?_
  refine lv_aload_n F.1 F.2.1 dL_law_219 rfl (lv_at hl 4 rfl) ?_
  refine w_help (n := 3) (rest := []) F (c_L_addGate l D cI cL X.2.2.2.2.2.1 a b o f S S2 (xs (i + 1)) hI) gL_law_L_addGate rfl (by decide +kernel) ⟨Nat.le_of_ble_eq_true rfl, Nat.le_of_ble_eq_true rfl⟩ rfl hl.1 rfl (Nat.le_of_ble_eq_true rfl) dL_law_220 ⟨show cells + 2 ≤ 601024 by omega, show slots + 6 * 2 ≤ 7293033 by omega⟩ X.2.1 X.2.2.1 X.2.2.2.1 hP hD hS wOC_ad (fun H locs hP hD hS => ?_)
  refine lv_istore (lv' := [(5, .int (nI ((rAddGate S (xs (i + 1))).1))), (4, .int (nI i)), (0, .ref x), (1, .ref (a 13)), (2, .ref (u 0)), (3, .ref o)]) F.1 F.2.1 dL_law_223 hl (by decide) rfl (fun ls hl => ?_)
  refine lv_aload_n F.1 F.2.1 dL_law_225 rfl (lv_at hl 4 rfl) ?_
  refine w_rd (k := 1) F X (by decide) (by omega) hS 2 1 hl rfl rfl dL_law_226 dL_law_227 dL_law_229 dL_law_230 dL_law_231 ?_
  refine w_headI (n := 1) (rest := []) F (c_X4_addGate l D cI u S th K (xs (i + 1)) hI) gL_law_X4_addGate rfl (by decide +kernel) ⟨Nat.le_of_ble_eq_true rfl, Nat.le_of_ble_eq_true rfl⟩ rfl hl.1 rfl (Nat.le_of_ble_eq_true rfl) dL_law_232 ⟨show cells + 2 ≤ 601024 by omega, show slots + 6 * 2 ≤ 7293033 by omega⟩ X.1 hP hD hS wMo_ln wMo_ad (q0 := 0) (ci := 4) rfl rfl (fun H locs hP hD hS => ?_)
  refine lv_istore (lv' := [(6, .int ((rAddGate S (xs (i + 1))).2.1)), (5, .int (nI ((rAddGate S (xs (i + 1))).1))), (4, .int (nI i)), (0, .ref x), (1, .ref (a 13)), (2, .ref (u 0)), (3, .ref o)]) F.1 F.2.1 dL_law_235 hl (by decide) rfl (fun ls hl => ?_)
  exact w_tail F X (k := (rAddGate S (xs (i + 1))).1) (v := ((rAddGate S (xs (i + 1))).2.1)) (inv_addGate hI _) hP hD hS hl (Nat.le_trans (rAddGate_le _ _) (by decide)) (show cells + 2 ≤ cells + 149 by omega) (show slots + 6 * 2 ≤ slots + 944 by omega) hc hs N dL_law_237 dL_law_238 dL_law_241 dL_law_243 dL_law_248 dL_law_250 dL_law_253 dL_law_254 dL_law_255 dL_law_256 dL_law_258 dL_law_259 dL_law_260 dL_law_265 (by decide)
set_option maxRecDepth 100000 in
set_option maxHeartbeats 4000000 in
theorem lc_1 (F : LF p s m c args) (X : LX l s D A0 cI cL x L xs) {i : Nat} (hi : i + 4 ≤ L) (hc : cells + 149 ≤ 601024) (hs : slots + 944 ≤ 7293033) (G : LG s D A0 cI cL u o a b x i S th K S2 f H locs ls) (N : LN p l e s m args below meth c Q D A0 cI cL u o a b x i cells slots) : W p l e room_1 s m args below meth c H locs cells slots Q (F0 m 268 ls []) := by
  obtain ⟨hI, hP, hD, hS, hl⟩ := G
  have hl : lv_has ls 9 [(4, .int (nI i)), (0, .ref x), (1, .ref (a 13)), (2, .ref (u 0)), (3, .ref o)] := hl
  refine lv_aload_n F.1 F.2.1 dL_law_268 rfl (lv_at hl 2 rfl) ?_
  refine w_rd (k := 1) F X (by decide) (by omega) hS 1 0 hl rfl rfl dL_law_269 dL_law_270 dL_law_272 dL_law_273 dL_law_274 ?_
  refine w_rd (k := 2) F X (by decide) (by omega) hS 1 0 hl rfl rfl dL_law_275 dL_law_276 dL_law_278 dL_law_279 dL_law_280 ?_
  refine lv_aload_n F.1 F.2.1 dL_law_281 rfl (lv_at hl 4 rfl) ?_
  refine w_help (n := 4) (rest := []) F (c_L_addGoose l D cI cL X.2.2.2.2.2.1 a b o f S S2 (xs (i + 1)) (xs (i + 2)) hI) gL_law_L_addGoose rfl (by decide +kernel) ⟨Nat.le_of_ble_eq_true rfl, Nat.le_of_ble_eq_true rfl⟩ rfl hl.1 rfl (Nat.le_of_ble_eq_true rfl) dL_law_282 ⟨show cells + 3 ≤ 601024 by omega, show slots + 6 * 3 ≤ 7293033 by omega⟩ X.2.1 X.2.2.1 X.2.2.2.1 hP hD hS wOC_ad (fun H locs hP hD hS => ?_)
  refine lv_istore (lv' := [(5, .int (nI ((rAddGoose S (xs (i + 1)) (xs (i + 2))).1))), (4, .int (nI i)), (0, .ref x), (1, .ref (a 13)), (2, .ref (u 0)), (3, .ref o)]) F.1 F.2.1 dL_law_285 hl (by decide) rfl (fun ls hl => ?_)
  refine lv_aload_n F.1 F.2.1 dL_law_287 rfl (lv_at hl 4 rfl) ?_
  refine w_rd (k := 1) F X (by decide) (by omega) hS 2 1 hl rfl rfl dL_law_288 dL_law_289 dL_law_291 dL_law_292 dL_law_293 ?_
  refine w_rd (k := 2) F X (by decide) (by omega) hS 2 1 hl rfl rfl dL_law_294 dL_law_295 dL_law_297 dL_law_298 dL_law_299 ?_
  refine w_headI (n := 2) (rest := []) F (c_X4_addGoose l D cI u S th K (xs (i + 1)) (xs (i + 2)) hI) gL_law_X4_addGoose rfl (by decide +kernel) ⟨Nat.le_of_ble_eq_true rfl, Nat.le_of_ble_eq_true rfl⟩ rfl hl.1 rfl (Nat.le_of_ble_eq_true rfl) dL_law_300 ⟨show cells + 3 ≤ 601024 by omega, show slots + 6 * 3 ≤ 7293033 by omega⟩ X.1 hP hD hS wMo_ln wMo_ad (q0 := 0) (ci := 4) rfl rfl (fun H locs hP hD hS => ?_)
  refine lv_istore (lv' := [(6, .int ((rAddGoose S (xs (i + 1)) (xs (i + 2))).2.1)), (5, .int (nI ((rAddGoose S (xs (i + 1)) (xs (i + 2))).1))), (4, .int (nI i)), (0, .ref x), (1, .ref (a 13)), (2, .ref (u 0)), (3, .ref o)]) F.1 F.2.1 dL_law_303 hl (by decide) rfl (fun ls hl => ?_)
  exact w_tail F X (k := (rAddGoose S (xs (i + 1)) (xs (i + 2))).1) (v := ((rAddGoose S (xs (i + 1)) (xs (i + 2))).2.1)) (inv_addGoose hI _ _) hP hD hS hl (Nat.le_trans (rAddGoose_le _ _ _) (by decide)) (show cells + 3 ≤ cells + 149 by omega) (show slots + 6 * 3 ≤ slots + 944 by omega) hc hs N dL_law_305 dL_law_306 dL_law_309 dL_law_311 dL_law_316 dL_law_318 dL_law_321 dL_law_322 dL_law_323 dL_law_324 dL_law_326 dL_law_327 dL_law_328 dL_law_333 (by decide)
set_option maxRecDepth 100000 in
set_option maxHeartbeats 4000000 in
theorem lc_2 (F : LF p s m c args) (X : LX l s D A0 cI cL x L xs) {i : Nat} (hi : i + 4 ≤ L) (hc : cells + 149 ≤ 601024) (hs : slots + 944 ≤ 7293033) (G : LG s D A0 cI cL u o a b x i S th K S2 f H locs ls) (N : LN p l e s m args below meth c Q D A0 cI cL u o a b x i cells slots) : W p l e room_1 s m args below meth c H locs cells slots Q (F0 m 336 ls []) := by
  obtain ⟨hI, hP, hD, hS, hl⟩ := G
  have hl : lv_has ls 9 [(4, .int (nI i)), (0, .ref x), (1, .ref (a 13)), (2, .ref (u 0)), (3, .ref o)] := hl
  refine lv_aload_n F.1 F.2.1 dL_law_336 rfl (lv_at hl 2 rfl) ?_
  refine w_rd (k := 1) F X (by decide) (by omega) hS 1 0 hl rfl rfl dL_law_337 dL_law_338 dL_law_340 dL_law_341 dL_law_342 ?_
  refine w_rd (k := 2) F X (by decide) (by omega) hS 1 0 hl rfl rfl dL_law_343 dL_law_344 dL_law_346 dL_law_347 dL_law_348 ?_
  refine w_rd (k := 3) F X (by decide) (by omega) hS 1 0 hl rfl rfl dL_law_349 dL_law_350 dL_law_352 dL_law_353 dL_law_354 ?_
  refine lv_aload_n F.1 F.2.1 dL_law_355 rfl (lv_at hl 4 rfl) ?_
  refine w_help (n := 5) (rest := []) F (c_L_arrive l D cI cL X.2.2.2.2.2.1 a b o f S S2 (xs (i + 1)) (xs (i + 2)) (xs (i + 3)) hI) gL_law_L_arrive rfl (by decide +kernel) ⟨Nat.le_of_ble_eq_true rfl, Nat.le_of_ble_eq_true rfl⟩ rfl hl.1 rfl (Nat.le_of_ble_eq_true rfl) dL_law_356 ⟨show cells + 2 ≤ 601024 by omega, show slots + 6 * 2 ≤ 7293033 by omega⟩ X.2.1 X.2.2.1 X.2.2.2.1 hP hD hS wOC_ad (fun H locs hP hD hS => ?_)
  refine lv_istore (lv' := [(5, .int (nI ((rArrive S (xs (i + 1)) (xs (i + 2)) (xs (i + 3))).1))), (4, .int (nI i)), (0, .ref x), (1, .ref (a 13)), (2, .ref (u 0)), (3, .ref o)]) F.1 F.2.1 dL_law_359 hl (by decide) rfl (fun ls hl => ?_)
  refine lv_aload_n F.1 F.2.1 dL_law_361 rfl (lv_at hl 4 rfl) ?_
  refine w_rd (k := 1) F X (by decide) (by omega) hS 2 1 hl rfl rfl dL_law_362 dL_law_363 dL_law_365 dL_law_366 dL_law_367 ?_
  refine w_rd (k := 2) F X (by decide) (by omega) hS 2 1 hl rfl rfl dL_law_368 dL_law_369 dL_law_371 dL_law_372 dL_law_373 ?_
  refine w_rd (k := 3) F X (by decide) (by omega) hS 2 1 hl rfl rfl dL_law_374 dL_law_375 dL_law_377 dL_law_378 dL_law_379 ?_
  refine w_headI (n := 3) (rest := []) F (c_X4_arrive l D cI u S th K (xs (i + 1)) (xs (i + 2)) (xs (i + 3)) hI) gL_law_X4_arrive rfl (by decide +kernel) ⟨Nat.le_of_ble_eq_true rfl, Nat.le_of_ble_eq_true rfl⟩ rfl hl.1 rfl (Nat.le_of_ble_eq_true rfl) dL_law_380 ⟨show cells + 2 ≤ 601024 by omega, show slots + 6 * 2 ≤ 7293033 by omega⟩ X.1 hP hD hS wMo_ln wMo_ad (q0 := 0) (ci := 4) rfl rfl (fun H locs hP hD hS => ?_)
  refine lv_istore (lv' := [(6, .int ((rArrive S (xs (i + 1)) (xs (i + 2)) (xs (i + 3))).2.1)), (5, .int (nI ((rArrive S (xs (i + 1)) (xs (i + 2)) (xs (i + 3))).1))), (4, .int (nI i)), (0, .ref x), (1, .ref (a 13)), (2, .ref (u 0)), (3, .ref o)]) F.1 F.2.1 dL_law_383 hl (by decide) rfl (fun ls hl => ?_)
  exact w_tail F X (k := (rArrive S (xs (i + 1)) (xs (i + 2)) (xs (i + 3))).1) (v := ((rArrive S (xs (i + 1)) (xs (i + 2)) (xs (i + 3))).2.1)) (inv_arrive hI _ _ _) hP hD hS hl (Nat.le_trans (rArrive_le _ _ _ _) (by decide)) (show cells + 2 ≤ cells + 149 by omega) (show slots + 6 * 2 ≤ slots + 944 by omega) hc hs N dL_law_385 dL_law_386 dL_law_389 dL_law_391 dL_law_396 dL_law_398 dL_law_401 dL_law_402 dL_law_403 dL_law_404 dL_law_406 dL_law_407 dL_law_408 dL_law_413 (by decide)
set_option maxRecDepth 100000 in
set_option maxHeartbeats 4000000 in
theorem lc_3 (F : LF p s m c args) (X : LX l s D A0 cI cL x L xs) {i : Nat} (hi : i + 4 ≤ L) (hc : cells + 149 ≤ 601024) (hs : slots + 944 ≤ 7293033) (G : LG s D A0 cI cL u o a b x i S th K S2 f H locs ls) (N : LN p l e s m args below meth c Q D A0 cI cL u o a b x i cells slots) : W p l e room_1 s m args below meth c H locs cells slots Q (F0 m 416 ls []) := by
  obtain ⟨hI, hP, hD, hS, hl⟩ := G
  have hl : lv_has ls 9 [(4, .int (nI i)), (0, .ref x), (1, .ref (a 13)), (2, .ref (u 0)), (3, .ref o)] := hl
  refine lv_aload_n F.1 F.2.1 dL_law_416 rfl (lv_at hl 2 rfl) ?_
  refine w_rd (k := 1) F X (by decide) (by omega) hS 1 0 hl rfl rfl dL_law_417 dL_law_418 dL_law_420 dL_law_421 dL_law_422 ?_
  refine w_rd (k := 2) F X (by decide) (by omega) hS 1 0 hl rfl rfl dL_law_423 dL_law_424 dL_law_426 dL_law_427 dL_law_428 ?_
  refine lv_aload_n F.1 F.2.1 dL_law_429 rfl (lv_at hl 4 rfl) ?_
  refine w_help (n := 4) (rest := []) F (c_L_setRank l D cI cL X.2.2.2.2.2.1 a b o f S S2 (xs (i + 1)) (xs (i + 2)) hI) gL_law_L_setRank rfl (by decide +kernel) ⟨Nat.le_of_ble_eq_true rfl, Nat.le_of_ble_eq_true rfl⟩ rfl hl.1 rfl (Nat.le_of_ble_eq_true rfl) dL_law_430 ⟨show cells + 2 ≤ 601024 by omega, show slots + 6 * 2 ≤ 7293033 by omega⟩ X.2.1 X.2.2.1 X.2.2.2.1 hP hD hS wOC_ad (fun H locs hP hD hS => ?_)
  refine lv_istore (lv' := [(5, .int (nI ((rSetRank S (xs (i + 1)) (xs (i + 2))).1))), (4, .int (nI i)), (0, .ref x), (1, .ref (a 13)), (2, .ref (u 0)), (3, .ref o)]) F.1 F.2.1 dL_law_433 hl (by decide) rfl (fun ls hl => ?_)
  refine lv_aload_n F.1 F.2.1 dL_law_435 rfl (lv_at hl 4 rfl) ?_
  refine w_rd (k := 1) F X (by decide) (by omega) hS 2 1 hl rfl rfl dL_law_436 dL_law_437 dL_law_439 dL_law_440 dL_law_441 ?_
  refine w_rd (k := 2) F X (by decide) (by omega) hS 2 1 hl rfl rfl dL_law_442 dL_law_443 dL_law_445 dL_law_446 dL_law_447 ?_
  refine w_headI (n := 2) (rest := []) F (c_X4_setRank l D cI u S th K (xs (i + 1)) (xs (i + 2)) hI) gL_law_X4_setRank rfl (by decide +kernel) ⟨Nat.le_of_ble_eq_true rfl, Nat.le_of_ble_eq_true rfl⟩ rfl hl.1 rfl (Nat.le_of_ble_eq_true rfl) dL_law_448 ⟨show cells + 2 ≤ 601024 by omega, show slots + 6 * 2 ≤ 7293033 by omega⟩ X.1 hP hD hS wMo_ln wMo_ad (q0 := 0) (ci := 4) rfl rfl (fun H locs hP hD hS => ?_)
  refine lv_istore (lv' := [(6, .int ((rSetRank S (xs (i + 1)) (xs (i + 2))).2.1)), (5, .int (nI ((rSetRank S (xs (i + 1)) (xs (i + 2))).1))), (4, .int (nI i)), (0, .ref x), (1, .ref (a 13)), (2, .ref (u 0)), (3, .ref o)]) F.1 F.2.1 dL_law_451 hl (by decide) rfl (fun ls hl => ?_)
  exact w_tail F X (k := (rSetRank S (xs (i + 1)) (xs (i + 2))).1) (v := ((rSetRank S (xs (i + 1)) (xs (i + 2))).2.1)) (inv_setRank hI _ _) hP hD hS hl (Nat.le_trans (rSetRank_le _ _ _) (by decide)) (show cells + 2 ≤ cells + 149 by omega) (show slots + 6 * 2 ≤ slots + 944 by omega) hc hs N dL_law_453 dL_law_454 dL_law_457 dL_law_459 dL_law_464 dL_law_466 dL_law_469 dL_law_470 dL_law_471 dL_law_472 dL_law_474 dL_law_475 dL_law_476 dL_law_481 (by decide)
set_option maxRecDepth 100000 in
set_option maxHeartbeats 4000000 in
theorem lc_4 (F : LF p s m c args) (X : LX l s D A0 cI cL x L xs) {i : Nat} (hi : i + 4 ≤ L) (hc : cells + 149 ≤ 601024) (hs : slots + 944 ≤ 7293033) (G : LG s D A0 cI cL u o a b x i S th K S2 f H locs ls) (N : LN p l e s m args below meth c Q D A0 cI cL u o a b x i cells slots) : W p l e room_1 s m args below meth c H locs cells slots Q (F0 m 484 ls []) := by
  obtain ⟨hI, hP, hD, hS, hl⟩ := G
  have hl : lv_has ls 9 [(4, .int (nI i)), (0, .ref x), (1, .ref (a 13)), (2, .ref (u 0)), (3, .ref o)] := hl
  refine lv_aload_n F.1 F.2.1 dL_law_484 rfl (lv_at hl 2 rfl) ?_
  refine w_rd (k := 1) F X (by decide) (by omega) hS 1 0 hl rfl rfl dL_law_485 dL_law_486 dL_law_488 dL_law_489 dL_law_490 ?_
  refine w_rd (k := 2) F X (by decide) (by omega) hS 1 0 hl rfl rfl dL_law_491 dL_law_492 dL_law_494 dL_law_495 dL_law_496 ?_
  refine lv_aload_n F.1 F.2.1 dL_law_497 rfl (lv_at hl 4 rfl) ?_
  refine w_help (n := 4) (rest := []) F (c_L_lead l D cI cL X.2.2.2.2.2.1 a b o f S S2 (xs (i + 1)) (xs (i + 2)) hI) gL_law_L_lead rfl (by decide +kernel) ⟨Nat.le_of_ble_eq_true rfl, Nat.le_of_ble_eq_true rfl⟩ rfl hl.1 rfl (Nat.le_of_ble_eq_true rfl) dL_law_498 ⟨show cells + 1 ≤ 601024 by omega, show slots + 6 * 1 ≤ 7293033 by omega⟩ X.2.1 X.2.2.1 X.2.2.2.1 hP hD hS wOC_ad (fun H locs hP hD hS => ?_)
  refine lv_istore (lv' := [(5, .int (nI ((rLead S (xs (i + 1)) (xs (i + 2))).1))), (4, .int (nI i)), (0, .ref x), (1, .ref (a 13)), (2, .ref (u 0)), (3, .ref o)]) F.1 F.2.1 dL_law_501 hl (by decide) rfl (fun ls hl => ?_)
  refine lv_aload_n F.1 F.2.1 dL_law_503 rfl (lv_at hl 4 rfl) ?_
  refine w_rd (k := 1) F X (by decide) (by omega) hS 2 1 hl rfl rfl dL_law_504 dL_law_505 dL_law_507 dL_law_508 dL_law_509 ?_
  refine w_rd (k := 2) F X (by decide) (by omega) hS 2 1 hl rfl rfl dL_law_510 dL_law_511 dL_law_513 dL_law_514 dL_law_515 ?_
  refine w_headI (n := 2) (rest := []) F (c_X4_lead l D cI u S th K (xs (i + 1)) (xs (i + 2)) hI) gL_law_X4_lead rfl (by decide +kernel) ⟨Nat.le_of_ble_eq_true rfl, Nat.le_of_ble_eq_true rfl⟩ rfl hl.1 rfl (Nat.le_of_ble_eq_true rfl) dL_law_516 ⟨show cells + 1 ≤ 601024 by omega, show slots + 6 * 1 ≤ 7293033 by omega⟩ X.1 hP hD hS wMo_ln wMo_ad (q0 := 0) (ci := 4) rfl rfl (fun H locs hP hD hS => ?_)
  refine lv_istore (lv' := [(6, .int ((rLead S (xs (i + 1)) (xs (i + 2))).2.1)), (5, .int (nI ((rLead S (xs (i + 1)) (xs (i + 2))).1))), (4, .int (nI i)), (0, .ref x), (1, .ref (a 13)), (2, .ref (u 0)), (3, .ref o)]) F.1 F.2.1 dL_law_519 hl (by decide) rfl (fun ls hl => ?_)
  exact w_tail F X (k := (rLead S (xs (i + 1)) (xs (i + 2))).1) (v := ((rLead S (xs (i + 1)) (xs (i + 2))).2.1)) (inv_lead hI _ _) hP hD hS hl (Nat.le_trans (rLead_le _ _ _) (by decide)) (show cells + 1 ≤ cells + 149 by omega) (show slots + 6 * 1 ≤ slots + 944 by omega) hc hs N dL_law_521 dL_law_522 dL_law_525 dL_law_527 dL_law_532 dL_law_534 dL_law_537 dL_law_538 dL_law_539 dL_law_540 dL_law_542 dL_law_543 dL_law_544 dL_law_549 (by decide)
set_option maxRecDepth 100000 in
set_option maxHeartbeats 4000000 in
theorem lc_5 (F : LF p s m c args) (X : LX l s D A0 cI cL x L xs) {i : Nat} (hi : i + 4 ≤ L) (hc : cells + 149 ≤ 601024) (hs : slots + 944 ≤ 7293033) (G : LG s D A0 cI cL u o a b x i S th K S2 f H locs ls) (N : LN p l e s m args below meth c Q D A0 cI cL u o a b x i cells slots) : W p l e room_1 s m args below meth c H locs cells slots Q (F0 m 552 ls []) := by
  obtain ⟨hI, hP, hD, hS, hl⟩ := G
  have hl : lv_has ls 9 [(4, .int (nI i)), (0, .ref x), (1, .ref (a 13)), (2, .ref (u 0)), (3, .ref o)] := hl
  refine lv_aload_n F.1 F.2.1 dL_law_552 rfl (lv_at hl 2 rfl) ?_
  refine w_rd (k := 1) F X (by decide) (by omega) hS 1 0 hl rfl rfl dL_law_553 dL_law_554 dL_law_556 dL_law_557 dL_law_558 ?_
  refine w_rd (k := 2) F X (by decide) (by omega) hS 1 0 hl rfl rfl dL_law_559 dL_law_560 dL_law_562 dL_law_563 dL_law_564 ?_
  refine lv_aload_n F.1 F.2.1 dL_law_565 rfl (lv_at hl 4 rfl) ?_
  refine w_help (n := 4) (rest := []) F (c_L_giveCorns l D cI cL X.2.2.2.2.2.1 a b o f S S2 (xs (i + 1)) (xs (i + 2)) hI) gL_law_L_giveCorns rfl (by decide +kernel) ⟨Nat.le_of_ble_eq_true rfl, Nat.le_of_ble_eq_true rfl⟩ rfl hl.1 rfl (Nat.le_of_ble_eq_true rfl) dL_law_566 ⟨show cells + 2 ≤ 601024 by omega, show slots + 6 * 2 ≤ 7293033 by omega⟩ X.2.1 X.2.2.1 X.2.2.2.1 hP hD hS wOC_ad (fun H locs hP hD hS => ?_)
  refine lv_istore (lv' := [(5, .int (nI ((rGive S (xs (i + 1)) (xs (i + 2))).1))), (4, .int (nI i)), (0, .ref x), (1, .ref (a 13)), (2, .ref (u 0)), (3, .ref o)]) F.1 F.2.1 dL_law_569 hl (by decide) rfl (fun ls hl => ?_)
  refine lv_aload_n F.1 F.2.1 dL_law_571 rfl (lv_at hl 4 rfl) ?_
  refine w_rd (k := 1) F X (by decide) (by omega) hS 2 1 hl rfl rfl dL_law_572 dL_law_573 dL_law_575 dL_law_576 dL_law_577 ?_
  refine w_rd (k := 2) F X (by decide) (by omega) hS 2 1 hl rfl rfl dL_law_578 dL_law_579 dL_law_581 dL_law_582 dL_law_583 ?_
  refine w_headI (n := 2) (rest := []) F (c_X4_giveCorns l D cI u S th K (xs (i + 1)) (xs (i + 2)) hI) gL_law_X4_giveCorns rfl (by decide +kernel) ⟨Nat.le_of_ble_eq_true rfl, Nat.le_of_ble_eq_true rfl⟩ rfl hl.1 rfl (Nat.le_of_ble_eq_true rfl) dL_law_584 ⟨show cells + 2 ≤ 601024 by omega, show slots + 6 * 2 ≤ 7293033 by omega⟩ X.1 hP hD hS wMo_ln wMo_ad (q0 := 0) (ci := 4) rfl rfl (fun H locs hP hD hS => ?_)
  refine lv_istore (lv' := [(6, .int ((rGive S (xs (i + 1)) (xs (i + 2))).2.1)), (5, .int (nI ((rGive S (xs (i + 1)) (xs (i + 2))).1))), (4, .int (nI i)), (0, .ref x), (1, .ref (a 13)), (2, .ref (u 0)), (3, .ref o)]) F.1 F.2.1 dL_law_587 hl (by decide) rfl (fun ls hl => ?_)
  exact w_tail F X (k := (rGive S (xs (i + 1)) (xs (i + 2))).1) (v := ((rGive S (xs (i + 1)) (xs (i + 2))).2.1)) (inv_give hI _ _) hP hD hS hl (Nat.le_trans (rGive_le _ _ _) (by decide)) (show cells + 2 ≤ cells + 149 by omega) (show slots + 6 * 2 ≤ slots + 944 by omega) hc hs N dL_law_589 dL_law_590 dL_law_593 dL_law_595 dL_law_600 dL_law_602 dL_law_605 dL_law_606 dL_law_607 dL_law_608 dL_law_610 dL_law_611 dL_law_612 dL_law_617 (by decide)
set_option maxRecDepth 100000 in
set_option maxHeartbeats 4000000 in
theorem lc_6 (F : LF p s m c args) (X : LX l s D A0 cI cL x L xs) {i : Nat} (hi : i + 4 ≤ L) (hc : cells + 149 ≤ 601024) (hs : slots + 944 ≤ 7293033) (G : LG s D A0 cI cL u o a b x i S th K S2 f H locs ls) (N : LN p l e s m args below meth c Q D A0 cI cL u o a b x i cells slots) : W p l e room_1 s m args below meth c H locs cells slots Q (F0 m 620 ls []) := by
  obtain ⟨hI, hP, hD, hS, hl⟩ := G
  have hl : lv_has ls 9 [(4, .int (nI i)), (0, .ref x), (1, .ref (a 13)), (2, .ref (u 0)), (3, .ref o)] := hl
  refine lv_aload_n F.1 F.2.1 dL_law_620 rfl (lv_at hl 2 rfl) ?_
  refine w_rd (k := 1) F X (by decide) (by omega) hS 1 0 hl rfl rfl dL_law_621 dL_law_622 dL_law_624 dL_law_625 dL_law_626 ?_
  refine w_rd (k := 2) F X (by decide) (by omega) hS 1 0 hl rfl rfl dL_law_627 dL_law_628 dL_law_630 dL_law_631 dL_law_632 ?_
  refine lv_aload_n F.1 F.2.1 dL_law_633 rfl (lv_at hl 4 rfl) ?_
  refine w_help (n := 4) (rest := []) F (c_L_bribe l D cI cL X.2.2.2.2.2.1 a b o f S S2 (xs (i + 1)) (xs (i + 2)) hI) gL_law_L_bribe rfl (by decide +kernel) ⟨Nat.le_of_ble_eq_true rfl, Nat.le_of_ble_eq_true rfl⟩ rfl hl.1 rfl (Nat.le_of_ble_eq_true rfl) dL_law_634 ⟨show cells + 3 ≤ 601024 by omega, show slots + 6 * 3 ≤ 7293033 by omega⟩ X.2.1 X.2.2.1 X.2.2.2.1 hP hD hS wOC_ad (fun H locs hP hD hS => ?_)
  refine lv_istore (lv' := [(5, .int (nI ((rBribe S (xs (i + 1)) (xs (i + 2))).1))), (4, .int (nI i)), (0, .ref x), (1, .ref (a 13)), (2, .ref (u 0)), (3, .ref o)]) F.1 F.2.1 dL_law_637 hl (by decide) rfl (fun ls hl => ?_)
  refine lv_aload_n F.1 F.2.1 dL_law_639 rfl (lv_at hl 4 rfl) ?_
  refine w_rd (k := 1) F X (by decide) (by omega) hS 2 1 hl rfl rfl dL_law_640 dL_law_641 dL_law_643 dL_law_644 dL_law_645 ?_
  refine w_rd (k := 2) F X (by decide) (by omega) hS 2 1 hl rfl rfl dL_law_646 dL_law_647 dL_law_649 dL_law_650 dL_law_651 ?_
  refine w_headI (n := 2) (rest := []) F (c_X4_bribe l D cI u S th K (xs (i + 1)) (xs (i + 2)) hI) gL_law_X4_bribe rfl (by decide +kernel) ⟨Nat.le_of_ble_eq_true rfl, Nat.le_of_ble_eq_true rfl⟩ rfl hl.1 rfl (Nat.le_of_ble_eq_true rfl) dL_law_652 ⟨show cells + 3 ≤ 601024 by omega, show slots + 6 * 3 ≤ 7293033 by omega⟩ X.1 hP hD hS wMo_ln wMo_ad (q0 := 0) (ci := 4) rfl rfl (fun H locs hP hD hS => ?_)
  refine lv_istore (lv' := [(6, .int ((rBribe S (xs (i + 1)) (xs (i + 2))).2.1)), (5, .int (nI ((rBribe S (xs (i + 1)) (xs (i + 2))).1))), (4, .int (nI i)), (0, .ref x), (1, .ref (a 13)), (2, .ref (u 0)), (3, .ref o)]) F.1 F.2.1 dL_law_655 hl (by decide) rfl (fun ls hl => ?_)
  exact w_tail F X (k := (rBribe S (xs (i + 1)) (xs (i + 2))).1) (v := ((rBribe S (xs (i + 1)) (xs (i + 2))).2.1)) (inv_bribe hI _ _) hP hD hS hl (Nat.le_trans (rBribe_le _ _ _) (by decide)) (show cells + 3 ≤ cells + 149 by omega) (show slots + 6 * 3 ≤ slots + 944 by omega) hc hs N dL_law_657 dL_law_658 dL_law_661 dL_law_663 dL_law_668 dL_law_670 dL_law_673 dL_law_674 dL_law_675 dL_law_676 dL_law_678 dL_law_679 dL_law_680 dL_law_685 (by decide)
set_option maxRecDepth 100000 in
set_option maxHeartbeats 4000000 in
theorem lc_7 (F : LF p s m c args) (X : LX l s D A0 cI cL x L xs) {i : Nat} (hi : i + 4 ≤ L) (hc : cells + 149 ≤ 601024) (hs : slots + 944 ≤ 7293033) (G : LG s D A0 cI cL u o a b x i S th K S2 f H locs ls) (N : LN p l e s m args below meth c Q D A0 cI cL u o a b x i cells slots) : W p l e room_1 s m args below meth c H locs cells slots Q (F0 m 688 ls []) := by
  obtain ⟨hI, hP, hD, hS, hl⟩ := G
  have hl : lv_has ls 9 [(4, .int (nI i)), (0, .ref x), (1, .ref (a 13)), (2, .ref (u 0)), (3, .ref o)] := hl
  refine lv_aload_n F.1 F.2.1 dL_law_688 rfl (lv_at hl 2 rfl) ?_
  refine w_rd (k := 1) F X (by decide) (by omega) hS 1 0 hl rfl rfl dL_law_689 dL_law_690 dL_law_692 dL_law_693 dL_law_694 ?_
  refine lv_aload_n F.1 F.2.1 dL_law_695 rfl (lv_at hl 4 rfl) ?_
  refine w_help (n := 3) (rest := []) F (c_L_passBeats l D cI cL X.2.2.2.2.2.1 a b o f S S2 (xs (i + 1)) hI) gL_law_L_passBeats rfl (by decide +kernel) ⟨Nat.le_of_ble_eq_true rfl, Nat.le_of_ble_eq_true rfl⟩ rfl hl.1 rfl (Nat.le_of_ble_eq_true rfl) dL_law_696 ⟨show cells + 1 ≤ 601024 by omega, show slots + 6 * 1 ≤ 7293033 by omega⟩ X.2.1 X.2.2.1 X.2.2.2.1 hP hD hS wOC_ad (fun H locs hP hD hS => ?_)
  refine lv_istore (lv' := [(5, .int (nI ((rPass S (xs (i + 1))).1))), (4, .int (nI i)), (0, .ref x), (1, .ref (a 13)), (2, .ref (u 0)), (3, .ref o)]) F.1 F.2.1 dL_law_699 hl (by decide) rfl (fun ls hl => ?_)
  refine lv_aload_n F.1 F.2.1 dL_law_701 rfl (lv_at hl 4 rfl) ?_
  refine w_rd (k := 1) F X (by decide) (by omega) hS 2 1 hl rfl rfl dL_law_702 dL_law_703 dL_law_705 dL_law_706 dL_law_707 ?_
  refine w_headI (n := 1) (rest := []) F (c_X4_passBeats l D cI u S th K (xs (i + 1)) hI) gL_law_X4_passBeats rfl (by decide +kernel) ⟨Nat.le_of_ble_eq_true rfl, Nat.le_of_ble_eq_true rfl⟩ rfl hl.1 rfl (Nat.le_of_ble_eq_true rfl) dL_law_708 ⟨show cells + 1 ≤ 601024 by omega, show slots + 6 * 1 ≤ 7293033 by omega⟩ X.1 hP hD hS wMo_ln wMo_ad (q0 := 0) (ci := 4) rfl rfl (fun H locs hP hD hS => ?_)
  refine lv_istore (lv' := [(6, .int ((rPass S (xs (i + 1))).2.1)), (5, .int (nI ((rPass S (xs (i + 1))).1))), (4, .int (nI i)), (0, .ref x), (1, .ref (a 13)), (2, .ref (u 0)), (3, .ref o)]) F.1 F.2.1 dL_law_711 hl (by decide) rfl (fun ls hl => ?_)
  exact w_tail F X (k := (rPass S (xs (i + 1))).1) (v := ((rPass S (xs (i + 1))).2.1)) (inv_pass hI _) hP hD hS hl (Nat.le_trans (rPass_le _ _) (by decide)) (show cells + 1 ≤ cells + 149 by omega) (show slots + 6 * 1 ≤ slots + 944 by omega) hc hs N dL_law_713 dL_law_714 dL_law_717 dL_law_719 dL_law_724 dL_law_726 dL_law_729 dL_law_730 dL_law_731 dL_law_732 dL_law_734 dL_law_735 dL_law_736 dL_law_741 (by decide)
end
