/-! the cases 24 to 31 of the law -/
section
variable {p : Program} {l : Launch} {e : Env} {s : State} {m : MethodId} {args : Array Value} {below : List Frame} {meth : Method} {c : Code} {H : Heap} {locs : List Loc} {cells slots : Nat} {Q : State → Prop}
variable {ls : Array Slot} {D : va_G} {A0 : Nat → Prop} {cI cL : ClassId} {u a b : Nat → Nat} {o x L : Nat} {xs : Nat → Int32} {S : Nat → Nat → Nat} {th : Int32} {K : Nat → Nat} {S2 : Nat → Nat → Nat} {f : Nat → Int64}
set_option maxRecDepth 100000 in
set_option maxHeartbeats 4000000 in
theorem lc_24 (F : LF p s m c args) (X : LX l s D A0 cI cL x L xs) {i : Nat} (hi : i + 4 ≤ L) (hc : cells + 149 ≤ 601024) (hs : slots + 944 ≤ 7293033) (G : LG s D A0 cI cL u o a b x i S th K S2 f H locs ls) (N : LN p l e s m args below meth c Q D A0 cI cL u o a b x i cells slots) : W p l e room_1 s m args below meth c H locs cells slots Q (F0 m 1308 ls []) := by
  obtain ⟨hI, hP, hD, hS, hl⟩ := G
  have hl : lv_has ls 9 [(4, .int (nI i)), (0, .ref x), (1, .ref (a 13)), (2, .ref (u 0)), (3, .ref o)] := hl
  refine lv_aload_n F.1 F.2.1 dL_law_1308 rfl (lv_at hl 2 rfl) ?_
  refine w_rd (k := 1) F X (by decide) (by omega) hS 1 0 hl rfl rfl dL_law_1309 dL_law_1310 dL_law_1312 dL_law_1313 dL_law_1314 ?_
  refine lv_aload_n F.1 F.2.1 dL_law_1315 rfl (lv_at hl 4 rfl) ?_
  refine w_help (n := 3) (rest := []) F (c_L_isInFarm l D cI cL X.2.2.2.2.2.1 a b o f S S2 (xs (i + 1)) hI) gL_law_L_isInFarm rfl (by decide +kernel) ⟨Nat.le_of_ble_eq_true rfl, Nat.le_of_ble_eq_true rfl⟩ rfl hl.1 rfl (Nat.le_of_ble_eq_true rfl) dL_law_1316 ⟨show cells + 1 ≤ 601024 by omega, show slots + 6 * 1 ≤ 7293033 by omega⟩ X.2.1 X.2.2.1 X.2.2.2.1 hP hD hS wOC_ad (fun H locs hP hD hS => ?_)
  refine lv_istore (lv' := [(5, .int (nI ((r1 (S 0 2) (xs (i + 1)) (bI (S 0 0 ≤ S 7 (cl (xs (i + 1)))))).1))), (4, .int (nI i)), (0, .ref x), (1, .ref (a 13)), (2, .ref (u 0)), (3, .ref o)]) F.1 F.2.1 dL_law_1319 hl (by decide) rfl (fun ls hl => ?_)
  refine lv_aload_n F.1 F.2.1 dL_law_1321 rfl (lv_at hl 4 rfl) ?_
  refine w_rd (k := 1) F X (by decide) (by omega) hS 2 1 hl rfl rfl dL_law_1322 dL_law_1323 dL_law_1325 dL_law_1326 dL_law_1327 ?_
  refine w_headI (n := 1) (rest := []) F (c_X4_isInFarm l D cI u S th K (xs (i + 1)) hI) gL_law_X4_isInFarm rfl (by decide +kernel) ⟨Nat.le_of_ble_eq_true rfl, Nat.le_of_ble_eq_true rfl⟩ rfl hl.1 rfl (Nat.le_of_ble_eq_true rfl) dL_law_1328 ⟨show cells + 1 ≤ 601024 by omega, show slots + 6 * 1 ≤ 7293033 by omega⟩ X.1 hP hD hS wMo_ln wMo_ad (q0 := 0) (ci := 4) rfl rfl (fun H locs hP hD hS => ?_)
  refine lv_istore (lv' := [(6, .int ((r1 (S 0 2) (xs (i + 1)) (bI (S 0 0 ≤ S 7 (cl (xs (i + 1)))))).2)), (5, .int (nI ((r1 (S 0 2) (xs (i + 1)) (bI (S 0 0 ≤ S 7 (cl (xs (i + 1)))))).1))), (4, .int (nI i)), (0, .ref x), (1, .ref (a 13)), (2, .ref (u 0)), (3, .ref o)]) F.1 F.2.1 dL_law_1331 hl (by decide) rfl (fun ls hl => ?_)
  exact w_tailB F X (k := (r1 (S 0 2) (xs (i + 1)) (bI (S 0 0 ≤ S 7 (cl (xs (i + 1)))))).1) (v := ((r1 (S 0 2) (xs (i + 1)) (bI (S 0 0 ≤ S 7 (cl (xs (i + 1)))))).2)) hI hP hD hS hl (Nat.le_trans (r1_le _ _ _) (by decide)) (fun h7 => bl1 h7) (show cells + 1 ≤ cells + 149 by omega) (show slots + 6 * 1 ≤ slots + 944 by omega) hc hs N dL_law_1333 dL_law_1334 dL_law_1337 dL_law_1339 dL_law_1344 dL_law_1346 dL_law_1349 dL_law_1350 dL_law_1351 dL_law_1352 dL_law_1354 dL_law_1357 dL_law_1358 dL_law_1361 dL_law_1362 dL_law_1363 dL_law_1368 (by decide)
set_option maxRecDepth 100000 in
set_option maxHeartbeats 4000000 in
theorem lc_25 (F : LF p s m c args) (X : LX l s D A0 cI cL x L xs) {i : Nat} (hi : i + 4 ≤ L) (hc : cells + 149 ≤ 601024) (hs : slots + 944 ≤ 7293033) (G : LG s D A0 cI cL u o a b x i S th K S2 f H locs ls) (N : LN p l e s m args below meth c Q D A0 cI cL u o a b x i cells slots) : W p l e room_1 s m args below meth c H locs cells slots Q (F0 m 1371 ls []) := by
  obtain ⟨hI, hP, hD, hS, hl⟩ := G
  have hl : lv_has ls 9 [(4, .int (nI i)), (0, .ref x), (1, .ref (a 13)), (2, .ref (u 0)), (3, .ref o)] := hl
  refine lv_aload_n F.1 F.2.1 dL_law_1371 rfl (lv_at hl 2 rfl) ?_
  refine w_rd (k := 1) F X (by decide) (by omega) hS 1 0 hl rfl rfl dL_law_1372 dL_law_1373 dL_law_1375 dL_law_1376 dL_law_1377 ?_
  refine lv_aload_n F.1 F.2.1 dL_law_1378 rfl (lv_at hl 4 rfl) ?_
  refine w_help (n := 3) (rest := []) F (c_L_cornsOf l D cI cL X.2.2.2.2.2.1 a b o f S S2 (xs (i + 1)) hI) gL_law_L_cornsOf rfl (by decide +kernel) ⟨Nat.le_of_ble_eq_true rfl, Nat.le_of_ble_eq_true rfl⟩ rfl hl.1 rfl (Nat.le_of_ble_eq_true rfl) dL_law_1379 ⟨show cells + 1 ≤ 601024 by omega, show slots + 6 * 1 ≤ 7293033 by omega⟩ X.2.1 X.2.2.1 X.2.2.2.1 hP hD hS wOC_ad (fun H locs hP hD hS => ?_)
  refine lv_istore (lv' := [(5, .int (nI ((r1 (S 0 2) (xs (i + 1)) (nI (S 8 (cl (xs (i + 1)))))).1))), (4, .int (nI i)), (0, .ref x), (1, .ref (a 13)), (2, .ref (u 0)), (3, .ref o)]) F.1 F.2.1 dL_law_1382 hl (by decide) rfl (fun ls hl => ?_)
  refine lv_aload_n F.1 F.2.1 dL_law_1384 rfl (lv_at hl 4 rfl) ?_
  refine w_rd (k := 1) F X (by decide) (by omega) hS 2 1 hl rfl rfl dL_law_1385 dL_law_1386 dL_law_1388 dL_law_1389 dL_law_1390 ?_
  refine w_headI (n := 1) (rest := []) F (c_X4_cornsOf l D cI u S th K (xs (i + 1)) hI) gL_law_X4_cornsOf rfl (by decide +kernel) ⟨Nat.le_of_ble_eq_true rfl, Nat.le_of_ble_eq_true rfl⟩ rfl hl.1 rfl (Nat.le_of_ble_eq_true rfl) dL_law_1391 ⟨show cells + 1 ≤ 601024 by omega, show slots + 6 * 1 ≤ 7293033 by omega⟩ X.1 hP hD hS wMo_ln wMo_ad (q0 := 0) (ci := 4) rfl rfl (fun H locs hP hD hS => ?_)
  refine lv_istore (lv' := [(6, .int ((r1 (S 0 2) (xs (i + 1)) (nI (S 8 (cl (xs (i + 1)))))).2)), (5, .int (nI ((r1 (S 0 2) (xs (i + 1)) (nI (S 8 (cl (xs (i + 1)))))).1))), (4, .int (nI i)), (0, .ref x), (1, .ref (a 13)), (2, .ref (u 0)), (3, .ref o)]) F.1 F.2.1 dL_law_1394 hl (by decide) rfl (fun ls hl => ?_)
  exact w_tail F X (k := (r1 (S 0 2) (xs (i + 1)) (nI (S 8 (cl (xs (i + 1)))))).1) (v := ((r1 (S 0 2) (xs (i + 1)) (nI (S 8 (cl (xs (i + 1)))))).2)) hI hP hD hS hl (Nat.le_trans (r1_le _ _ _) (by decide)) (show cells + 1 ≤ cells + 149 by omega) (show slots + 6 * 1 ≤ slots + 944 by omega) hc hs N dL_law_1396 dL_law_1397 dL_law_1400 dL_law_1402 dL_law_1407 dL_law_1409 dL_law_1412 dL_law_1413 dL_law_1414 dL_law_1415 dL_law_1417 dL_law_1418 dL_law_1419 dL_law_1424 (by decide)
set_option maxRecDepth 100000 in
set_option maxHeartbeats 4000000 in
theorem lc_26 (F : LF p s m c args) (X : LX l s D A0 cI cL x L xs) {i : Nat} (hi : i + 4 ≤ L) (hc : cells + 149 ≤ 601024) (hs : slots + 944 ≤ 7293033) (G : LG s D A0 cI cL u o a b x i S th K S2 f H locs ls) (N : LN p l e s m args below meth c Q D A0 cI cL u o a b x i cells slots) : W p l e room_1 s m args below meth c H locs cells slots Q (F0 m 1427 ls []) := by
  obtain ⟨hI, hP, hD, hS, hl⟩ := G
  have hl : lv_has ls 9 [(4, .int (nI i)), (0, .ref x), (1, .ref (a 13)), (2, .ref (u 0)), (3, .ref o)] := hl
  refine lv_aload_n F.1 F.2.1 dL_law_1427 rfl (lv_at hl 2 rfl) ?_
  refine w_rd (k := 1) F X (by decide) (by omega) hS 1 0 hl rfl rfl dL_law_1428 dL_law_1429 dL_law_1431 dL_law_1432 dL_law_1433 ?_
  refine lv_aload_n F.1 F.2.1 dL_law_1434 rfl (lv_at hl 4 rfl) ?_
  refine w_help (n := 3) (rest := []) F (c_L_nerveOf l D cI cL X.2.2.2.2.2.1 a b o f S S2 (xs (i + 1)) hI) gL_law_L_nerveOf rfl (by decide +kernel) ⟨Nat.le_of_ble_eq_true rfl, Nat.le_of_ble_eq_true rfl⟩ rfl hl.1 rfl (Nat.le_of_ble_eq_true rfl) dL_law_1435 ⟨show cells + 1 ≤ 601024 by omega, show slots + 6 * 1 ≤ 7293033 by omega⟩ X.2.1 X.2.2.1 X.2.2.2.1 hP hD hS wOC_ad (fun H locs hP hD hS => ?_)
  refine lv_istore (lv' := [(5, .int (nI ((r1 (S 0 2) (xs (i + 1)) (nI (S 9 (cl (xs (i + 1)))))).1))), (4, .int (nI i)), (0, .ref x), (1, .ref (a 13)), (2, .ref (u 0)), (3, .ref o)]) F.1 F.2.1 dL_law_1438 hl (by decide) rfl (fun ls hl => ?_)
  refine lv_aload_n F.1 F.2.1 dL_law_1440 rfl (lv_at hl 4 rfl) ?_
  refine w_rd (k := 1) F X (by decide) (by omega) hS 2 1 hl rfl rfl dL_law_1441 dL_law_1442 dL_law_1444 dL_law_1445 dL_law_1446 ?_
  refine w_headI (n := 1) (rest := []) F (c_X4_nerveOf l D cI u S th K (xs (i + 1)) hI) gL_law_X4_nerveOf rfl (by decide +kernel) ⟨Nat.le_of_ble_eq_true rfl, Nat.le_of_ble_eq_true rfl⟩ rfl hl.1 rfl (Nat.le_of_ble_eq_true rfl) dL_law_1447 ⟨show cells + 1 ≤ 601024 by omega, show slots + 6 * 1 ≤ 7293033 by omega⟩ X.1 hP hD hS wMo_ln wMo_ad (q0 := 0) (ci := 4) rfl rfl (fun H locs hP hD hS => ?_)
  refine lv_istore (lv' := [(6, .int ((r1 (S 0 2) (xs (i + 1)) (nI (S 9 (cl (xs (i + 1)))))).2)), (5, .int (nI ((r1 (S 0 2) (xs (i + 1)) (nI (S 9 (cl (xs (i + 1)))))).1))), (4, .int (nI i)), (0, .ref x), (1, .ref (a 13)), (2, .ref (u 0)), (3, .ref o)]) F.1 F.2.1 dL_law_1450 hl (by decide) rfl (fun ls hl => ?_)
  exact w_tail F X (k := (r1 (S 0 2) (xs (i + 1)) (nI (S 9 (cl (xs (i + 1)))))).1) (v := ((r1 (S 0 2) (xs (i + 1)) (nI (S 9 (cl (xs (i + 1)))))).2)) hI hP hD hS hl (Nat.le_trans (r1_le _ _ _) (by decide)) (show cells + 1 ≤ cells + 149 by omega) (show slots + 6 * 1 ≤ slots + 944 by omega) hc hs N dL_law_1452 dL_law_1453 dL_law_1456 dL_law_1458 dL_law_1463 dL_law_1465 dL_law_1468 dL_law_1469 dL_law_1470 dL_law_1471 dL_law_1473 dL_law_1474 dL_law_1475 dL_law_1480 (by decide)
set_option maxRecDepth 100000 in
set_option maxHeartbeats 4000000 in
theorem lc_27 (F : LF p s m c args) (X : LX l s D A0 cI cL x L xs) {i : Nat} (hi : i + 4 ≤ L) (hc : cells + 149 ≤ 601024) (hs : slots + 944 ≤ 7293033) (G : LG s D A0 cI cL u o a b x i S th K S2 f H locs ls) (N : LN p l e s m args below meth c Q D A0 cI cL u o a b x i cells slots) : W p l e room_1 s m args below meth c H locs cells slots Q (F0 m 1483 ls []) := by
  obtain ⟨hI, hP, hD, hS, hl⟩ := G
  have hl : lv_has ls 9 [(4, .int (nI i)), (0, .ref x), (1, .ref (a 13)), (2, .ref (u 0)), (3, .ref o)] := hl
  refine lv_aload_n F.1 F.2.1 dL_law_1483 rfl (lv_at hl 2 rfl) ?_
  refine w_rd (k := 1) F X (by decide) (by omega) hS 1 0 hl rfl rfl dL_law_1484 dL_law_1485 dL_law_1487 dL_law_1488 dL_law_1489 ?_
  refine lv_aload_n F.1 F.2.1 dL_law_1490 rfl (lv_at hl 4 rfl) ?_
  refine w_help (n := 3) (rest := []) F (c_L_retreatOf l D cI cL X.2.2.2.2.2.1 a b o f S S2 (xs (i + 1)) hI) gL_law_L_retreatOf rfl (by decide +kernel) ⟨Nat.le_of_ble_eq_true rfl, Nat.le_of_ble_eq_true rfl⟩ rfl hl.1 rfl (Nat.le_of_ble_eq_true rfl) dL_law_1491 ⟨show cells + 1 ≤ 601024 by omega, show slots + 6 * 1 ≤ 7293033 by omega⟩ X.2.1 X.2.2.1 X.2.2.2.1 hP hD hS wOC_ad (fun H locs hP hD hS => ?_)
  refine lv_istore (lv' := [(5, .int (nI ((r1 (S 0 2) (xs (i + 1)) (nI (S 10 (cl (xs (i + 1)))))).1))), (4, .int (nI i)), (0, .ref x), (1, .ref (a 13)), (2, .ref (u 0)), (3, .ref o)]) F.1 F.2.1 dL_law_1494 hl (by decide) rfl (fun ls hl => ?_)
  refine lv_aload_n F.1 F.2.1 dL_law_1496 rfl (lv_at hl 4 rfl) ?_
  refine w_rd (k := 1) F X (by decide) (by omega) hS 2 1 hl rfl rfl dL_law_1497 dL_law_1498 dL_law_1500 dL_law_1501 dL_law_1502 ?_
  refine w_headI (n := 1) (rest := []) F (c_X4_retreatOf l D cI u S th K (xs (i + 1)) hI) gL_law_X4_retreatOf rfl (by decide +kernel) ⟨Nat.le_of_ble_eq_true rfl, Nat.le_of_ble_eq_true rfl⟩ rfl hl.1 rfl (Nat.le_of_ble_eq_true rfl) dL_law_1503 ⟨show cells + 1 ≤ 601024 by omega, show slots + 6 * 1 ≤ 7293033 by omega⟩ X.1 hP hD hS wMo_ln wMo_ad (q0 := 0) (ci := 4) rfl rfl (fun H locs hP hD hS => ?_)
  refine lv_istore (lv' := [(6, .int ((r1 (S 0 2) (xs (i + 1)) (nI (S 10 (cl (xs (i + 1)))))).2)), (5, .int (nI ((r1 (S 0 2) (xs (i + 1)) (nI (S 10 (cl (xs (i + 1)))))).1))), (4, .int (nI i)), (0, .ref x), (1, .ref (a 13)), (2, .ref (u 0)), (3, .ref o)]) F.1 F.2.1 dL_law_1506 hl (by decide) rfl (fun ls hl => ?_)
  exact w_tail F X (k := (r1 (S 0 2) (xs (i + 1)) (nI (S 10 (cl (xs (i + 1)))))).1) (v := ((r1 (S 0 2) (xs (i + 1)) (nI (S 10 (cl (xs (i + 1)))))).2)) hI hP hD hS hl (Nat.le_trans (r1_le _ _ _) (by decide)) (show cells + 1 ≤ cells + 149 by omega) (show slots + 6 * 1 ≤ slots + 944 by omega) hc hs N dL_law_1508 dL_law_1509 dL_law_1512 dL_law_1514 dL_law_1519 dL_law_1521 dL_law_1524 dL_law_1525 dL_law_1526 dL_law_1527 dL_law_1529 dL_law_1530 dL_law_1531 dL_law_1536 (by decide)
set_option maxRecDepth 100000 in
set_option maxHeartbeats 4000000 in
theorem lc_28 (F : LF p s m c args) (X : LX l s D A0 cI cL x L xs) {i : Nat} (hi : i + 4 ≤ L) (hc : cells + 149 ≤ 601024) (hs : slots + 944 ≤ 7293033) (G : LG s D A0 cI cL u o a b x i S th K S2 f H locs ls) (N : LN p l e s m args below meth c Q D A0 cI cL u o a b x i cells slots) : W p l e room_1 s m args below meth c H locs cells slots Q (F0 m 1539 ls []) := by
  obtain ⟨hI, hP, hD, hS, hl⟩ := G
  have hl : lv_has ls 9 [(4, .int (nI i)), (0, .ref x), (1, .ref (a 13)), (2, .ref (u 0)), (3, .ref o)] := hl
  refine lv_aload_n F.1 F.2.1 dL_law_1539 rfl (lv_at hl 2 rfl) ?_
  refine w_rd (k := 1) F X (by decide) (by omega) hS 1 0 hl rfl rfl dL_law_1540 dL_law_1541 dL_law_1543 dL_law_1544 dL_law_1545 ?_
  refine lv_aload_n F.1 F.2.1 dL_law_1546 rfl (lv_at hl 4 rfl) ?_
  refine w_help (n := 3) (rest := []) F (c_L_hissAt l D cI cL X.2.2.2.2.2.1 a b o f S S2 (xs (i + 1)) hI) gL_law_L_hissAt rfl (by decide +kernel) ⟨Nat.le_of_ble_eq_true rfl, Nat.le_of_ble_eq_true rfl⟩ rfl hl.1 rfl (Nat.le_of_ble_eq_true rfl) dL_law_1547 ⟨show cells + 1 ≤ 601024 by omega, show slots + 6 * 1 ≤ 7293033 by omega⟩ X.2.1 X.2.2.1 X.2.2.2.1 hP hD hS wOC_ad (fun H locs hP hD hS => ?_)
  refine lv_istore (lv' := [(5, .int (nI ((r1 (S 0 2) (xs (i + 1)) (nI (hisG S (S 7 (cl (xs (i + 1)))) (S 6 (cl (xs (i + 1))))))).1))), (4, .int (nI i)), (0, .ref x), (1, .ref (a 13)), (2, .ref (u 0)), (3, .ref o)]) F.1 F.2.1 dL_law_1550 hl (by decide) rfl (fun ls hl => ?_)
  refine lv_aload_n F.1 F.2.1 dL_law_1552 rfl (lv_at hl 4 rfl) ?_
  refine w_rd (k := 1) F X (by decide) (by omega) hS 2 1 hl rfl rfl dL_law_1553 dL_law_1554 dL_law_1556 dL_law_1557 dL_law_1558 ?_
  refine w_headI (n := 1) (rest := []) F (c_X4_hissAt l D cI u S th K (xs (i + 1)) hI) gL_law_X4_hissAt rfl (by decide +kernel) ⟨Nat.le_of_ble_eq_true rfl, Nat.le_of_ble_eq_true rfl⟩ rfl hl.1 rfl (Nat.le_of_ble_eq_true rfl) dL_law_1559 ⟨show cells + 1 ≤ 601024 by omega, show slots + 6 * 1 ≤ 7293033 by omega⟩ X.1 hP hD hS wMo_ln wMo_ad (q0 := 0) (ci := 4) rfl rfl (fun H locs hP hD hS => ?_)
  refine lv_istore (lv' := [(6, .int ((r1 (S 0 2) (xs (i + 1)) (nI (hisG S (S 7 (cl (xs (i + 1)))) (S 6 (cl (xs (i + 1))))))).2)), (5, .int (nI ((r1 (S 0 2) (xs (i + 1)) (nI (hisG S (S 7 (cl (xs (i + 1)))) (S 6 (cl (xs (i + 1))))))).1))), (4, .int (nI i)), (0, .ref x), (1, .ref (a 13)), (2, .ref (u 0)), (3, .ref o)]) F.1 F.2.1 dL_law_1562 hl (by decide) rfl (fun ls hl => ?_)
  exact w_tail F X (k := (r1 (S 0 2) (xs (i + 1)) (nI (hisG S (S 7 (cl (xs (i + 1)))) (S 6 (cl (xs (i + 1))))))).1) (v := ((r1 (S 0 2) (xs (i + 1)) (nI (hisG S (S 7 (cl (xs (i + 1)))) (S 6 (cl (xs (i + 1))))))).2)) hI hP hD hS hl (Nat.le_trans (r1_le _ _ _) (by decide)) (show cells + 1 ≤ cells + 149 by omega) (show slots + 6 * 1 ≤ slots + 944 by omega) hc hs N dL_law_1564 dL_law_1565 dL_law_1568 dL_law_1570 dL_law_1575 dL_law_1577 dL_law_1580 dL_law_1581 dL_law_1582 dL_law_1583 dL_law_1585 dL_law_1586 dL_law_1587 dL_law_1592 (by decide)
set_option maxRecDepth 100000 in
set_option maxHeartbeats 4000000 in
theorem lc_29 (F : LF p s m c args) (X : LX l s D A0 cI cL x L xs) {i : Nat} (hi : i + 4 ≤ L) (hc : cells + 149 ≤ 601024) (hs : slots + 944 ≤ 7293033) (G : LG s D A0 cI cL u o a b x i S th K S2 f H locs ls) (N : LN p l e s m args below meth c Q D A0 cI cL u o a b x i cells slots) : W p l e room_1 s m args below meth c H locs cells slots Q (F0 m 1595 ls []) := by
  obtain ⟨hI, hP, hD, hS, hl⟩ := G
  have hl : lv_has ls 9 [(4, .int (nI i)), (0, .ref x), (1, .ref (a 13)), (2, .ref (u 0)), (3, .ref o)] := hl
  refine lv_aload_n F.1 F.2.1 dL_law_1595 rfl (lv_at hl 2 rfl) ?_
  refine w_rd (k := 1) F X (by decide) (by omega) hS 1 0 hl rfl rfl dL_law_1596 dL_law_1597 dL_law_1599 dL_law_1600 dL_law_1601 ?_
  refine lv_aload_n F.1 F.2.1 dL_law_1602 rfl (lv_at hl 4 rfl) ?_
  refine w_help (n := 3) (rest := []) F (c_L_gradeFor l D cI cL X.2.2.2.2.2.1 a b o f S S2 (xs (i + 1)) hI) gL_law_L_gradeFor rfl (by decide +kernel) ⟨Nat.le_of_ble_eq_true rfl, Nat.le_of_ble_eq_true rfl⟩ rfl hl.1 rfl (Nat.le_of_ble_eq_true rfl) dL_law_1603 ⟨show cells + 1 ≤ 601024 by omega, show slots + 6 * 1 ≤ 7293033 by omega⟩ X.2.1 X.2.2.1 X.2.2.2.1 hP hD hS wOC_ad (fun H locs hP hD hS => ?_)
  refine lv_istore (lv' := [(5, .int (nI ((r1 (S 0 2) (xs (i + 1)) (nI (grdN (hisG S (S 7 (cl (xs (i + 1)))) (S 6 (cl (xs (i + 1)))))))).1))), (4, .int (nI i)), (0, .ref x), (1, .ref (a 13)), (2, .ref (u 0)), (3, .ref o)]) F.1 F.2.1 dL_law_1606 hl (by decide) rfl (fun ls hl => ?_)
  refine lv_aload_n F.1 F.2.1 dL_law_1608 rfl (lv_at hl 4 rfl) ?_
  refine w_rd (k := 1) F X (by decide) (by omega) hS 2 1 hl rfl rfl dL_law_1609 dL_law_1610 dL_law_1612 dL_law_1613 dL_law_1614 ?_
  refine w_headI (n := 1) (rest := []) F (c_X4_gradeFor l D cI u S th K (xs (i + 1)) hI) gL_law_X4_gradeFor rfl (by decide +kernel) ⟨Nat.le_of_ble_eq_true rfl, Nat.le_of_ble_eq_true rfl⟩ rfl hl.1 rfl (Nat.le_of_ble_eq_true rfl) dL_law_1615 ⟨show cells + 1 ≤ 601024 by omega, show slots + 6 * 1 ≤ 7293033 by omega⟩ X.1 hP hD hS wMo_ln wMo_ad (q0 := 0) (ci := 4) rfl rfl (fun H locs hP hD hS => ?_)
  refine lv_istore (lv' := [(6, .int ((r1 (S 0 2) (xs (i + 1)) (nI (grdN (hisG S (S 7 (cl (xs (i + 1)))) (S 6 (cl (xs (i + 1)))))))).2)), (5, .int (nI ((r1 (S 0 2) (xs (i + 1)) (nI (grdN (hisG S (S 7 (cl (xs (i + 1)))) (S 6 (cl (xs (i + 1)))))))).1))), (4, .int (nI i)), (0, .ref x), (1, .ref (a 13)), (2, .ref (u 0)), (3, .ref o)]) F.1 F.2.1 dL_law_1618 hl (by decide) rfl (fun ls hl => ?_)
  exact w_tail F X (k := (r1 (S 0 2) (xs (i + 1)) (nI (grdN (hisG S (S 7 (cl (xs (i + 1)))) (S 6 (cl (xs (i + 1)))))))).1) (v := ((r1 (S 0 2) (xs (i + 1)) (nI (grdN (hisG S (S 7 (cl (xs (i + 1)))) (S 6 (cl (xs (i + 1)))))))).2)) hI hP hD hS hl (Nat.le_trans (r1_le _ _ _) (by decide)) (show cells + 1 ≤ cells + 149 by omega) (show slots + 6 * 1 ≤ slots + 944 by omega) hc hs N dL_law_1620 dL_law_1621 dL_law_1624 dL_law_1626 dL_law_1631 dL_law_1633 dL_law_1636 dL_law_1637 dL_law_1638 dL_law_1639 dL_law_1641 dL_law_1642 dL_law_1643 dL_law_1648 (by decide)
set_option maxRecDepth 100000 in
set_option maxHeartbeats 4000000 in
theorem lc_30 (F : LF p s m c args) (X : LX l s D A0 cI cL x L xs) {i : Nat} (hi : i + 4 ≤ L) (hc : cells + 149 ≤ 601024) (hs : slots + 944 ≤ 7293033) (G : LG s D A0 cI cL u o a b x i S th K S2 f H locs ls) (N : LN p l e s m args below meth c Q D A0 cI cL u o a b x i cells slots) : W p l e room_1 s m args below meth c H locs cells slots Q (F0 m 1651 ls []) := by
  obtain ⟨hI, hP, hD, hS, hl⟩ := G
  have hl : lv_has ls 9 [(4, .int (nI i)), (0, .ref x), (1, .ref (a 13)), (2, .ref (u 0)), (3, .ref o)] := hl
  refine lv_aload_n F.1 F.2.1 dL_law_1651 rfl (lv_at hl 2 rfl) ?_
  refine w_rd (k := 1) F X (by decide) (by omega) hS 1 0 hl rfl rfl dL_law_1652 dL_law_1653 dL_law_1655 dL_law_1656 dL_law_1657 ?_
  refine lv_aload_n F.1 F.2.1 dL_law_1658 rfl (lv_at hl 4 rfl) ?_
  refine w_help (n := 3) (rest := []) F (c_L_dares l D cI cL X.2.2.2.2.2.1 a b o f S S2 (xs (i + 1)) hI) gL_law_L_dares rfl (by decide +kernel) ⟨Nat.le_of_ble_eq_true rfl, Nat.le_of_ble_eq_true rfl⟩ rfl hl.1 rfl (Nat.le_of_ble_eq_true rfl) dL_law_1659 ⟨show cells + 1 ≤ 601024 by omega, show slots + 6 * 1 ≤ 7293033 by omega⟩ X.2.1 X.2.2.1 X.2.2.2.1 hP hD hS wOC_ad (fun H locs hP hD hS => ?_)
  refine lv_istore (lv' := [(5, .int (nI ((r1 (S 0 2) (xs (i + 1)) (bI (dareP S (cl (xs (i + 1)))))).1))), (4, .int (nI i)), (0, .ref x), (1, .ref (a 13)), (2, .ref (u 0)), (3, .ref o)]) F.1 F.2.1 dL_law_1662 hl (by decide) rfl (fun ls hl => ?_)
  refine lv_aload_n F.1 F.2.1 dL_law_1664 rfl (lv_at hl 4 rfl) ?_
  refine w_rd (k := 1) F X (by decide) (by omega) hS 2 1 hl rfl rfl dL_law_1665 dL_law_1666 dL_law_1668 dL_law_1669 dL_law_1670 ?_
  refine w_headI (n := 1) (rest := []) F (c_X4_dares l D cI u S th K (xs (i + 1)) hI) gL_law_X4_dares rfl (by decide +kernel) ⟨Nat.le_of_ble_eq_true rfl, Nat.le_of_ble_eq_true rfl⟩ rfl hl.1 rfl (Nat.le_of_ble_eq_true rfl) dL_law_1671 ⟨show cells + 1 ≤ 601024 by omega, show slots + 6 * 1 ≤ 7293033 by omega⟩ X.1 hP hD hS wMo_ln wMo_ad (q0 := 0) (ci := 4) rfl rfl (fun H locs hP hD hS => ?_)
  refine lv_istore (lv' := [(6, .int ((r1 (S 0 2) (xs (i + 1)) (bI (dareP S (cl (xs (i + 1)))))).2)), (5, .int (nI ((r1 (S 0 2) (xs (i + 1)) (bI (dareP S (cl (xs (i + 1)))))).1))), (4, .int (nI i)), (0, .ref x), (1, .ref (a 13)), (2, .ref (u 0)), (3, .ref o)]) F.1 F.2.1 dL_law_1674 hl (by decide) rfl (fun ls hl => ?_)
  exact w_tailB F X (k := (r1 (S 0 2) (xs (i + 1)) (bI (dareP S (cl (xs (i + 1)))))).1) (v := ((r1 (S 0 2) (xs (i + 1)) (bI (dareP S (cl (xs (i + 1)))))).2)) hI hP hD hS hl (Nat.le_trans (r1_le _ _ _) (by decide)) (fun h7 => bl1 h7) (show cells + 1 ≤ cells + 149 by omega) (show slots + 6 * 1 ≤ slots + 944 by omega) hc hs N dL_law_1676 dL_law_1677 dL_law_1680 dL_law_1682 dL_law_1687 dL_law_1689 dL_law_1692 dL_law_1693 dL_law_1694 dL_law_1695 dL_law_1697 dL_law_1700 dL_law_1701 dL_law_1704 dL_law_1705 dL_law_1706 dL_law_1711 (by decide)
set_option maxRecDepth 100000 in
set_option maxHeartbeats 4000000 in
theorem lc_31 (F : LF p s m c args) (X : LX l s D A0 cI cL x L xs) {i : Nat} (hi : i + 4 ≤ L) (hc : cells + 149 ≤ 601024) (hs : slots + 944 ≤ 7293033) (G : LG s D A0 cI cL u o a b x i S th K S2 f H locs ls) (N : LN p l e s m args below meth c Q D A0 cI cL u o a b x i cells slots) : W p l e room_1 s m args below meth c H locs cells slots Q (F0 m 1714 ls []) := by
  obtain ⟨hI, hP, hD, hS, hl⟩ := G
  have hl : lv_has ls 9 [(4, .int (nI i)), (0, .ref x), (1, .ref (a 13)), (2, .ref (u 0)), (3, .ref o)] := hl
  refine lv_aload_n F.1 F.2.1 dL_law_1714 rfl (lv_at hl 2 rfl) ?_
  refine w_rd (k := 1) F X (by decide) (by omega) hS 1 0 hl rfl rfl dL_law_1715 dL_law_1716 dL_law_1718 dL_law_1719 dL_law_1720 ?_
  refine lv_aload_n F.1 F.2.1 dL_law_1721 rfl (lv_at hl 4 rfl) ?_
  refine w_help (n := 3) (rest := []) F (c_L_beatsUntilIn l D cI cL X.2.2.2.2.2.1 a b o f S S2 (xs (i + 1)) hI) gL_law_L_beatsUntilIn rfl (by decide +kernel) ⟨Nat.le_of_ble_eq_true rfl, Nat.le_of_ble_eq_true rfl⟩ rfl hl.1 rfl (Nat.le_of_ble_eq_true rfl) dL_law_1722 ⟨show cells + 1 ≤ 601024 by omega, show slots + 6 * 1 ≤ 7293033 by omega⟩ X.2.1 X.2.2.1 X.2.2.2.1 hP hD hS wOC_ad (fun H locs hP hD hS => ?_)
  refine lv_istore (lv' := [(5, .int (nI ((r1 (S 0 2) (xs (i + 1)) (arrI S (cl (xs (i + 1))) 60)).1))), (4, .int (nI i)), (0, .ref x), (1, .ref (a 13)), (2, .ref (u 0)), (3, .ref o)]) F.1 F.2.1 dL_law_1725 hl (by decide) rfl (fun ls hl => ?_)
  refine lv_aload_n F.1 F.2.1 dL_law_1727 rfl (lv_at hl 4 rfl) ?_
  refine w_rd (k := 1) F X (by decide) (by omega) hS 2 1 hl rfl rfl dL_law_1728 dL_law_1729 dL_law_1731 dL_law_1732 dL_law_1733 ?_
  refine w_headI (n := 1) (rest := []) F (c_X4_beatsUntilIn l D cI u S th K (xs (i + 1)) hI) gL_law_X4_beatsUntilIn rfl (by decide +kernel) ⟨Nat.le_of_ble_eq_true rfl, Nat.le_of_ble_eq_true rfl⟩ rfl hl.1 rfl (Nat.le_of_ble_eq_true rfl) dL_law_1734 ⟨show cells + 1 ≤ 601024 by omega, show slots + 6 * 1 ≤ 7293033 by omega⟩ X.1 hP hD hS wMo_ln wMo_ad (q0 := 0) (ci := 4) rfl rfl (fun H locs hP hD hS => ?_)
  refine lv_istore (lv' := [(6, .int ((r1 (S 0 2) (xs (i + 1)) (arrI S (cl (xs (i + 1))) 60)).2)), (5, .int (nI ((r1 (S 0 2) (xs (i + 1)) (arrI S (cl (xs (i + 1))) 60)).1))), (4, .int (nI i)), (0, .ref x), (1, .ref (a 13)), (2, .ref (u 0)), (3, .ref o)]) F.1 F.2.1 dL_law_1737 hl (by decide) rfl (fun ls hl => ?_)
  exact w_tail F X (k := (r1 (S 0 2) (xs (i + 1)) (arrI S (cl (xs (i + 1))) 60)).1) (v := ((r1 (S 0 2) (xs (i + 1)) (arrI S (cl (xs (i + 1))) 60)).2)) hI hP hD hS hl (Nat.le_trans (r1_le _ _ _) (by decide)) (show cells + 1 ≤ cells + 149 by omega) (show slots + 6 * 1 ≤ slots + 944 by omega) hc hs N dL_law_1739 dL_law_1740 dL_law_1743 dL_law_1745 dL_law_1750 dL_law_1752 dL_law_1755 dL_law_1756 dL_law_1757 dL_law_1758 dL_law_1760 dL_law_1761 dL_law_1762 dL_law_1767 (by decide)
end
