/-! THE LAW'S CASES -/
set_option maxHeartbeats 4000000 in
set_option maxRecDepth 100000 in
/-- the law: lengthOf -/
theorem kL_lengthOf {p : Program} {e : Env} {s : State} {m : MethodId} {below : List Frame} {meth : Method} {c : Code} {H : Heap} {locs : List Loc} {cells slots : Nat} {Q : State → Prop} {ls : Array Slot} {b L : Nat} {xs : Nat → Int32} {g : GA} {σ : St} {f : Nat → Int64} {th : Int32} {mi ti : Nat → Int32} {i : Nat} (l : Launch) (hfl : l.stackTraces = false) (C0 : LwX p s m meth c b L xs g) (hI : Inv σ) (hi : i + 6 ≤ L) (hc : cells + 110 ≤ 601024) (hs : slots + 600 ≤ 7293034) (hP : va_P (gD g) vwCl (wL g σ f th mi ti) H) (hD : va_D (AL s) (wL g σ f th mi ti)) (hS : va_S (AL s) s.heap H locs) (hl : lv_has ls 9 (vL b g i)) (hgo : LwGo p l e s m below meth c b g i Q 2306 (cells + 110) (slots + 600)) : W p l e room_1 s m #[Value.ref b] below meth c H locs cells slots Q (F0 m 1315 ls []) := by
  obtain ⟨hx, hb, hml, hown, hts, hX0, hbl, hK, hX, hNc, hL⟩ := id C0
  have hA : ∀ q : Nat, s.heap.size ≤ q → AL s q := fun _ h => h
  have hbA : ¬ AL s b := Nat.not_le.mpr hbl
  have hcd : cdS σ (xs (i + 1)) (xs (i + 2)) ≤ 3 := (cdS_le _ _ _)
  refine lv_aload_n (pc := 1315) hx hb dL_law_1315 rfl (lv_at hl 1 rfl) ?_
  refine lw_cell (pc := 1316) hx hb hX0 hbl hbA hS hL hi (lv_at hl 0 rfl) (lv_at hl 4 rfl) 1 (by decide) (by decide) dL_law_1316 dL_law_1317 dL_law_1319 dL_law_1320 dL_law_1321 ?_
  refine lw_cell (pc := 1322) hx hb hX0 hbl hbA hS hL hi (lv_at hl 0 rfl) (lv_at hl 4 rfl) 2 (by decide) (by decide) dL_law_1322 dL_law_1323 dL_law_1325 dL_law_1326 dL_law_1327 ?_
  refine lv_aload_n (pc := 1328) hx hb dL_law_1328 rfl (lv_at hl 3 rfl) ?_
  refine va_calli (pc := 1329) (vx_runSW (As := [.ref (gX g), .int (xs (i + 1)), .int (xs (i + 2)), .ref (gO g)]) (rest := []) ⟨hx, hb, hml, hown, hts⟩ (hL_lengthOf l hfl g (AL s) σ f (mw g σ th mi ti) (xs (i + 1)) (xs (i + 2)) hI) (vx_cwSW 4 hts gL_law_L_lengthOf rfl rfl rfl (by decide +kernel) ⟨Nat.le_of_ble_eq_true rfl, Nat.le_of_ble_eq_true rfl⟩) (cxl_S hNc hP hD hA hK hX hS) rfl rfl hl.1 rfl (lv_room (Nat.le_of_ble_eq_true rfl)) dL_law_1329 ⟨show cells + 2 ≤ 601024 by omega, show slots + 12 ≤ 7293034 by omega⟩) hS (fun _ _ h => h) (fun _ h => h) (fun r1 u1 t1 H1 locs1 ht1 hvm1 hw1 hB1 hz1 hk1 hS => ?_)
  obtain ⟨hP, hD⟩ := hB1
  rw [ht1] at hP
  obtain ⟨rfl, hf1⟩ := hw1
  refine lv_istore (lv' := (5, .int (nI (cdS σ (xs (i + 1)) (xs (i + 2))))) :: vL b g i) hx hb dL_law_1332 hl (by decide) rfl (fun ls hl => ?_)
  refine lv_aload_n (pc := 1334) hx hb dL_law_1334 rfl (lv_at hl 3 rfl) ?_
  refine lw_cell (pc := 1335) hx hb hX0 hbl hbA hS hL hi (lv_at hl 1 rfl) (lv_at hl 5 rfl) 1 (by decide) (by decide) dL_law_1335 dL_law_1336 dL_law_1338 dL_law_1339 dL_law_1340 ?_
  refine lw_cell (pc := 1341) hx hb hX0 hbl hbA hS hL hi (lv_at hl 1 rfl) (lv_at hl 5 rfl) 2 (by decide) (by decide) dL_law_1341 dL_law_1342 dL_law_1344 dL_law_1345 dL_law_1346 ?_
  have hP := kP_perm hP (wm_p g σ σ u1 th mi ti)
  have hD := kD_perm hD (wm_p g σ σ u1 th mi ti)
  refine va_calli (pc := 1347) (va_runV (As := [.int (xs (i + 1)), .int (xs (i + 2))]) (rest := []) ⟨hx, hb, hml, hown, hts⟩ (cX2_lengthOf_m l g (AL s) σ (cw g σ ++ ow g u1) th mi ti (xs (i + 1)) (xs (i + 2)) hI) (cwV 2 hts gL_law_X2_lengthOf rfl rfl rfl (by decide +kernel) ⟨Nat.le_of_ble_eq_true rfl, Nat.le_of_ble_eq_true rfl⟩) (cx_V (q0 := 0) (ci := 2) (r := (RX2, TX2, 11)) rfl (ma0 g σ th mi ti (cw g σ ++ ow g u1)) hP hD hA hK hX hS) rfl rfl hl.1 rfl (lv_room (Nat.le_of_ble_eq_true rfl)) dL_law_1347 ⟨show cells + 2 + 0 ≤ 601024 by omega, show slots + 12 + 0 ≤ 7293034 by omega⟩) hS (fun _ _ h => h) (fun _ h => h) (fun r2 u2 t2 H2 locs2 ht2 hvm2 hw2 hB2 hz2 hk2 hS => ?_)
  obtain ⟨hP, hD⟩ := hB2
  rw [ht2] at hP
  exact lw_tail (q := 1350) C0 ⟨dL_law_1350, dL_law_1352, dL_law_1353, dL_law_1356, dL_law_1358, dL_law_1363⟩ ⟨dL_law_1365, dL_law_1368, dL_law_1369, dL_law_1370, dL_law_1371, dL_law_1373, dL_law_1374, dL_law_1375⟩ dL_law_1380 (by decide) hcd hI hw2 hf1 hgo hc hs (by omega) (by omega) hP hD hS hl
set_option maxHeartbeats 4000000 in
set_option maxRecDepth 100000 in
/-- the law: beginOf -/
theorem kL_beginOf {p : Program} {e : Env} {s : State} {m : MethodId} {below : List Frame} {meth : Method} {c : Code} {H : Heap} {locs : List Loc} {cells slots : Nat} {Q : State → Prop} {ls : Array Slot} {b L : Nat} {xs : Nat → Int32} {g : GA} {σ : St} {f : Nat → Int64} {th : Int32} {mi ti : Nat → Int32} {i : Nat} (l : Launch) (hfl : l.stackTraces = false) (C0 : LwX p s m meth c b L xs g) (hI : Inv σ) (hi : i + 6 ≤ L) (hc : cells + 110 ≤ 601024) (hs : slots + 600 ≤ 7293034) (hP : va_P (gD g) vwCl (wL g σ f th mi ti) H) (hD : va_D (AL s) (wL g σ f th mi ti)) (hS : va_S (AL s) s.heap H locs) (hl : lv_has ls 9 (vL b g i)) (hgo : LwGo p l e s m below meth c b g i Q 2306 (cells + 110) (slots + 600)) : W p l e room_1 s m #[Value.ref b] below meth c H locs cells slots Q (F0 m 1383 ls []) := by
  obtain ⟨hx, hb, hml, hown, hts, hX0, hbl, hK, hX, hNc, hL⟩ := id C0
  have hA : ∀ q : Nat, s.heap.size ≤ q → AL s q := fun _ h => h
  have hbA : ¬ AL s b := Nat.not_le.mpr hbl
  have hcd : cdS σ (xs (i + 1)) (xs (i + 2)) ≤ 3 := (cdS_le _ _ _)
  refine lv_aload_n (pc := 1383) hx hb dL_law_1383 rfl (lv_at hl 1 rfl) ?_
  refine lw_cell (pc := 1384) hx hb hX0 hbl hbA hS hL hi (lv_at hl 0 rfl) (lv_at hl 4 rfl) 1 (by decide) (by decide) dL_law_1384 dL_law_1385 dL_law_1387 dL_law_1388 dL_law_1389 ?_
  refine lw_cell (pc := 1390) hx hb hX0 hbl hbA hS hL hi (lv_at hl 0 rfl) (lv_at hl 4 rfl) 2 (by decide) (by decide) dL_law_1390 dL_law_1391 dL_law_1393 dL_law_1394 dL_law_1395 ?_
  refine lv_aload_n (pc := 1396) hx hb dL_law_1396 rfl (lv_at hl 3 rfl) ?_
  refine va_calli (pc := 1397) (vx_runSW (As := [.ref (gX g), .int (xs (i + 1)), .int (xs (i + 2)), .ref (gO g)]) (rest := []) ⟨hx, hb, hml, hown, hts⟩ (hL_beginOf l hfl g (AL s) σ f (mw g σ th mi ti) (xs (i + 1)) (xs (i + 2)) hI) (vx_cwSW 4 hts gL_law_L_beginOf rfl rfl rfl (by decide +kernel) ⟨Nat.le_of_ble_eq_true rfl, Nat.le_of_ble_eq_true rfl⟩) (cxl_S hNc hP hD hA hK hX hS) rfl rfl hl.1 rfl (lv_room (Nat.le_of_ble_eq_true rfl)) dL_law_1397 ⟨show cells + 2 ≤ 601024 by omega, show slots + 12 ≤ 7293034 by omega⟩) hS (fun _ _ h => h) (fun _ h => h) (fun r1 u1 t1 H1 locs1 ht1 hvm1 hw1 hB1 hz1 hk1 hS => ?_)
  obtain ⟨hP, hD⟩ := hB1
  rw [ht1] at hP
  obtain ⟨rfl, hf1⟩ := hw1
  refine lv_istore (lv' := (5, .int (nI (cdS σ (xs (i + 1)) (xs (i + 2))))) :: vL b g i) hx hb dL_law_1400 hl (by decide) rfl (fun ls hl => ?_)
  refine lv_aload_n (pc := 1402) hx hb dL_law_1402 rfl (lv_at hl 3 rfl) ?_
  refine lw_cell (pc := 1403) hx hb hX0 hbl hbA hS hL hi (lv_at hl 1 rfl) (lv_at hl 5 rfl) 1 (by decide) (by decide) dL_law_1403 dL_law_1404 dL_law_1406 dL_law_1407 dL_law_1408 ?_
  refine lw_cell (pc := 1409) hx hb hX0 hbl hbA hS hL hi (lv_at hl 1 rfl) (lv_at hl 5 rfl) 2 (by decide) (by decide) dL_law_1409 dL_law_1410 dL_law_1412 dL_law_1413 dL_law_1414 ?_
  have hP := kP_perm hP (wm_p g σ σ u1 th mi ti)
  have hD := kD_perm hD (wm_p g σ σ u1 th mi ti)
  refine va_calli (pc := 1415) (va_runV (As := [.int (xs (i + 1)), .int (xs (i + 2))]) (rest := []) ⟨hx, hb, hml, hown, hts⟩ (cX2_beginOf_m l g (AL s) σ (cw g σ ++ ow g u1) th mi ti (xs (i + 1)) (xs (i + 2)) hI) (cwV 2 hts gL_law_X2_beginOf rfl rfl rfl (by decide +kernel) ⟨Nat.le_of_ble_eq_true rfl, Nat.le_of_ble_eq_true rfl⟩) (cx_V (q0 := 0) (ci := 2) (r := (RX2, TX2, 11)) rfl (ma0 g σ th mi ti (cw g σ ++ ow g u1)) hP hD hA hK hX hS) rfl rfl hl.1 rfl (lv_room (Nat.le_of_ble_eq_true rfl)) dL_law_1415 ⟨show cells + 2 + 0 ≤ 601024 by omega, show slots + 12 + 0 ≤ 7293034 by omega⟩) hS (fun _ _ h => h) (fun _ h => h) (fun r2 u2 t2 H2 locs2 ht2 hvm2 hw2 hB2 hz2 hk2 hS => ?_)
  obtain ⟨hP, hD⟩ := hB2
  rw [ht2] at hP
  exact lw_tail (q := 1418) C0 ⟨dL_law_1418, dL_law_1420, dL_law_1421, dL_law_1424, dL_law_1426, dL_law_1431⟩ ⟨dL_law_1433, dL_law_1436, dL_law_1437, dL_law_1438, dL_law_1439, dL_law_1441, dL_law_1442, dL_law_1443⟩ dL_law_1448 (by decide) hcd hI hw2 hf1 hgo hc hs (by omega) (by omega) hP hD hS hl
set_option maxHeartbeats 4000000 in
set_option maxRecDepth 100000 in
/-- the law: length -/
theorem kL_length {p : Program} {e : Env} {s : State} {m : MethodId} {below : List Frame} {meth : Method} {c : Code} {H : Heap} {locs : List Loc} {cells slots : Nat} {Q : State → Prop} {ls : Array Slot} {b L : Nat} {xs : Nat → Int32} {g : GA} {σ : St} {f : Nat → Int64} {th : Int32} {mi ti : Nat → Int32} {i : Nat} (l : Launch) (hfl : l.stackTraces = false) (C0 : LwX p s m meth c b L xs g) (hI : Inv σ) (hi : i + 6 ≤ L) (hc : cells + 110 ≤ 601024) (hs : slots + 600 ≤ 7293034) (hP : va_P (gD g) vwCl (wL g σ f th mi ti) H) (hD : va_D (AL s) (wL g σ f th mi ti)) (hS : va_S (AL s) s.heap H locs) (hl : lv_has ls 9 (vL b g i)) (hgo : LwGo p l e s m below meth c b g i Q 2306 (cells + 110) (slots + 600)) : W p l e room_1 s m #[Value.ref b] below meth c H locs cells slots Q (F0 m 1451 ls []) := by
  obtain ⟨hx, hb, hml, hown, hts, hX0, hbl, hK, hX, hNc, hL⟩ := id C0
  have hA : ∀ q : Nat, s.heap.size ≤ q → AL s q := fun _ h => h
  have hbA : ¬ AL s b := Nat.not_le.mpr hbl
  have hcd : cdV σ (xs (i + 1)) ≤ 3 := (cdV_le _ _)
  refine lv_aload_n (pc := 1451) hx hb dL_law_1451 rfl (lv_at hl 1 rfl) ?_
  refine lw_cell (pc := 1452) hx hb hX0 hbl hbA hS hL hi (lv_at hl 0 rfl) (lv_at hl 4 rfl) 1 (by decide) (by decide) dL_law_1452 dL_law_1453 dL_law_1455 dL_law_1456 dL_law_1457 ?_
  refine lv_aload_n (pc := 1458) hx hb dL_law_1458 rfl (lv_at hl 3 rfl) ?_
  refine va_calli (pc := 1459) (vx_runSW (As := [.ref (gX g), .int (xs (i + 1)), .ref (gO g)]) (rest := []) ⟨hx, hb, hml, hown, hts⟩ (hL_length l hfl g (AL s) σ f (mw g σ th mi ti) (xs (i + 1)) hI) (vx_cwSW 3 hts gL_law_L_length rfl rfl rfl (by decide +kernel) ⟨Nat.le_of_ble_eq_true rfl, Nat.le_of_ble_eq_true rfl⟩) (cxl_S hNc hP hD hA hK hX hS) rfl rfl hl.1 rfl (lv_room (Nat.le_of_ble_eq_true rfl)) dL_law_1459 ⟨show cells + 1 ≤ 601024 by omega, show slots + 6 ≤ 7293034 by omega⟩) hS (fun _ _ h => h) (fun _ h => h) (fun r1 u1 t1 H1 locs1 ht1 hvm1 hw1 hB1 hz1 hk1 hS => ?_)
  obtain ⟨hP, hD⟩ := hB1
  rw [ht1] at hP
  obtain ⟨rfl, hf1⟩ := hw1
  refine lv_istore (lv' := (5, .int (nI (cdV σ (xs (i + 1))))) :: vL b g i) hx hb dL_law_1462 hl (by decide) rfl (fun ls hl => ?_)
  refine lv_aload_n (pc := 1464) hx hb dL_law_1464 rfl (lv_at hl 3 rfl) ?_
  refine lw_cell (pc := 1465) hx hb hX0 hbl hbA hS hL hi (lv_at hl 1 rfl) (lv_at hl 5 rfl) 1 (by decide) (by decide) dL_law_1465 dL_law_1466 dL_law_1468 dL_law_1469 dL_law_1470 ?_
  have hP := kP_perm hP (wm_p g σ σ u1 th mi ti)
  have hD := kD_perm hD (wm_p g σ σ u1 th mi ti)
  refine va_calli (pc := 1471) (va_runV (As := [.int (xs (i + 1))]) (rest := []) ⟨hx, hb, hml, hown, hts⟩ (cX2_length_m l g (AL s) σ (cw g σ ++ ow g u1) th mi ti (xs (i + 1)) hI) (cwV 1 hts gL_law_X2_length rfl rfl rfl (by decide +kernel) ⟨Nat.le_of_ble_eq_true rfl, Nat.le_of_ble_eq_true rfl⟩) (cx_V (q0 := 0) (ci := 2) (r := (RX2, TX2, 11)) rfl (ma0 g σ th mi ti (cw g σ ++ ow g u1)) hP hD hA hK hX hS) rfl rfl hl.1 rfl (lv_room (Nat.le_of_ble_eq_true rfl)) dL_law_1471 ⟨show cells + 1 + 0 ≤ 601024 by omega, show slots + 6 + 0 ≤ 7293034 by omega⟩) hS (fun _ _ h => h) (fun _ h => h) (fun r2 u2 t2 H2 locs2 ht2 hvm2 hw2 hB2 hz2 hk2 hS => ?_)
  obtain ⟨hP, hD⟩ := hB2
  rw [ht2] at hP
  exact lw_tail (q := 1474) C0 ⟨dL_law_1474, dL_law_1476, dL_law_1477, dL_law_1480, dL_law_1482, dL_law_1487⟩ ⟨dL_law_1489, dL_law_1492, dL_law_1493, dL_law_1494, dL_law_1495, dL_law_1497, dL_law_1498, dL_law_1499⟩ dL_law_1504 (by decide) hcd hI hw2 hf1 hgo hc hs (by omega) (by omega) hP hD hS hl
set_option maxHeartbeats 4000000 in
set_option maxRecDepth 100000 in
/-- the law: longest -/
theorem kL_longest {p : Program} {e : Env} {s : State} {m : MethodId} {below : List Frame} {meth : Method} {c : Code} {H : Heap} {locs : List Loc} {cells slots : Nat} {Q : State → Prop} {ls : Array Slot} {b L : Nat} {xs : Nat → Int32} {g : GA} {σ : St} {f : Nat → Int64} {th : Int32} {mi ti : Nat → Int32} {i : Nat} (l : Launch) (hfl : l.stackTraces = false) (C0 : LwX p s m meth c b L xs g) (hI : Inv σ) (hi : i + 6 ≤ L) (hc : cells + 110 ≤ 601024) (hs : slots + 600 ≤ 7293034) (hP : va_P (gD g) vwCl (wL g σ f th mi ti) H) (hD : va_D (AL s) (wL g σ f th mi ti)) (hS : va_S (AL s) s.heap H locs) (hl : lv_has ls 9 (vL b g i)) (hgo : LwGo p l e s m below meth c b g i Q 2306 (cells + 110) (slots + 600)) : W p l e room_1 s m #[Value.ref b] below meth c H locs cells slots Q (F0 m 1507 ls []) := by
  obtain ⟨hx, hb, hml, hown, hts, hX0, hbl, hK, hX, hNc, hL⟩ := id C0
  have hA : ∀ q : Nat, s.heap.size ≤ q → AL s q := fun _ h => h
  have hbA : ¬ AL s b := Nat.not_le.mpr hbl
  refine lv_aload_n (pc := 1507) hx hb dL_law_1507 rfl (lv_at hl 1 rfl) ?_
  refine k_ri (pc := 1508) (va_runV (As := []) (rest := []) ⟨hx, hb, hml, hown, hts⟩ (cX1_longest_m l g (AL s) σ (ow g f ++ mw g σ th mi ti) hI) (cwV 0 hts gL_law_X1_longest rfl rfl rfl (by decide +kernel) ⟨Nat.le_of_ble_eq_true rfl, Nat.le_of_ble_eq_true rfl⟩) (cx_V (q0 := 0) (ci := 1) (r := (RX1, TX1, 2)) rfl (cx0 g σ (ow g f ++ mw g σ th mi ti)) hP hD hA hK hX hS) rfl rfl hl.1 rfl (lv_room (Nat.le_of_ble_eq_true rfl)) dL_law_1508 ⟨show cells + 0 ≤ 601024 by omega, show slots + 0 ≤ 7293034 by omega⟩) (fun r1 hr1 => ?_)
  subst hr1
  refine lv_aload_n (pc := 1511) hx hb dL_law_1511 rfl (lv_at hl 2 rfl) ?_
  have hP := kP_perm hP (wm_p g σ σ f th mi ti)
  have hD := kD_perm hD (wm_p g σ σ f th mi ti)
  refine va_calli (pc := 1512) (va_runV (As := []) (rest := [.int (nI (lngst σ))]) ⟨hx, hb, hml, hown, hts⟩ (cX2_longest_m l g (AL s) σ (cw g σ ++ ow g f) th mi ti hI) (cwV 0 hts gL_law_X2_longest rfl rfl rfl (by decide +kernel) ⟨Nat.le_of_ble_eq_true rfl, Nat.le_of_ble_eq_true rfl⟩) (cx_V (q0 := 0) (ci := 2) (r := (RX2, TX2, 11)) rfl (ma0 g σ th mi ti (cw g σ ++ ow g f)) hP hD hA hK hX hS) rfl rfl hl.1 rfl (lv_room (Nat.le_of_ble_eq_true rfl)) dL_law_1512 ⟨show cells + 0 ≤ 601024 by omega, show slots + 0 ≤ 7293034 by omega⟩) hS (fun _ _ h => h) (fun _ h => h) (fun r2 u2 t2 H2 locs2 ht2 hvm2 hw2 hB2 hz2 hk2 hS => ?_)
  obtain ⟨hP, hD⟩ := hB2
  rw [ht2] at hP
  subst hw2
  have hP := kP_perm hP (wm_p g σ σ f 0 mi ti).symm
  have hD := kD_perm hD (wm_p g σ σ f 0 mi ti).symm
  refine lv_icmp_eq (tgt := 2306) (pc := 1515) hx hb dL_law_1515 (by decide) (fun z => ?_) (fun z => absurd rfl z)
  exact W.widen (by omega) (by omega) (hgo σ f 0 mi ti _ _ ls hI hP hD hS hl)
set_option maxHeartbeats 4000000 in
set_option maxRecDepth 100000 in
/-- the law: signAt -/
theorem kL_signAt {p : Program} {e : Env} {s : State} {m : MethodId} {below : List Frame} {meth : Method} {c : Code} {H : Heap} {locs : List Loc} {cells slots : Nat} {Q : State → Prop} {ls : Array Slot} {b L : Nat} {xs : Nat → Int32} {g : GA} {σ : St} {f : Nat → Int64} {th : Int32} {mi ti : Nat → Int32} {i : Nat} (l : Launch) (hfl : l.stackTraces = false) (C0 : LwX p s m meth c b L xs g) (hI : Inv σ) (hi : i + 6 ≤ L) (hc : cells + 110 ≤ 601024) (hs : slots + 600 ≤ 7293034) (hP : va_P (gD g) vwCl (wL g σ f th mi ti) H) (hD : va_D (AL s) (wL g σ f th mi ti)) (hS : va_S (AL s) s.heap H locs) (hl : lv_has ls 9 (vL b g i)) (hgo : LwGo p l e s m below meth c b g i Q 2306 (cells + 110) (slots + 600)) : W p l e room_1 s m #[Value.ref b] below meth c H locs cells slots Q (F0 m 1520 ls []) := by
  obtain ⟨hx, hb, hml, hown, hts, hX0, hbl, hK, hX, hNc, hL⟩ := id C0
  have hA : ∀ q : Nat, s.heap.size ≤ q → AL s q := fun _ h => h
  have hbA : ¬ AL s b := Nat.not_le.mpr hbl
  have hcd : cdVR σ (xs (i + 1)) (!decide ((xs (i + 2)) < 0)) ≤ 3 := (cdVR_le _ _ _)
  refine lv_aload_n (pc := 1520) hx hb dL_law_1520 rfl (lv_at hl 1 rfl) ?_
  refine lw_cell (pc := 1521) hx hb hX0 hbl hbA hS hL hi (lv_at hl 0 rfl) (lv_at hl 4 rfl) 1 (by decide) (by decide) dL_law_1521 dL_law_1522 dL_law_1524 dL_law_1525 dL_law_1526 ?_
  refine lw_cell (pc := 1527) hx hb hX0 hbl hbA hS hL hi (lv_at hl 0 rfl) (lv_at hl 4 rfl) 2 (by decide) (by decide) dL_law_1527 dL_law_1528 dL_law_1530 dL_law_1531 dL_law_1532 ?_
  refine lv_aload_n (pc := 1533) hx hb dL_law_1533 rfl (lv_at hl 3 rfl) ?_
  refine va_calli (pc := 1534) (vx_runSW (As := [.ref (gX g), .int (xs (i + 1)), .int (xs (i + 2)), .ref (gO g)]) (rest := []) ⟨hx, hb, hml, hown, hts⟩ (hL_signAt l hfl g (AL s) σ f (mw g σ th mi ti) (xs (i + 1)) (xs (i + 2)) hI) (vx_cwSW 4 hts gL_law_L_signAt rfl rfl rfl (by decide +kernel) ⟨Nat.le_of_ble_eq_true rfl, Nat.le_of_ble_eq_true rfl⟩) (cxl_S hNc hP hD hA hK hX hS) rfl rfl hl.1 rfl (lv_room (Nat.le_of_ble_eq_true rfl)) dL_law_1534 ⟨show cells + 2 ≤ 601024 by omega, show slots + 12 ≤ 7293034 by omega⟩) hS (fun _ _ h => h) (fun _ h => h) (fun r1 u1 t1 H1 locs1 ht1 hvm1 hw1 hB1 hz1 hk1 hS => ?_)
  obtain ⟨hP, hD⟩ := hB1
  rw [ht1] at hP
  obtain ⟨rfl, hf1⟩ := hw1
  refine lv_istore (lv' := (5, .int (nI (cdVR σ (xs (i + 1)) (!decide ((xs (i + 2)) < 0))))) :: vL b g i) hx hb dL_law_1537 hl (by decide) rfl (fun ls hl => ?_)
  refine lv_aload_n (pc := 1539) hx hb dL_law_1539 rfl (lv_at hl 3 rfl) ?_
  refine lw_cell (pc := 1540) hx hb hX0 hbl hbA hS hL hi (lv_at hl 1 rfl) (lv_at hl 5 rfl) 1 (by decide) (by decide) dL_law_1540 dL_law_1541 dL_law_1543 dL_law_1544 dL_law_1545 ?_
  refine lw_cell (pc := 1546) hx hb hX0 hbl hbA hS hL hi (lv_at hl 1 rfl) (lv_at hl 5 rfl) 2 (by decide) (by decide) dL_law_1546 dL_law_1547 dL_law_1549 dL_law_1550 dL_law_1551 ?_
  have hP := kP_perm hP (wm_p g σ σ u1 th mi ti)
  have hD := kD_perm hD (wm_p g σ σ u1 th mi ti)
  refine va_calli (pc := 1552) (va_runV (As := [.int (xs (i + 1)), .int (xs (i + 2))]) (rest := []) ⟨hx, hb, hml, hown, hts⟩ (cX2_signAt_m l g (AL s) σ (cw g σ ++ ow g u1) th mi ti (xs (i + 1)) (xs (i + 2)) hI) (cwV 2 hts gL_law_X2_signAt rfl rfl rfl (by decide +kernel) ⟨Nat.le_of_ble_eq_true rfl, Nat.le_of_ble_eq_true rfl⟩) (cx_V (q0 := 0) (ci := 2) (r := (RX2, TX2, 11)) rfl (ma0 g σ th mi ti (cw g σ ++ ow g u1)) hP hD hA hK hX hS) rfl rfl hl.1 rfl (lv_room (Nat.le_of_ble_eq_true rfl)) dL_law_1552 ⟨show cells + 2 + 0 ≤ 601024 by omega, show slots + 12 + 0 ≤ 7293034 by omega⟩) hS (fun _ _ h => h) (fun _ h => h) (fun r2 u2 t2 H2 locs2 ht2 hvm2 hw2 hB2 hz2 hk2 hS => ?_)
  obtain ⟨hP, hD⟩ := hB2
  rw [ht2] at hP
  exact lw_tail (q := 1555) C0 ⟨dL_law_1555, dL_law_1557, dL_law_1558, dL_law_1561, dL_law_1563, dL_law_1568⟩ ⟨dL_law_1570, dL_law_1573, dL_law_1574, dL_law_1575, dL_law_1576, dL_law_1578, dL_law_1579, dL_law_1580⟩ dL_law_1585 (by decide) hcd hI hw2 hf1 hgo hc hs (by omega) (by omega) hP hD hS hl
set_option maxHeartbeats 4000000 in
set_option maxRecDepth 100000 in
/-- the law: clefOf -/
theorem kL_clefOf {p : Program} {e : Env} {s : State} {m : MethodId} {below : List Frame} {meth : Method} {c : Code} {H : Heap} {locs : List Loc} {cells slots : Nat} {Q : State → Prop} {ls : Array Slot} {b L : Nat} {xs : Nat → Int32} {g : GA} {σ : St} {f : Nat → Int64} {th : Int32} {mi ti : Nat → Int32} {i : Nat} (l : Launch) (hfl : l.stackTraces = false) (C0 : LwX p s m meth c b L xs g) (hI : Inv σ) (hi : i + 6 ≤ L) (hc : cells + 110 ≤ 601024) (hs : slots + 600 ≤ 7293034) (hP : va_P (gD g) vwCl (wL g σ f th mi ti) H) (hD : va_D (AL s) (wL g σ f th mi ti)) (hS : va_S (AL s) s.heap H locs) (hl : lv_has ls 9 (vL b g i)) (hgo : LwGo p l e s m below meth c b g i Q 2306 (cells + 110) (slots + 600)) : W p l e room_1 s m #[Value.ref b] below meth c H locs cells slots Q (F0 m 1588 ls []) := by
  obtain ⟨hx, hb, hml, hown, hts, hX0, hbl, hK, hX, hNc, hL⟩ := id C0
  have hA : ∀ q : Nat, s.heap.size ≤ q → AL s q := fun _ h => h
  have hbA : ¬ AL s b := Nat.not_le.mpr hbl
  have hcd : cdV σ (xs (i + 1)) ≤ 3 := (cdV_le _ _)
  refine lv_aload_n (pc := 1588) hx hb dL_law_1588 rfl (lv_at hl 1 rfl) ?_
  refine lw_cell (pc := 1589) hx hb hX0 hbl hbA hS hL hi (lv_at hl 0 rfl) (lv_at hl 4 rfl) 1 (by decide) (by decide) dL_law_1589 dL_law_1590 dL_law_1592 dL_law_1593 dL_law_1594 ?_
  refine lv_aload_n (pc := 1595) hx hb dL_law_1595 rfl (lv_at hl 3 rfl) ?_
  refine va_calli (pc := 1596) (vx_runSW (As := [.ref (gX g), .int (xs (i + 1)), .ref (gO g)]) (rest := []) ⟨hx, hb, hml, hown, hts⟩ (hL_clefOf l hfl g (AL s) σ f (mw g σ th mi ti) (xs (i + 1)) hI) (vx_cwSW 3 hts gL_law_L_clefOf rfl rfl rfl (by decide +kernel) ⟨Nat.le_of_ble_eq_true rfl, Nat.le_of_ble_eq_true rfl⟩) (cxl_S hNc hP hD hA hK hX hS) rfl rfl hl.1 rfl (lv_room (Nat.le_of_ble_eq_true rfl)) dL_law_1596 ⟨show cells + 1 ≤ 601024 by omega, show slots + 6 ≤ 7293034 by omega⟩) hS (fun _ _ h => h) (fun _ h => h) (fun r1 u1 t1 H1 locs1 ht1 hvm1 hw1 hB1 hz1 hk1 hS => ?_)
  obtain ⟨hP, hD⟩ := hB1
  rw [ht1] at hP
  obtain ⟨rfl, hf1⟩ := hw1
  refine lv_istore (lv' := (5, .int (nI (cdV σ (xs (i + 1))))) :: vL b g i) hx hb dL_law_1599 hl (by decide) rfl (fun ls hl => ?_)
  refine lv_aload_n (pc := 1601) hx hb dL_law_1601 rfl (lv_at hl 3 rfl) ?_
  refine lw_cell (pc := 1602) hx hb hX0 hbl hbA hS hL hi (lv_at hl 1 rfl) (lv_at hl 5 rfl) 1 (by decide) (by decide) dL_law_1602 dL_law_1603 dL_law_1605 dL_law_1606 dL_law_1607 ?_
  have hP := kP_perm hP (wm_p g σ σ u1 th mi ti)
  have hD := kD_perm hD (wm_p g σ σ u1 th mi ti)
  refine va_calli (pc := 1608) (va_runV (As := [.int (xs (i + 1))]) (rest := []) ⟨hx, hb, hml, hown, hts⟩ (cX2_clefOf_m l g (AL s) σ (cw g σ ++ ow g u1) th mi ti (xs (i + 1)) hI) (cwV 1 hts gL_law_X2_clefOf rfl rfl rfl (by decide +kernel) ⟨Nat.le_of_ble_eq_true rfl, Nat.le_of_ble_eq_true rfl⟩) (cx_V (q0 := 0) (ci := 2) (r := (RX2, TX2, 11)) rfl (ma0 g σ th mi ti (cw g σ ++ ow g u1)) hP hD hA hK hX hS) rfl rfl hl.1 rfl (lv_room (Nat.le_of_ble_eq_true rfl)) dL_law_1608 ⟨show cells + 1 + 0 ≤ 601024 by omega, show slots + 6 + 0 ≤ 7293034 by omega⟩) hS (fun _ _ h => h) (fun _ h => h) (fun r2 u2 t2 H2 locs2 ht2 hvm2 hw2 hB2 hz2 hk2 hS => ?_)
  obtain ⟨hP, hD⟩ := hB2
  rw [ht2] at hP
  exact lw_tail (q := 1611) C0 ⟨dL_law_1611, dL_law_1613, dL_law_1614, dL_law_1617, dL_law_1619, dL_law_1624⟩ ⟨dL_law_1626, dL_law_1629, dL_law_1630, dL_law_1631, dL_law_1632, dL_law_1634, dL_law_1635, dL_law_1636⟩ dL_law_1641 (by decide) hcd hI hw2 hf1 hgo hc hs (by omega) (by omega) hP hD hS hl
set_option maxHeartbeats 4000000 in
set_option maxRecDepth 100000 in
/-- the law: pitchOf -/
theorem kL_pitchOf {p : Program} {e : Env} {s : State} {m : MethodId} {below : List Frame} {meth : Method} {c : Code} {H : Heap} {locs : List Loc} {cells slots : Nat} {Q : State → Prop} {ls : Array Slot} {b L : Nat} {xs : Nat → Int32} {g : GA} {σ : St} {f : Nat → Int64} {th : Int32} {mi ti : Nat → Int32} {i : Nat} (l : Launch) (hfl : l.stackTraces = false) (C0 : LwX p s m meth c b L xs g) (hI : Inv σ) (hi : i + 6 ≤ L) (hc : cells + 110 ≤ 601024) (hs : slots + 600 ≤ 7293034) (hP : va_P (gD g) vwCl (wL g σ f th mi ti) H) (hD : va_D (AL s) (wL g σ f th mi ti)) (hS : va_S (AL s) s.heap H locs) (hl : lv_has ls 9 (vL b g i)) (hgo : LwGo p l e s m below meth c b g i Q 2306 (cells + 110) (slots + 600)) : W p l e room_1 s m #[Value.ref b] below meth c H locs cells slots Q (F0 m 1644 ls []) := by
  obtain ⟨hx, hb, hml, hown, hts, hX0, hbl, hK, hX, hNc, hL⟩ := id C0
  have hA : ∀ q : Nat, s.heap.size ≤ q → AL s q := fun _ h => h
  have hbA : ¬ AL s b := Nat.not_le.mpr hbl
  have hcd : cd_pitchOf σ (xs (i + 1)) (xs (i + 2)) ≤ 3 := (cd_pitchOf_le _ _ _)
  refine lv_aload_n (pc := 1644) hx hb dL_law_1644 rfl (lv_at hl 1 rfl) ?_
  refine lw_cell (pc := 1645) hx hb hX0 hbl hbA hS hL hi (lv_at hl 0 rfl) (lv_at hl 4 rfl) 1 (by decide) (by decide) dL_law_1645 dL_law_1646 dL_law_1648 dL_law_1649 dL_law_1650 ?_
  refine lw_cell (pc := 1651) hx hb hX0 hbl hbA hS hL hi (lv_at hl 0 rfl) (lv_at hl 4 rfl) 2 (by decide) (by decide) dL_law_1651 dL_law_1652 dL_law_1654 dL_law_1655 dL_law_1656 ?_
  refine lv_aload_n (pc := 1657) hx hb dL_law_1657 rfl (lv_at hl 3 rfl) ?_
  refine va_calli (pc := 1658) (vx_runSW (As := [.ref (gX g), .int (xs (i + 1)), .int (xs (i + 2)), .ref (gO g)]) (rest := []) ⟨hx, hb, hml, hown, hts⟩ (hL_pitchOf l hfl g (AL s) σ f (mw g σ th mi ti) (xs (i + 1)) (xs (i + 2)) hI) (vx_cwSW 4 hts gL_law_L_pitchOf rfl rfl rfl (by decide +kernel) ⟨Nat.le_of_ble_eq_true rfl, Nat.le_of_ble_eq_true rfl⟩) (cxl_S hNc hP hD hA hK hX hS) rfl rfl hl.1 rfl (lv_room (Nat.le_of_ble_eq_true rfl)) dL_law_1658 ⟨show cells + 3 ≤ 601024 by omega, show slots + 18 ≤ 7293034 by omega⟩) hS (fun _ _ h => h) (fun _ h => h) (fun r1 u1 t1 H1 locs1 ht1 hvm1 hw1 hB1 hz1 hk1 hS => ?_)
  obtain ⟨hP, hD⟩ := hB1
  rw [ht1] at hP
  obtain ⟨rfl, hf1⟩ := hw1
  refine lv_istore (lv' := (5, .int (nI (cd_pitchOf σ (xs (i + 1)) (xs (i + 2))))) :: vL b g i) hx hb dL_law_1661 hl (by decide) rfl (fun ls hl => ?_)
  refine lv_aload_n (pc := 1663) hx hb dL_law_1663 rfl (lv_at hl 3 rfl) ?_
  refine lw_cell (pc := 1664) hx hb hX0 hbl hbA hS hL hi (lv_at hl 1 rfl) (lv_at hl 5 rfl) 1 (by decide) (by decide) dL_law_1664 dL_law_1665 dL_law_1667 dL_law_1668 dL_law_1669 ?_
  refine lw_cell (pc := 1670) hx hb hX0 hbl hbA hS hL hi (lv_at hl 1 rfl) (lv_at hl 5 rfl) 2 (by decide) (by decide) dL_law_1670 dL_law_1671 dL_law_1673 dL_law_1674 dL_law_1675 ?_
  have hP := kP_perm hP (wm_p g σ σ u1 th mi ti)
  have hD := kD_perm hD (wm_p g σ σ u1 th mi ti)
  refine va_calli (pc := 1676) (va_runV (As := [.int (xs (i + 1)), .int (xs (i + 2))]) (rest := []) ⟨hx, hb, hml, hown, hts⟩ (cX2_pitchOf_m l g (AL s) σ (cw g σ ++ ow g u1) th mi ti (xs (i + 1)) (xs (i + 2)) hI) (cwV 2 hts gL_law_X2_pitchOf rfl rfl rfl (by decide +kernel) ⟨Nat.le_of_ble_eq_true rfl, Nat.le_of_ble_eq_true rfl⟩) (cx_V (q0 := 0) (ci := 2) (r := (RX2, TX2, 11)) rfl (ma0 g σ th mi ti (cw g σ ++ ow g u1)) hP hD hA hK hX hS) rfl rfl hl.1 rfl (lv_room (Nat.le_of_ble_eq_true rfl)) dL_law_1676 ⟨show cells + 3 + 0 ≤ 601024 by omega, show slots + 18 + 0 ≤ 7293034 by omega⟩) hS (fun _ _ h => h) (fun _ h => h) (fun r2 u2 t2 H2 locs2 ht2 hvm2 hw2 hB2 hz2 hk2 hS => ?_)
  obtain ⟨hP, hD⟩ := hB2
  rw [ht2] at hP
  exact lw_tail (q := 1679) C0 ⟨dL_law_1679, dL_law_1681, dL_law_1682, dL_law_1685, dL_law_1687, dL_law_1692⟩ ⟨dL_law_1694, dL_law_1697, dL_law_1698, dL_law_1699, dL_law_1700, dL_law_1702, dL_law_1703, dL_law_1704⟩ dL_law_1709 (by decide) hcd hI hw2 hf1 hgo hc hs (by omega) (by omega) hP hD hS hl
set_option maxHeartbeats 4000000 in
set_option maxRecDepth 100000 in
/-- the law: fits -/
theorem kL_fits {p : Program} {e : Env} {s : State} {m : MethodId} {below : List Frame} {meth : Method} {c : Code} {H : Heap} {locs : List Loc} {cells slots : Nat} {Q : State → Prop} {ls : Array Slot} {b L : Nat} {xs : Nat → Int32} {g : GA} {σ : St} {f : Nat → Int64} {th : Int32} {mi ti : Nat → Int32} {i : Nat} (l : Launch) (hfl : l.stackTraces = false) (C0 : LwX p s m meth c b L xs g) (hI : Inv σ) (hi : i + 6 ≤ L) (hc : cells + 110 ≤ 601024) (hs : slots + 600 ≤ 7293034) (hP : va_P (gD g) vwCl (wL g σ f th mi ti) H) (hD : va_D (AL s) (wL g σ f th mi ti)) (hS : va_S (AL s) s.heap H locs) (hl : lv_has ls 9 (vL b g i)) (hgo : LwGo p l e s m below meth c b g i Q 2306 (cells + 110) (slots + 600)) : W p l e room_1 s m #[Value.ref b] below meth c H locs cells slots Q (F0 m 1712 ls []) := by
  obtain ⟨hx, hb, hml, hown, hts, hX0, hbl, hK, hX, hNc, hL⟩ := id C0
  have hA : ∀ q : Nat, s.heap.size ≤ q → AL s q := fun _ h => h
  have hbA : ¬ AL s b := Nat.not_le.mpr hbl
  have hcd : cdVR σ (xs (i + 1)) (inr 0 5 (xs (i + 2))) ≤ 3 := (cdVR_le _ _ _)
  refine lv_aload_n (pc := 1712) hx hb dL_law_1712 rfl (lv_at hl 1 rfl) ?_
  refine lw_cell (pc := 1713) hx hb hX0 hbl hbA hS hL hi (lv_at hl 0 rfl) (lv_at hl 4 rfl) 1 (by decide) (by decide) dL_law_1713 dL_law_1714 dL_law_1716 dL_law_1717 dL_law_1718 ?_
  refine lw_cell (pc := 1719) hx hb hX0 hbl hbA hS hL hi (lv_at hl 0 rfl) (lv_at hl 4 rfl) 2 (by decide) (by decide) dL_law_1719 dL_law_1720 dL_law_1722 dL_law_1723 dL_law_1724 ?_
  refine lv_aload_n (pc := 1725) hx hb dL_law_1725 rfl (lv_at hl 3 rfl) ?_
  refine va_calli (pc := 1726) (vx_runSW (As := [.ref (gX g), .int (xs (i + 1)), .int (xs (i + 2)), .ref (gO g)]) (rest := []) ⟨hx, hb, hml, hown, hts⟩ (hL_fits l hfl g (AL s) σ f (mw g σ th mi ti) (xs (i + 1)) (xs (i + 2)) hI) (vx_cwSW 4 hts gL_law_L_fits rfl rfl rfl (by decide +kernel) ⟨Nat.le_of_ble_eq_true rfl, Nat.le_of_ble_eq_true rfl⟩) (cxl_S hNc hP hD hA hK hX hS) rfl rfl hl.1 rfl (lv_room (Nat.le_of_ble_eq_true rfl)) dL_law_1726 ⟨show cells + 2 ≤ 601024 by omega, show slots + 12 ≤ 7293034 by omega⟩) hS (fun _ _ h => h) (fun _ h => h) (fun r1 u1 t1 H1 locs1 ht1 hvm1 hw1 hB1 hz1 hk1 hS => ?_)
  obtain ⟨hP, hD⟩ := hB1
  rw [ht1] at hP
  obtain ⟨rfl, hf1⟩ := hw1
  refine lv_istore (lv' := (5, .int (nI (cdVR σ (xs (i + 1)) (inr 0 5 (xs (i + 2)))))) :: vL b g i) hx hb dL_law_1729 hl (by decide) rfl (fun ls hl => ?_)
  refine lv_aload_n (pc := 1731) hx hb dL_law_1731 rfl (lv_at hl 3 rfl) ?_
  refine lw_cell (pc := 1732) hx hb hX0 hbl hbA hS hL hi (lv_at hl 1 rfl) (lv_at hl 5 rfl) 1 (by decide) (by decide) dL_law_1732 dL_law_1733 dL_law_1735 dL_law_1736 dL_law_1737 ?_
  refine lw_cell (pc := 1738) hx hb hX0 hbl hbA hS hL hi (lv_at hl 1 rfl) (lv_at hl 5 rfl) 2 (by decide) (by decide) dL_law_1738 dL_law_1739 dL_law_1741 dL_law_1742 dL_law_1743 ?_
  have hP := kP_perm hP (wm_p g σ σ u1 th mi ti)
  have hD := kD_perm hD (wm_p g σ σ u1 th mi ti)
  refine va_calli (pc := 1744) (va_runV (As := [.int (xs (i + 1)), .int (xs (i + 2))]) (rest := []) ⟨hx, hb, hml, hown, hts⟩ (cX2_fits_m l g (AL s) σ (cw g σ ++ ow g u1) th mi ti (xs (i + 1)) (xs (i + 2)) hI) (cwV 2 hts gL_law_X2_fits rfl rfl rfl (by decide +kernel) ⟨Nat.le_of_ble_eq_true rfl, Nat.le_of_ble_eq_true rfl⟩) (cx_V (q0 := 0) (ci := 2) (r := (RX2, TX2, 11)) rfl (ma0 g σ th mi ti (cw g σ ++ ow g u1)) hP hD hA hK hX hS) rfl rfl hl.1 rfl (lv_room (Nat.le_of_ble_eq_true rfl)) dL_law_1744 ⟨show cells + 2 + 0 ≤ 601024 by omega, show slots + 12 + 0 ≤ 7293034 by omega⟩) hS (fun _ _ h => h) (fun _ h => h) (fun r2 u2 t2 H2 locs2 ht2 hvm2 hw2 hB2 hz2 hk2 hS => ?_)
  obtain ⟨hP, hD⟩ := hB2
  rw [ht2] at hP
  exact lw_tailz (q := 1747) C0 ⟨dL_law_1747, dL_law_1749, dL_law_1750, dL_law_1753, dL_law_1755, dL_law_1760⟩ ⟨dL_law_1762, dL_law_1765, dL_law_1766, dL_law_1767, dL_law_1768, dL_law_1770, dL_law_1773, dL_law_1774, dL_law_1777, dL_law_1778, dL_law_1779⟩ dL_law_1784 (by decide) hcd hI hw2 hf1 hgo hc hs (by omega) (by omega) hP hD hS hl
