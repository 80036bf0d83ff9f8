set_option maxRecDepth 100000 in
set_option maxHeartbeats 4000000 in
theorem lc_mixed {l : Launch} {L : Nat} {mem : zMem} {Q : zQ} (i : Int) (hL : L ≤ 4096) (h0 : 0 ≤ i) (h1 : i + 8 ≤ (L : Int)) (hI : zInv mem) (ih1789 : ∀ mm : zMem, zInv mm → (0 : Int) < 1 → zw_Wp l mm_L_law (zS L) 1789 [some (zR 1001), some (zR 0), some (zR 67), some (zI i)] [] mm 0 0 Q) : zw_Wp l mm_L_law (zS L) 1326 [some (zR 1001), some (zR 0), some (zR 67), some (zI i)] [] mem 0 0 Q := by
  refine wp_aload_n dd_L_law_1326 rfl ?_
  refine wp_aload_n dd_L_law_1327 rfl ?_
  refine wp_iload_n dd_L_law_1328 rfl ?_
  refine wp_iconst dd_L_law_1329 (zr_lit rfl) ?_
  refine wp_iaddC dd_L_law_1330 (by omega) ?_
  refine wp_ialdR dd_L_law_1331 kk_1001 (by decide) (by omega) (by omega) ?_
  refine wp_aload_n dd_L_law_1332 rfl ?_
  refine wp_iload_n dd_L_law_1333 rfl ?_
  refine wp_iconst dd_L_law_1334 (zr_lit rfl) ?_
  refine wp_iaddC dd_L_law_1335 (by omega) ?_
  refine wp_ialdR dd_L_law_1336 kk_1001 (by decide) (by omega) (by omega) ?_
  refine wp_callV (M' := mm_X10_mixed) (As := [zI (mem 1001 (i + 1)), zI (mem 1001 (i + 2))]) (rest := []) dd_L_law_1337 lk_L_124 mV_X10_mixed kk_0 (zlt rfl) ⟨_, _, rfl⟩ rfl (by decide) (by decide) (Nat.le_of_ble_eq_true rfl) rfl (sp_X10_mixed  (mem 1001 (i + 1)) (mem 1001 (i + 2)) hI (fun r m1 f1 f2 f3 n1 n2 n3 hf hH => ?_))
  show zw_Wp l mm_L_law (zS L) 1340 [some (zR 1001), some (zR 0), some (zR 67), some (zI i)] [zI r] m1 0 0 Q
  have hs : m1 1001 = mem 1001 := hf.sc
  refine wp_aload_n dd_L_law_1340 rfl ?_
  refine wp_aload_n dd_L_law_1341 rfl ?_
  refine wp_iload_n dd_L_law_1342 rfl ?_
  refine wp_iconst dd_L_law_1343 (zr_lit rfl) ?_
  refine wp_iaddC dd_L_law_1344 (by omega) ?_
  refine wp_ialdR dd_L_law_1345 kk_1001 (by decide) (by omega) (by omega) ?_
  refine wp_aload_n dd_L_law_1346 rfl ?_
  refine wp_iload_n dd_L_law_1347 rfl ?_
  refine wp_iconst dd_L_law_1348 (zr_lit rfl) ?_
  refine wp_iaddC dd_L_law_1349 (by omega) ?_
  refine wp_ialdR dd_L_law_1350 kk_1001 (by decide) (by omega) (by omega) ?_
  rw [show (m1 1001 (i + 1) : Int) = mem 1001 (i + 1) from by rw [hs]]
  rw [show (m1 1001 (i + 2) : Int) = mem 1001 (i + 2) from by rw [hs]]
  refine wp_callV (M' := mm_X11_mixed) (As := [zI (mem 1001 (i + 1)), zI (mem 1001 (i + 2))]) (rest := [zI r]) dd_L_law_1351 lk_L_127 mV_X11_mixed kk_67 (zlt rfl) ⟨_, _, rfl⟩ rfl (by decide) (by decide) (Nat.le_of_ble_eq_true rfl) rfl (rf_mixed  (mem 1001 (i + 1)) (mem 1001 (i + 2)) f1 f2 f3 n1 n2 n3 r hI hH hf (fun m2 hI2 => ?_))
  show zw_Wp l mm_L_law (zS L) 1354 [some (zR 1001), some (zR 0), some (zR 67), some (zI i)] [zI r, zI r] m2 0 0 Q
  refine wp_icmp_eq (tgt := 1789) dd_L_law_1354 (by decide) (fun c1354_1 => ?_) (fun c1354_1 => ?_)
  · skip
    refine ih1789 m2 ?_ ?_
    · assumption
    · omega
  · skip
    exfalso; omega

set_option maxRecDepth 100000 in
set_option maxHeartbeats 4000000 in
theorem lc_product {l : Launch} {L : Nat} {mem : zMem} {Q : zQ} (i : Int) (hL : L ≤ 4096) (h0 : 0 ≤ i) (h1 : i + 8 ≤ (L : Int)) (hI : zInv mem) (ih1789 : ∀ mm : zMem, zInv mm → (0 : Int) < 1 → zw_Wp l mm_L_law (zS L) 1789 [some (zR 1001), some (zR 0), some (zR 67), some (zI i)] [] mm 0 0 Q) : zw_Wp l mm_L_law (zS L) 1359 [some (zR 1001), some (zR 0), some (zR 67), some (zI i)] [] mem 0 0 Q := by
  refine wp_aload_n dd_L_law_1359 rfl ?_
  refine wp_aload_n dd_L_law_1360 rfl ?_
  refine wp_iload_n dd_L_law_1361 rfl ?_
  refine wp_iconst dd_L_law_1362 (zr_lit rfl) ?_
  refine wp_iaddC dd_L_law_1363 (by omega) ?_
  refine wp_ialdR dd_L_law_1364 kk_1001 (by decide) (by omega) (by omega) ?_
  refine wp_aload_n dd_L_law_1365 rfl ?_
  refine wp_iload_n dd_L_law_1366 rfl ?_
  refine wp_iconst dd_L_law_1367 (zr_lit rfl) ?_
  refine wp_iaddC dd_L_law_1368 (by omega) ?_
  refine wp_ialdR dd_L_law_1369 kk_1001 (by decide) (by omega) (by omega) ?_
  refine wp_callV (M' := mm_X10_product) (As := [zI (mem 1001 (i + 1)), zI (mem 1001 (i + 2))]) (rest := []) dd_L_law_1370 lk_L_128 mV_X10_product kk_0 (zlt rfl) ⟨_, _, rfl⟩ rfl (by decide) (by decide) (Nat.le_of_ble_eq_true rfl) rfl (sp_X10_product  (mem 1001 (i + 1)) (mem 1001 (i + 2)) hI (fun r m1 hf => ?_))
  show zw_Wp l mm_L_law (zS L) 1373 [some (zR 1001), some (zR 0), some (zR 67), some (zI i)] [zI r] m1 0 0 Q
  have hs : m1 1001 = mem 1001 := by
    rcases hf with ⟨-, -, z⟩ | ⟨-, -, -, z⟩ | ⟨-, -, -, -, z⟩ | ⟨-, z0, -, -, -, -, -, -, z⟩
    · rw [z]; exact zCn.sc
    · rw [z]; exact zCn.sc
    · rw [z]; exact zCn.sc
    · have hn := hI.1.2.2.1
      have hq9 := zo_rg (q := mem 67 5) (by omega)
      exact z 1001 (by decide) (by decide) (by omega) (by omega) (by omega) (by decide)
  refine wp_aload_n dd_L_law_1373 rfl ?_
  refine wp_aload_n dd_L_law_1374 rfl ?_
  refine wp_iload_n dd_L_law_1375 rfl ?_
  refine wp_iconst dd_L_law_1376 (zr_lit rfl) ?_
  refine wp_iaddC dd_L_law_1377 (by omega) ?_
  refine wp_ialdR dd_L_law_1378 kk_1001 (by decide) (by omega) (by omega) ?_
  refine wp_aload_n dd_L_law_1379 rfl ?_
  refine wp_iload_n dd_L_law_1380 rfl ?_
  refine wp_iconst dd_L_law_1381 (zr_lit rfl) ?_
  refine wp_iaddC dd_L_law_1382 (by omega) ?_
  refine wp_ialdR dd_L_law_1383 kk_1001 (by decide) (by omega) (by omega) ?_
  rw [show (m1 1001 (i + 1) : Int) = mem 1001 (i + 1) from by rw [hs]]
  rw [show (m1 1001 (i + 2) : Int) = mem 1001 (i + 2) from by rw [hs]]
  refine wp_callV (M' := mm_X11_product) (As := [zI (mem 1001 (i + 1)), zI (mem 1001 (i + 2))]) (rest := [zI r]) dd_L_law_1384 lk_L_131 mV_X11_product kk_67 (zlt rfl) ⟨_, _, rfl⟩ rfl (by decide) (by decide) (Nat.le_of_ble_eq_true rfl) rfl (rf_product  (mem 1001 (i + 1)) (mem 1001 (i + 2)) r hI hf (fun m2 hI2 => ?_))
  show zw_Wp l mm_L_law (zS L) 1387 [some (zR 1001), some (zR 0), some (zR 67), some (zI i)] [zI r, zI r] m2 0 0 Q
  refine wp_icmp_eq (tgt := 1789) dd_L_law_1387 (by decide) (fun c1387_1 => ?_) (fun c1387_1 => ?_)
  · skip
    refine ih1789 m2 ?_ ?_
    · assumption
    · omega
  · skip
    exfalso; omega

set_option maxRecDepth 100000 in
set_option maxHeartbeats 4000000 in
theorem lc_odds {l : Launch} {L : Nat} {mem : zMem} {Q : zQ} (i : Int) (hL : L ≤ 4096) (h0 : 0 ≤ i) (h1 : i + 8 ≤ (L : Int)) (hI : zInv mem) (ih1789 : ∀ mm : zMem, zInv mm → (0 : Int) < 1 → zw_Wp l mm_L_law (zS L) 1789 [some (zR 1001), some (zR 0), some (zR 67), some (zI i)] [] mm 0 0 Q) : zw_Wp l mm_L_law (zS L) 1392 [some (zR 1001), some (zR 0), some (zR 67), some (zI i)] [] mem 0 0 Q := by
  refine wp_aload_n dd_L_law_1392 rfl ?_
  refine wp_aload_n dd_L_law_1393 rfl ?_
  refine wp_iload_n dd_L_law_1394 rfl ?_
  refine wp_iconst dd_L_law_1395 (zr_lit rfl) ?_
  refine wp_iaddC dd_L_law_1396 (by omega) ?_
  refine wp_ialdR dd_L_law_1397 kk_1001 (by decide) (by omega) (by omega) ?_
  refine wp_aload_n dd_L_law_1398 rfl ?_
  refine wp_iload_n dd_L_law_1399 rfl ?_
  refine wp_iconst dd_L_law_1400 (zr_lit rfl) ?_
  refine wp_iaddC dd_L_law_1401 (by omega) ?_
  refine wp_ialdR dd_L_law_1402 kk_1001 (by decide) (by omega) (by omega) ?_
  refine wp_callV (M' := mm_X10_odds) (As := [zI (mem 1001 (i + 1)), zI (mem 1001 (i + 2))]) (rest := []) dd_L_law_1403 lk_L_132 mV_X10_odds kk_0 (zlt rfl) ⟨_, _, rfl⟩ rfl (by decide) (by decide) (Nat.le_of_ble_eq_true rfl) rfl (sp_X10_odds  (mem 1001 (i + 1)) (mem 1001 (i + 2)) hI (fun r m1 hf => ?_))
  show zw_Wp l mm_L_law (zS L) 1406 [some (zR 1001), some (zR 0), some (zR 67), some (zI i)] [zJ r] m1 0 0 Q
  have hs : m1 1001 = mem 1001 := hf.sc
  refine wp_aload_n dd_L_law_1406 rfl ?_
  refine wp_aload_n dd_L_law_1407 rfl ?_
  refine wp_iload_n dd_L_law_1408 rfl ?_
  refine wp_iconst dd_L_law_1409 (zr_lit rfl) ?_
  refine wp_iaddC dd_L_law_1410 (by omega) ?_
  refine wp_ialdR dd_L_law_1411 kk_1001 (by decide) (by omega) (by omega) ?_
  refine wp_aload_n dd_L_law_1412 rfl ?_
  refine wp_iload_n dd_L_law_1413 rfl ?_
  refine wp_iconst dd_L_law_1414 (zr_lit rfl) ?_
  refine wp_iaddC dd_L_law_1415 (by omega) ?_
  refine wp_ialdR dd_L_law_1416 kk_1001 (by decide) (by omega) (by omega) ?_
  rw [show (m1 1001 (i + 1) : Int) = mem 1001 (i + 1) from by rw [hs]]
  rw [show (m1 1001 (i + 2) : Int) = mem 1001 (i + 2) from by rw [hs]]
  refine wp_callV (M' := mm_X11_odds) (As := [zI (mem 1001 (i + 1)), zI (mem 1001 (i + 2))]) (rest := [zJ r]) dd_L_law_1417 lk_L_136 mV_X11_odds kk_67 (zlt rfl) ⟨_, _, rfl⟩ rfl (by decide) (by decide) (Nat.le_of_ble_eq_true rfl) rfl (rf_odds  (mem 1001 (i + 1)) (mem 1001 (i + 2)) r hI hf (fun m2 hI2 => ?_))
  show zw_Wp l mm_L_law (zS L) 1420 [some (zR 1001), some (zR 0), some (zR 67), some (zI i)] [zJ r, zJ r] m2 0 0 Q
  refine wp_lcmp dd_L_law_1420 ?_
  refine wp_if_eq (tgt := 1789) dd_L_law_1421 (by decide) (fun c1421_1 => ?_) (fun c1421_1 => ?_)
  · skip
    refine ih1789 m2 ?_ ?_
    · assumption
    · omega
  · skip
    rw [lg_self] at *; omega

set_option maxRecDepth 100000 in
set_option maxHeartbeats 4000000 in
theorem lc_lots {l : Launch} {L : Nat} {mem : zMem} {Q : zQ} (i : Int) (hL : L ≤ 4096) (h0 : 0 ≤ i) (h1 : i + 8 ≤ (L : Int)) (hI : zInv mem) (ih1789 : ∀ mm : zMem, zInv mm → (0 : Int) < 1 → zw_Wp l mm_L_law (zS L) 1789 [some (zR 1001), some (zR 0), some (zR 67), some (zI i)] [] mm 0 0 Q) : zw_Wp l mm_L_law (zS L) 1426 [some (zR 1001), some (zR 0), some (zR 67), some (zI i)] [] mem 0 0 Q := by
  refine wp_aload_n dd_L_law_1426 rfl ?_
  refine wp_aload_n dd_L_law_1427 rfl ?_
  refine wp_iload_n dd_L_law_1428 rfl ?_
  refine wp_iconst dd_L_law_1429 (zr_lit rfl) ?_
  refine wp_iaddC dd_L_law_1430 (by omega) ?_
  refine wp_ialdR dd_L_law_1431 kk_1001 (by decide) (by omega) (by omega) ?_
  refine wp_aload_n dd_L_law_1432 rfl ?_
  refine wp_iload_n dd_L_law_1433 rfl ?_
  refine wp_iconst dd_L_law_1434 (zr_lit rfl) ?_
  refine wp_iaddC dd_L_law_1435 (by omega) ?_
  refine wp_ialdR dd_L_law_1436 kk_1001 (by decide) (by omega) (by omega) ?_
  refine wp_aload_n dd_L_law_1437 rfl ?_
  refine wp_iload_n dd_L_law_1438 rfl ?_
  refine wp_iconst dd_L_law_1439 (zr_lit rfl) ?_
  refine wp_iaddC dd_L_law_1440 (by omega) ?_
  refine wp_ialdR dd_L_law_1441 kk_1001 (by decide) (by omega) (by omega) ?_
  refine wp_aload_n dd_L_law_1442 rfl ?_
  refine wp_iload_n dd_L_law_1443 rfl ?_
  refine wp_iconst dd_L_law_1444 (zr_lit rfl) ?_
  refine wp_iaddC dd_L_law_1445 (by omega) ?_
  refine wp_ialdR dd_L_law_1446 kk_1001 (by decide) (by omega) (by omega) ?_
  refine wp_callV (M' := mm_X10_lots) (As := [zI (mem 1001 (i + 1)), zI (mem 1001 (i + 2)), zI (mem 1001 (i + 3)), zI (mem 1001 (i + 4))]) (rest := []) dd_L_law_1447 lk_L_137 mV_X10_lots kk_0 (zlt rfl) ⟨_, _, rfl⟩ rfl (by decide) (by decide) (Nat.le_of_ble_eq_true rfl) rfl (sp_X10_lots  (mem 1001 (i + 1)) (mem 1001 (i + 2)) (mem 1001 (i + 3)) (mem 1001 (i + 4)) hI (fun r m1 hf => ?_))
  show zw_Wp l mm_L_law (zS L) 1450 [some (zR 1001), some (zR 0), some (zR 67), some (zI i)] [zI r] m1 0 0 Q
  have hs : m1 1001 = mem 1001 := hf.sc
  refine wp_aload_n dd_L_law_1450 rfl ?_
  refine wp_aload_n dd_L_law_1451 rfl ?_
  refine wp_iload_n dd_L_law_1452 rfl ?_
  refine wp_iconst dd_L_law_1453 (zr_lit rfl) ?_
  refine wp_iaddC dd_L_law_1454 (by omega) ?_
  refine wp_ialdR dd_L_law_1455 kk_1001 (by decide) (by omega) (by omega) ?_
  refine wp_aload_n dd_L_law_1456 rfl ?_
  refine wp_iload_n dd_L_law_1457 rfl ?_
  refine wp_iconst dd_L_law_1458 (zr_lit rfl) ?_
  refine wp_iaddC dd_L_law_1459 (by omega) ?_
  refine wp_ialdR dd_L_law_1460 kk_1001 (by decide) (by omega) (by omega) ?_
  refine wp_aload_n dd_L_law_1461 rfl ?_
  refine wp_iload_n dd_L_law_1462 rfl ?_
  refine wp_iconst dd_L_law_1463 (zr_lit rfl) ?_
  refine wp_iaddC dd_L_law_1464 (by omega) ?_
  refine wp_ialdR dd_L_law_1465 kk_1001 (by decide) (by omega) (by omega) ?_
  refine wp_aload_n dd_L_law_1466 rfl ?_
  refine wp_iload_n dd_L_law_1467 rfl ?_
  refine wp_iconst dd_L_law_1468 (zr_lit rfl) ?_
  refine wp_iaddC dd_L_law_1469 (by omega) ?_
  refine wp_ialdR dd_L_law_1470 kk_1001 (by decide) (by omega) (by omega) ?_
  rw [show (m1 1001 (i + 1) : Int) = mem 1001 (i + 1) from by rw [hs]]
  rw [show (m1 1001 (i + 2) : Int) = mem 1001 (i + 2) from by rw [hs]]
  rw [show (m1 1001 (i + 3) : Int) = mem 1001 (i + 3) from by rw [hs]]
  rw [show (m1 1001 (i + 4) : Int) = mem 1001 (i + 4) from by rw [hs]]
  refine wp_callV (M' := mm_X11_lots) (As := [zI (mem 1001 (i + 1)), zI (mem 1001 (i + 2)), zI (mem 1001 (i + 3)), zI (mem 1001 (i + 4))]) (rest := [zI r]) dd_L_law_1471 lk_L_140 mV_X11_lots kk_67 (zlt rfl) ⟨_, _, rfl⟩ rfl (by decide) (by decide) (Nat.le_of_ble_eq_true rfl) rfl (rf_lots  (mem 1001 (i + 1)) (mem 1001 (i + 2)) (mem 1001 (i + 3)) (mem 1001 (i + 4)) r hI hf (fun m2 hI2 => ?_))
  show zw_Wp l mm_L_law (zS L) 1474 [some (zR 1001), some (zR 0), some (zR 67), some (zI i)] [zI r, zI r] m2 0 0 Q
  refine wp_icmp_eq (tgt := 1789) dd_L_law_1474 (by decide) (fun c1474_1 => ?_) (fun c1474_1 => ?_)
  · skip
    refine ih1789 m2 ?_ ?_
    · assumption
    · omega
  · skip
    exfalso; omega

set_option maxRecDepth 100000 in
set_option maxHeartbeats 4000000 in
theorem lc_list {l : Launch} {L : Nat} {mem : zMem} {Q : zQ} (i : Int) (hL : L ≤ 4096) (h0 : 0 ≤ i) (h1 : i + 8 ≤ (L : Int)) (hI : zInv mem) (ih1789 : ∀ mm : zMem, zInv mm → (0 : Int) < 1 → zw_Wp l mm_L_law (zS L) 1789 [some (zR 1001), some (zR 0), some (zR 67), some (zI i)] [] mm 0 0 Q) : zw_Wp l mm_L_law (zS L) 1479 [some (zR 1001), some (zR 0), some (zR 67), some (zI i)] [] mem 0 0 Q := by
  refine wp_aload_n dd_L_law_1479 rfl ?_
  refine wp_aload_n dd_L_law_1480 rfl ?_
  refine wp_iload_n dd_L_law_1481 rfl ?_
  refine wp_iconst dd_L_law_1482 (zr_lit rfl) ?_
  refine wp_iaddC dd_L_law_1483 (by omega) ?_
  refine wp_ialdR dd_L_law_1484 kk_1001 (by decide) (by omega) (by omega) ?_
  refine wp_aload_n dd_L_law_1485 rfl ?_
  refine wp_iload_n dd_L_law_1486 rfl ?_
  refine wp_iconst dd_L_law_1487 (zr_lit rfl) ?_
  refine wp_iaddC dd_L_law_1488 (by omega) ?_
  refine wp_ialdR dd_L_law_1489 kk_1001 (by decide) (by omega) (by omega) ?_
  refine wp_callV (M' := mm_X10_list) (As := [zI (mem 1001 (i + 1)), zI (mem 1001 (i + 2))]) (rest := []) dd_L_law_1490 lk_L_141 mV_X10_list kk_0 (zlt rfl) ⟨_, _, rfl⟩ rfl (by decide) (by decide) (Nat.le_of_ble_eq_true rfl) rfl (sp_X10_list  (mem 1001 (i + 1)) (mem 1001 (i + 2)) hI (fun r m1 hf => ?_))
  show zw_Wp l mm_L_law (zS L) 1493 [some (zR 1001), some (zR 0), some (zR 67), some (zI i)] [zI r] m1 0 0 Q
  have hs : m1 1001 = mem 1001 := by
    rcases hf with ⟨-, -, z⟩ | ⟨-, ⟨-, -, z⟩ | ⟨-, -, z⟩ | ⟨-, -, -, -, -, z⟩⟩
    · rw [z]; exact zCn.sc
    · rw [z]; exact zCn.sc
    · rw [z]
    · exact z 1001 (by decide) (by decide)
  refine wp_aload_n dd_L_law_1493 rfl ?_
  refine wp_aload_n dd_L_law_1494 rfl ?_
  refine wp_iload_n dd_L_law_1495 rfl ?_
  refine wp_iconst dd_L_law_1496 (zr_lit rfl) ?_
  refine wp_iaddC dd_L_law_1497 (by omega) ?_
  refine wp_ialdR dd_L_law_1498 kk_1001 (by decide) (by omega) (by omega) ?_
  refine wp_aload_n dd_L_law_1499 rfl ?_
  refine wp_iload_n dd_L_law_1500 rfl ?_
  refine wp_iconst dd_L_law_1501 (zr_lit rfl) ?_
  refine wp_iaddC dd_L_law_1502 (by omega) ?_
  refine wp_ialdR dd_L_law_1503 kk_1001 (by decide) (by omega) (by omega) ?_
  rw [show (m1 1001 (i + 1) : Int) = mem 1001 (i + 1) from by rw [hs]]
  rw [show (m1 1001 (i + 2) : Int) = mem 1001 (i + 2) from by rw [hs]]
  refine wp_callV (M' := mm_X11_list) (As := [zI (mem 1001 (i + 1)), zI (mem 1001 (i + 2))]) (rest := [zI r]) dd_L_law_1504 lk_L_144 mV_X11_list kk_67 (zlt rfl) ⟨_, _, rfl⟩ rfl (by decide) (by decide) (Nat.le_of_ble_eq_true rfl) rfl (rf_list  (mem 1001 (i + 1)) (mem 1001 (i + 2)) r hI hf (fun m2 hI2 => ?_))
  show zw_Wp l mm_L_law (zS L) 1507 [some (zR 1001), some (zR 0), some (zR 67), some (zI i)] [zI r, zI r] m2 0 0 Q
  refine wp_icmp_eq (tgt := 1789) dd_L_law_1507 (by decide) (fun c1507_1 => ?_) (fun c1507_1 => ?_)
  · skip
    refine ih1789 m2 ?_ ?_
    · assumption
    · omega
  · skip
    exfalso; omega

set_option maxRecDepth 100000 in
set_option maxHeartbeats 4000000 in
theorem lc_put {l : Launch} {L : Nat} {mem : zMem} {Q : zQ} (i : Int) (hL : L ≤ 4096) (h0 : 0 ≤ i) (h1 : i + 8 ≤ (L : Int)) (hI : zInv mem) (ih1789 : ∀ mm : zMem, zInv mm → (0 : Int) < 1 → zw_Wp l mm_L_law (zS L) 1789 [some (zR 1001), some (zR 0), some (zR 67), some (zI i)] [] mm 0 0 Q) : zw_Wp l mm_L_law (zS L) 1512 [some (zR 1001), some (zR 0), some (zR 67), some (zI i)] [] mem 0 0 Q := by
  refine wp_aload_n dd_L_law_1512 rfl ?_
  refine wp_aload_n dd_L_law_1513 rfl ?_
  refine wp_iload_n dd_L_law_1514 rfl ?_
  refine wp_iconst dd_L_law_1515 (zr_lit rfl) ?_
  refine wp_iaddC dd_L_law_1516 (by omega) ?_
  refine wp_ialdR dd_L_law_1517 kk_1001 (by decide) (by omega) (by omega) ?_
  refine wp_aload_n dd_L_law_1518 rfl ?_
  refine wp_iload_n dd_L_law_1519 rfl ?_
  refine wp_iconst dd_L_law_1520 (zr_lit rfl) ?_
  refine wp_iaddC dd_L_law_1521 (by omega) ?_
  refine wp_ialdR dd_L_law_1522 kk_1001 (by decide) (by omega) (by omega) ?_
  refine wp_aload_n dd_L_law_1523 rfl ?_
  refine wp_iload_n dd_L_law_1524 rfl ?_
  refine wp_iconst dd_L_law_1525 (zr_lit rfl) ?_
  refine wp_iaddC dd_L_law_1526 (by omega) ?_
  refine wp_ialdR dd_L_law_1527 kk_1001 (by decide) (by omega) (by omega) ?_
  refine wp_callV (M' := mm_X10_put) (As := [zI (mem 1001 (i + 1)), zI (mem 1001 (i + 2)), zI (mem 1001 (i + 3))]) (rest := []) dd_L_law_1528 lk_L_145 mV_X10_put kk_0 (zlt rfl) ⟨_, _, rfl⟩ rfl (by decide) (by decide) (Nat.le_of_ble_eq_true rfl) rfl (sp_X10_put  (mem 1001 (i + 1)) (mem 1001 (i + 2)) (mem 1001 (i + 3)) hI (fun r m1 hf => ?_))
  show zw_Wp l mm_L_law (zS L) 1531 [some (zR 1001), some (zR 0), some (zR 67), some (zI i)] [zI r] m1 0 0 Q
  have hs : m1 1001 = mem 1001 := by
    rcases hf with ⟨-, -, z⟩ | ⟨-, ⟨-, -, z⟩ | ⟨-, -, z⟩⟩
    · rw [z]; exact zCn.sc
    · rw [z]
    · rw [z]; exact zu_row (by decide)
  refine wp_aload_n dd_L_law_1531 rfl ?_
  refine wp_aload_n dd_L_law_1532 rfl ?_
  refine wp_iload_n dd_L_law_1533 rfl ?_
  refine wp_iconst dd_L_law_1534 (zr_lit rfl) ?_
  refine wp_iaddC dd_L_law_1535 (by omega) ?_
  refine wp_ialdR dd_L_law_1536 kk_1001 (by decide) (by omega) (by omega) ?_
  refine wp_aload_n dd_L_law_1537 rfl ?_
  refine wp_iload_n dd_L_law_1538 rfl ?_
  refine wp_iconst dd_L_law_1539 (zr_lit rfl) ?_
  refine wp_iaddC dd_L_law_1540 (by omega) ?_
  refine wp_ialdR dd_L_law_1541 kk_1001 (by decide) (by omega) (by omega) ?_
  refine wp_aload_n dd_L_law_1542 rfl ?_
  refine wp_iload_n dd_L_law_1543 rfl ?_
  refine wp_iconst dd_L_law_1544 (zr_lit rfl) ?_
  refine wp_iaddC dd_L_law_1545 (by omega) ?_
  refine wp_ialdR dd_L_law_1546 kk_1001 (by decide) (by omega) (by omega) ?_
  rw [show (m1 1001 (i + 1) : Int) = mem 1001 (i + 1) from by rw [hs]]
  rw [show (m1 1001 (i + 2) : Int) = mem 1001 (i + 2) from by rw [hs]]
  rw [show (m1 1001 (i + 3) : Int) = mem 1001 (i + 3) from by rw [hs]]
  refine wp_callV (M' := mm_X11_put) (As := [zI (mem 1001 (i + 1)), zI (mem 1001 (i + 2)), zI (mem 1001 (i + 3))]) (rest := [zI r]) dd_L_law_1547 lk_L_148 mV_X11_put kk_67 (zlt rfl) ⟨_, _, rfl⟩ rfl (by decide) (by decide) (Nat.le_of_ble_eq_true rfl) rfl (rf_put  (mem 1001 (i + 1)) (mem 1001 (i + 2)) (mem 1001 (i + 3)) r hI hf (fun m2 hI2 => ?_))
  show zw_Wp l mm_L_law (zS L) 1550 [some (zR 1001), some (zR 0), some (zR 67), some (zI i)] [zI r, zI r] m2 0 0 Q
  refine wp_icmp_eq (tgt := 1789) dd_L_law_1550 (by decide) (fun c1550_1 => ?_) (fun c1550_1 => ?_)
  · skip
    refine ih1789 m2 ?_ ?_
    · assumption
    · omega
  · skip
    exfalso; omega

set_option maxRecDepth 100000 in
set_option maxHeartbeats 4000000 in
theorem lc_look {l : Launch} {L : Nat} {mem : zMem} {Q : zQ} (i : Int) (hL : L ≤ 4096) (h0 : 0 ≤ i) (h1 : i + 8 ≤ (L : Int)) (hI : zInv mem) (ih1789 : ∀ mm : zMem, zInv mm → (0 : Int) < 1 → zw_Wp l mm_L_law (zS L) 1789 [some (zR 1001), some (zR 0), some (zR 67), some (zI i)] [] mm 0 0 Q) : zw_Wp l mm_L_law (zS L) 1555 [some (zR 1001), some (zR 0), some (zR 67), some (zI i)] [] mem 0 0 Q := by
  refine wp_aload_n dd_L_law_1555 rfl ?_
  refine wp_aload_n dd_L_law_1556 rfl ?_
  refine wp_iload_n dd_L_law_1557 rfl ?_
  refine wp_iconst dd_L_law_1558 (zr_lit rfl) ?_
  refine wp_iaddC dd_L_law_1559 (by omega) ?_
  refine wp_ialdR dd_L_law_1560 kk_1001 (by decide) (by omega) (by omega) ?_
  refine wp_aload_n dd_L_law_1561 rfl ?_
  refine wp_iload_n dd_L_law_1562 rfl ?_
  refine wp_iconst dd_L_law_1563 (zr_lit rfl) ?_
  refine wp_iaddC dd_L_law_1564 (by omega) ?_
  refine wp_ialdR dd_L_law_1565 kk_1001 (by decide) (by omega) (by omega) ?_
  refine wp_callV (M' := mm_X10_look) (As := [zI (mem 1001 (i + 1)), zI (mem 1001 (i + 2))]) (rest := []) dd_L_law_1566 lk_L_149 mV_X10_look kk_0 (zlt rfl) ⟨_, _, rfl⟩ rfl (by decide) (by decide) (Nat.le_of_ble_eq_true rfl) rfl (sp_X10_look  (mem 1001 (i + 1)) (mem 1001 (i + 2)) hI (fun r m1 hf => ?_))
  show zw_Wp l mm_L_law (zS L) 1569 [some (zR 1001), some (zR 0), some (zR 67), some (zI i)] [zJ r] m1 0 0 Q
  have hs : m1 1001 = mem 1001 := by
    rcases hf with ⟨-, -, z⟩ | ⟨-, z, -⟩
    · rw [z]; exact zCn.sc
    · rw [z]
  refine wp_aload_n dd_L_law_1569 rfl ?_
  refine wp_aload_n dd_L_law_1570 rfl ?_
  refine wp_iload_n dd_L_law_1571 rfl ?_
  refine wp_iconst dd_L_law_1572 (zr_lit rfl) ?_
  refine wp_iaddC dd_L_law_1573 (by omega) ?_
  refine wp_ialdR dd_L_law_1574 kk_1001 (by decide) (by omega) (by omega) ?_
  refine wp_aload_n dd_L_law_1575 rfl ?_
  refine wp_iload_n dd_L_law_1576 rfl ?_
  refine wp_iconst dd_L_law_1577 (zr_lit rfl) ?_
  refine wp_iaddC dd_L_law_1578 (by omega) ?_
  refine wp_ialdR dd_L_law_1579 kk_1001 (by decide) (by omega) (by omega) ?_
  rw [show (m1 1001 (i + 1) : Int) = mem 1001 (i + 1) from by rw [hs]]
  rw [show (m1 1001 (i + 2) : Int) = mem 1001 (i + 2) from by rw [hs]]
  refine wp_callV (M' := mm_X11_look) (As := [zI (mem 1001 (i + 1)), zI (mem 1001 (i + 2))]) (rest := [zJ r]) dd_L_law_1580 lk_L_152 mV_X11_look kk_67 (zlt rfl) ⟨_, _, rfl⟩ rfl (by decide) (by decide) (Nat.le_of_ble_eq_true rfl) rfl (rf_look  (mem 1001 (i + 1)) (mem 1001 (i + 2)) r hI hf (fun m2 hI2 => ?_))
  show zw_Wp l mm_L_law (zS L) 1583 [some (zR 1001), some (zR 0), some (zR 67), some (zI i)] [zJ r, zJ r] m2 0 0 Q
  refine wp_lcmp dd_L_law_1583 ?_
  refine wp_if_eq (tgt := 1789) dd_L_law_1584 (by decide) (fun c1584_1 => ?_) (fun c1584_1 => ?_)
  · skip
    refine ih1789 m2 ?_ ?_
    · assumption
    · omega
  · skip
    rw [lg_self] at *; omega

set_option maxRecDepth 100000 in
set_option maxHeartbeats 4000000 in
theorem lc_lays {l : Launch} {L : Nat} {mem : zMem} {Q : zQ} (i : Int) (hL : L ≤ 4096) (h0 : 0 ≤ i) (h1 : i + 8 ≤ (L : Int)) (hI : zInv mem) (ih1789 : ∀ mm : zMem, zInv mm → (0 : Int) < 1 → zw_Wp l mm_L_law (zS L) 1789 [some (zR 1001), some (zR 0), some (zR 67), some (zI i)] [] mm 0 0 Q) : zw_Wp l mm_L_law (zS L) 1589 [some (zR 1001), some (zR 0), some (zR 67), some (zI i)] [] mem 0 0 Q := by
  refine wp_aload_n dd_L_law_1589 rfl ?_
  refine wp_aload_n dd_L_law_1590 rfl ?_
  refine wp_iload_n dd_L_law_1591 rfl ?_
  refine wp_iconst dd_L_law_1592 (zr_lit rfl) ?_
  refine wp_iaddC dd_L_law_1593 (by omega) ?_
  refine wp_ialdR dd_L_law_1594 kk_1001 (by decide) (by omega) (by omega) ?_
  refine wp_aload_n dd_L_law_1595 rfl ?_
  refine wp_iload_n dd_L_law_1596 rfl ?_
  refine wp_iconst dd_L_law_1597 (zr_lit rfl) ?_
  refine wp_iaddC dd_L_law_1598 (by omega) ?_
  refine wp_ialdR dd_L_law_1599 kk_1001 (by decide) (by omega) (by omega) ?_
  refine wp_aload_n dd_L_law_1600 rfl ?_
  refine wp_iload_n dd_L_law_1601 rfl ?_
  refine wp_iconst dd_L_law_1602 (zr_lit rfl) ?_
  refine wp_iaddC dd_L_law_1603 (by omega) ?_
  refine wp_ialdR dd_L_law_1604 kk_1001 (by decide) (by omega) (by omega) ?_
  refine wp_aload_n dd_L_law_1605 rfl ?_
  refine wp_iload_n dd_L_law_1606 rfl ?_
  refine wp_iconst dd_L_law_1607 (zr_lit rfl) ?_
  refine wp_iaddC dd_L_law_1608 (by omega) ?_
  refine wp_ialdR dd_L_law_1609 kk_1001 (by decide) (by omega) (by omega) ?_
  refine wp_aload_n dd_L_law_1610 rfl ?_
  refine wp_iload_n dd_L_law_1611 rfl ?_
  refine wp_iconst dd_L_law_1612 (zr_lit rfl) ?_
  refine wp_iaddC dd_L_law_1613 (by omega) ?_
  refine wp_ialdR dd_L_law_1614 kk_1001 (by decide) (by omega) (by omega) ?_
  refine wp_aload_n dd_L_law_1615 rfl ?_
  refine wp_iload_n dd_L_law_1616 rfl ?_
  refine wp_bipush dd_L_law_1617 (by decide) ?_
  refine wp_iaddC dd_L_law_1619 (by omega) ?_
  refine wp_ialdR dd_L_law_1620 kk_1001 (by decide) (by omega) (by omega) ?_
  refine wp_callV (M' := mm_X10_lays) (As := [zI (mem 1001 (i + 1)), zI (mem 1001 (i + 2)), zI (mem 1001 (i + 3)), zI (mem 1001 (i + 4)), zI (mem 1001 (i + 5)), zI (mem 1001 (i + 6))]) (rest := []) dd_L_law_1621 lk_L_153 mV_X10_lays kk_0 (zlt rfl) ⟨_, _, rfl⟩ rfl (by decide) (by decide) (Nat.le_of_ble_eq_true rfl) rfl (sp_X10_lays  (mem 1001 (i + 1)) (mem 1001 (i + 2)) (mem 1001 (i + 3)) (mem 1001 (i + 4)) (mem 1001 (i + 5)) (mem 1001 (i + 6)) hI (fun r m1 hf => ?_))
  show zw_Wp l mm_L_law (zS L) 1624 [some (zR 1001), some (zR 0), some (zR 67), some (zI i)] [zI r] m1 0 0 Q
  have hs : m1 1001 = mem 1001 := by
    rcases hf with ⟨-, -, z⟩ | ⟨-, ⟨-, -, z⟩ | ⟨-, -, -, z⟩⟩
    · rw [z]; exact zCn.sc
    · rw [z]
    · exact z 1001 (by decide) (by decide)
  refine wp_aload_n dd_L_law_1624 rfl ?_
  refine wp_aload_n dd_L_law_1625 rfl ?_
  refine wp_iload_n dd_L_law_1626 rfl ?_
  refine wp_iconst dd_L_law_1627 (zr_lit rfl) ?_
  refine wp_iaddC dd_L_law_1628 (by omega) ?_
  refine wp_ialdR dd_L_law_1629 kk_1001 (by decide) (by omega) (by omega) ?_
  refine wp_aload_n dd_L_law_1630 rfl ?_
  refine wp_iload_n dd_L_law_1631 rfl ?_
  refine wp_iconst dd_L_law_1632 (zr_lit rfl) ?_
  refine wp_iaddC dd_L_law_1633 (by omega) ?_
  refine wp_ialdR dd_L_law_1634 kk_1001 (by decide) (by omega) (by omega) ?_
  refine wp_aload_n dd_L_law_1635 rfl ?_
  refine wp_iload_n dd_L_law_1636 rfl ?_
  refine wp_iconst dd_L_law_1637 (zr_lit rfl) ?_
  refine wp_iaddC dd_L_law_1638 (by omega) ?_
  refine wp_ialdR dd_L_law_1639 kk_1001 (by decide) (by omega) (by omega) ?_
  refine wp_aload_n dd_L_law_1640 rfl ?_
  refine wp_iload_n dd_L_law_1641 rfl ?_
  refine wp_iconst dd_L_law_1642 (zr_lit rfl) ?_
  refine wp_iaddC dd_L_law_1643 (by omega) ?_
  refine wp_ialdR dd_L_law_1644 kk_1001 (by decide) (by omega) (by omega) ?_
  refine wp_aload_n dd_L_law_1645 rfl ?_
  refine wp_iload_n dd_L_law_1646 rfl ?_
  refine wp_iconst dd_L_law_1647 (zr_lit rfl) ?_
  refine wp_iaddC dd_L_law_1648 (by omega) ?_
  refine wp_ialdR dd_L_law_1649 kk_1001 (by decide) (by omega) (by omega) ?_
  refine wp_aload_n dd_L_law_1650 rfl ?_
  refine wp_iload_n dd_L_law_1651 rfl ?_
  refine wp_bipush dd_L_law_1652 (by decide) ?_
  refine wp_iaddC dd_L_law_1654 (by omega) ?_
  refine wp_ialdR dd_L_law_1655 kk_1001 (by decide) (by omega) (by omega) ?_
  rw [show (m1 1001 (i + 1) : Int) = mem 1001 (i + 1) from by rw [hs]]
  rw [show (m1 1001 (i + 2) : Int) = mem 1001 (i + 2) from by rw [hs]]
  rw [show (m1 1001 (i + 3) : Int) = mem 1001 (i + 3) from by rw [hs]]
  rw [show (m1 1001 (i + 4) : Int) = mem 1001 (i + 4) from by rw [hs]]
  rw [show (m1 1001 (i + 5) : Int) = mem 1001 (i + 5) from by rw [hs]]
  rw [show (m1 1001 (i + 6) : Int) = mem 1001 (i + 6) from by rw [hs]]
  refine wp_callV (M' := mm_X11_lays) (As := [zI (mem 1001 (i + 1)), zI (mem 1001 (i + 2)), zI (mem 1001 (i + 3)), zI (mem 1001 (i + 4)), zI (mem 1001 (i + 5)), zI (mem 1001 (i + 6))]) (rest := [zI r]) dd_L_law_1656 lk_L_157 mV_X11_lays kk_67 (zlt rfl) ⟨_, _, rfl⟩ rfl (by decide) (by decide) (Nat.le_of_ble_eq_true rfl) rfl (rf_lays  (mem 1001 (i + 1)) (mem 1001 (i + 2)) (mem 1001 (i + 3)) (mem 1001 (i + 4)) (mem 1001 (i + 5)) (mem 1001 (i + 6)) r hI hf (fun m2 hI2 => ?_))
  show zw_Wp l mm_L_law (zS L) 1659 [some (zR 1001), some (zR 0), some (zR 67), some (zI i)] [zI r, zI r] m2 0 0 Q
  refine wp_icmp_eq (tgt := 1789) dd_L_law_1659 (by decide) (fun c1659_1 => ?_) (fun c1659_1 => ?_)
  · skip
    refine ih1789 m2 ?_ ?_
    · assumption
    · omega
  · skip
    exfalso; omega

set_option maxRecDepth 100000 in
set_option maxHeartbeats 4000000 in
theorem lc_judge {l : Launch} {L : Nat} {mem : zMem} {Q : zQ} (i : Int) (hL : L ≤ 4096) (h0 : 0 ≤ i) (h1 : i + 8 ≤ (L : Int)) (hI : zInv mem) (ih1789 : ∀ mm : zMem, zInv mm → (0 : Int) < 1 → zw_Wp l mm_L_law (zS L) 1789 [some (zR 1001), some (zR 0), some (zR 67), some (zI i)] [] mm 0 0 Q) : zw_Wp l mm_L_law (zS L) 1664 [some (zR 1001), some (zR 0), some (zR 67), some (zI i)] [] mem 0 0 Q := by
  refine wp_aload_n dd_L_law_1664 rfl ?_
  refine wp_aload_n dd_L_law_1665 rfl ?_
  refine wp_iload_n dd_L_law_1666 rfl ?_
  refine wp_iconst dd_L_law_1667 (zr_lit rfl) ?_
  refine wp_iaddC dd_L_law_1668 (by omega) ?_
  refine wp_ialdR dd_L_law_1669 kk_1001 (by decide) (by omega) (by omega) ?_
  refine wp_aload_n dd_L_law_1670 rfl ?_
  refine wp_iload_n dd_L_law_1671 rfl ?_
  refine wp_iconst dd_L_law_1672 (zr_lit rfl) ?_
  refine wp_iaddC dd_L_law_1673 (by omega) ?_
  refine wp_ialdR dd_L_law_1674 kk_1001 (by decide) (by omega) (by omega) ?_
  refine wp_aload_n dd_L_law_1675 rfl ?_
  refine wp_iload_n dd_L_law_1676 rfl ?_
  refine wp_iconst dd_L_law_1677 (zr_lit rfl) ?_
  refine wp_iaddC dd_L_law_1678 (by omega) ?_
  refine wp_ialdR dd_L_law_1679 kk_1001 (by decide) (by omega) (by omega) ?_
  refine wp_aload_n dd_L_law_1680 rfl ?_
  refine wp_iload_n dd_L_law_1681 rfl ?_
  refine wp_iconst dd_L_law_1682 (zr_lit rfl) ?_
  refine wp_iaddC dd_L_law_1683 (by omega) ?_
  refine wp_ialdR dd_L_law_1684 kk_1001 (by decide) (by omega) (by omega) ?_
  refine wp_aload_n dd_L_law_1685 rfl ?_
  refine wp_iload_n dd_L_law_1686 rfl ?_
  refine wp_iconst dd_L_law_1687 (zr_lit rfl) ?_
  refine wp_iaddC dd_L_law_1688 (by omega) ?_
  refine wp_ialdR dd_L_law_1689 kk_1001 (by decide) (by omega) (by omega) ?_
  refine wp_callV (M' := mm_X10_judge) (As := [zI (mem 1001 (i + 1)), zI (mem 1001 (i + 2)), zI (mem 1001 (i + 3)), zI (mem 1001 (i + 4)), zI (mem 1001 (i + 5))]) (rest := []) dd_L_law_1690 lk_L_158 mV_X10_judge kk_0 (zlt rfl) ⟨_, _, rfl⟩ rfl (by decide) (by decide) (Nat.le_of_ble_eq_true rfl) rfl (sp_X10_judge  (mem 1001 (i + 1)) (mem 1001 (i + 2)) (mem 1001 (i + 3)) (mem 1001 (i + 4)) (mem 1001 (i + 5)) hI (fun r m1 hf => ?_))
  show zw_Wp l mm_L_law (zS L) 1693 [some (zR 1001), some (zR 0), some (zR 67), some (zI i)] [zI r] m1 0 0 Q
  have hs : m1 1001 = mem 1001 := by
    rcases hf with ⟨-, -, z⟩ | ⟨-, ⟨-, -, z⟩ | ⟨-, -, z⟩⟩
    · rw [z]; exact zCn.sc
    · rw [z]
    · exact z 1001 (by decide)
  refine wp_aload_n dd_L_law_1693 rfl ?_
  refine wp_aload_n dd_L_law_1694 rfl ?_
  refine wp_iload_n dd_L_law_1695 rfl ?_
  refine wp_iconst dd_L_law_1696 (zr_lit rfl) ?_
  refine wp_iaddC dd_L_law_1697 (by omega) ?_
  refine wp_ialdR dd_L_law_1698 kk_1001 (by decide) (by omega) (by omega) ?_
  refine wp_aload_n dd_L_law_1699 rfl ?_
  refine wp_iload_n dd_L_law_1700 rfl ?_
  refine wp_iconst dd_L_law_1701 (zr_lit rfl) ?_
  refine wp_iaddC dd_L_law_1702 (by omega) ?_
  refine wp_ialdR dd_L_law_1703 kk_1001 (by decide) (by omega) (by omega) ?_
  refine wp_aload_n dd_L_law_1704 rfl ?_
  refine wp_iload_n dd_L_law_1705 rfl ?_
  refine wp_iconst dd_L_law_1706 (zr_lit rfl) ?_
  refine wp_iaddC dd_L_law_1707 (by omega) ?_
  refine wp_ialdR dd_L_law_1708 kk_1001 (by decide) (by omega) (by omega) ?_
  refine wp_aload_n dd_L_law_1709 rfl ?_
  refine wp_iload_n dd_L_law_1710 rfl ?_
  refine wp_iconst dd_L_law_1711 (zr_lit rfl) ?_
  refine wp_iaddC dd_L_law_1712 (by omega) ?_
  refine wp_ialdR dd_L_law_1713 kk_1001 (by decide) (by omega) (by omega) ?_
  refine wp_aload_n dd_L_law_1714 rfl ?_
  refine wp_iload_n dd_L_law_1715 rfl ?_
  refine wp_iconst dd_L_law_1716 (zr_lit rfl) ?_
  refine wp_iaddC dd_L_law_1717 (by omega) ?_
  refine wp_ialdR dd_L_law_1718 kk_1001 (by decide) (by omega) (by omega) ?_
  rw [show (m1 1001 (i + 1) : Int) = mem 1001 (i + 1) from by rw [hs]]
  rw [show (m1 1001 (i + 2) : Int) = mem 1001 (i + 2) from by rw [hs]]
  rw [show (m1 1001 (i + 3) : Int) = mem 1001 (i + 3) from by rw [hs]]
  rw [show (m1 1001 (i + 4) : Int) = mem 1001 (i + 4) from by rw [hs]]
  rw [show (m1 1001 (i + 5) : Int) = mem 1001 (i + 5) from by rw [hs]]
  refine wp_callV (M' := mm_X11_judge) (As := [zI (mem 1001 (i + 1)), zI (mem 1001 (i + 2)), zI (mem 1001 (i + 3)), zI (mem 1001 (i + 4)), zI (mem 1001 (i + 5))]) (rest := [zI r]) dd_L_law_1719 lk_L_161 mV_X11_judge kk_67 (zlt rfl) ⟨_, _, rfl⟩ rfl (by decide) (by decide) (Nat.le_of_ble_eq_true rfl) rfl (rf_judge  (mem 1001 (i + 1)) (mem 1001 (i + 2)) (mem 1001 (i + 3)) (mem 1001 (i + 4)) (mem 1001 (i + 5)) r hI hf (fun m2 hI2 => ?_))
  show zw_Wp l mm_L_law (zS L) 1722 [some (zR 1001), some (zR 0), some (zR 67), some (zI i)] [zI r, zI r] m2 0 0 Q
  refine wp_icmp_eq (tgt := 1789) dd_L_law_1722 (by decide) (fun c1722_1 => ?_) (fun c1722_1 => ?_)
  · skip
    refine ih1789 m2 ?_ ?_
    · assumption
    · omega
  · skip
    exfalso; omega

set_option maxRecDepth 100000 in
set_option maxHeartbeats 4000000 in
theorem lc_undo {l : Launch} {L : Nat} {mem : zMem} {Q : zQ} (i : Int) (hL : L ≤ 4096) (h0 : 0 ≤ i) (h1 : i + 8 ≤ (L : Int)) (hI : zInv mem) (ih1789 : ∀ mm : zMem, zInv mm → (0 : Int) < 1 → zw_Wp l mm_L_law (zS L) 1789 [some (zR 1001), some (zR 0), some (zR 67), some (zI i)] [] mm 0 0 Q) : zw_Wp l mm_L_law (zS L) 1727 [some (zR 1001), some (zR 0), some (zR 67), some (zI i)] [] mem 0 0 Q := by
  refine wp_aload_n dd_L_law_1727 rfl ?_
  refine wp_callV (M' := mm_X10_undo) (As := []) (rest := []) dd_L_law_1728 lk_L_162 mV_X10_undo kk_0 (zlt rfl) ⟨_, _, rfl⟩ rfl (by decide) (by decide) (Nat.le_of_ble_eq_true rfl) rfl (sp_X10_undo   hI (fun r m1 hf => ?_))
  show zw_Wp l mm_L_law (zS L) 1731 [some (zR 1001), some (zR 0), some (zR 67), some (zI i)] [zI r] m1 0 0 Q
  refine wp_aload_n dd_L_law_1731 rfl ?_
  refine wp_callV (M' := mm_X11_undo) (As := []) (rest := [zI r]) dd_L_law_1732 lk_L_165 mV_X11_undo kk_67 (zlt rfl) ⟨_, _, rfl⟩ rfl (by decide) (by decide) (Nat.le_of_ble_eq_true rfl) rfl (rf_undo   r hI hf (fun m2 hI2 => ?_))
  show zw_Wp l mm_L_law (zS L) 1735 [some (zR 1001), some (zR 0), some (zR 67), some (zI i)] [zI r, zI r] m2 0 0 Q
  refine wp_icmp_eq (tgt := 1789) dd_L_law_1735 (by decide) (fun c1735_1 => ?_) (fun c1735_1 => ?_)
  · skip
    refine ih1789 m2 ?_ ?_
    · assumption
    · omega
  · skip
    exfalso; omega

set_option maxRecDepth 100000 in
set_option maxHeartbeats 4000000 in
theorem lc_image {l : Launch} {L : Nat} {mem : zMem} {Q : zQ} (i : Int) (hL : L ≤ 4096) (h0 : 0 ≤ i) (h1 : i + 8 ≤ (L : Int)) (hI : zInv mem) (ih1789 : ∀ mm : zMem, zInv mm → (0 : Int) < 1 → zw_Wp l mm_L_law (zS L) 1789 [some (zR 1001), some (zR 0), some (zR 67), some (zI i)] [] mm 0 0 Q) : zw_Wp l mm_L_law (zS L) 1740 [some (zR 1001), some (zR 0), some (zR 67), some (zI i)] [] mem 0 0 Q := by
  refine wp_aload_n dd_L_law_1740 rfl ?_
  refine wp_callV (M' := mm_X10_image) (As := []) (rest := []) dd_L_law_1741 lk_L_166 mV_X10_image kk_0 (zlt rfl) ⟨_, _, rfl⟩ rfl (by decide) (by decide) (Nat.le_of_ble_eq_true rfl) rfl (sp_X10_image   hI (fun r m1 hf hc h0_ hr => ?_))
  show zw_Wp l mm_L_law (zS L) 1744 [some (zR 1001), some (zR 0), some (zR 67), some (zI i)] [zI r] m1 0 0 Q
  refine wp_aload_n dd_L_law_1744 rfl ?_
  refine wp_callV (M' := mm_X11_image) (As := []) (rest := [zI r]) dd_L_law_1745 lk_L_169 mV_X11_image kk_67 (zlt rfl) ⟨_, _, rfl⟩ rfl (by decide) (by decide) (Nat.le_of_ble_eq_true rfl) rfl (rf_image   r hI ⟨hf, hc, h0_, hr⟩ (fun m2 hI2 => ?_))
  show zw_Wp l mm_L_law (zS L) 1748 [some (zR 1001), some (zR 0), some (zR 67), some (zI i)] [zI r, zI r] m2 0 0 Q
  refine wp_icmp_eq (tgt := 1789) dd_L_law_1748 (by decide) (fun c1748_1 => ?_) (fun c1748_1 => ?_)
  · skip
    refine ih1789 m2 ?_ ?_
    · assumption
    · omega
  · skip
    exfalso; omega

set_option maxRecDepth 100000 in
set_option maxHeartbeats 4000000 in
theorem lc_on {l : Launch} {L : Nat} {mem : zMem} {Q : zQ} (i : Int) (hL : L ≤ 4096) (h0 : 0 ≤ i) (h1 : i + 8 ≤ (L : Int)) (hI : zInv mem) (ih1789 : ∀ mm : zMem, zInv mm → (0 : Int) < 1 → zw_Wp l mm_L_law (zS L) 1789 [some (zR 1001), some (zR 0), some (zR 67), some (zI i)] [] mm 0 0 Q) : zw_Wp l mm_L_law (zS L) 1753 [some (zR 1001), some (zR 0), some (zR 67), some (zI i)] [] mem 0 0 Q := by
  refine wp_aload_n dd_L_law_1753 rfl ?_
  refine wp_callV (M' := mm_X10_on) (As := []) (rest := []) dd_L_law_1754 lk_L_170 mV_X10_on kk_0 (zlt rfl) ⟨_, _, rfl⟩ rfl (by decide) (by decide) (Nat.le_of_ble_eq_true rfl) rfl (sp_X10_on   hI (fun r m1 hf => ?_))
  show zw_Wp l mm_L_law (zS L) 1757 [some (zR 1001), some (zR 0), some (zR 67), some (zI i)] [zI r] m1 0 0 Q
  refine wp_aload_n dd_L_law_1757 rfl ?_
  refine wp_callV (M' := mm_X11_on) (As := []) (rest := [zI r]) dd_L_law_1758 lk_L_173 mV_X11_on kk_67 (zlt rfl) ⟨_, _, rfl⟩ rfl (by decide) (by decide) (Nat.le_of_ble_eq_true rfl) rfl (rf_on   r hI hf (fun m2 hI2 => ?_))
  show zw_Wp l mm_L_law (zS L) 1761 [some (zR 1001), some (zR 0), some (zR 67), some (zI i)] [zI r, zI r] m2 0 0 Q
  refine wp_icmp_eq (tgt := 1789) dd_L_law_1761 (by decide) (fun c1761_1 => ?_) (fun c1761_1 => ?_)
  · skip
    refine ih1789 m2 ?_ ?_
    · assumption
    · omega
  · skip
    exfalso; omega

set_option maxRecDepth 100000 in
set_option maxHeartbeats 4000000 in
theorem lc_count {l : Launch} {L : Nat} {mem : zMem} {Q : zQ} (i : Int) (hL : L ≤ 4096) (h0 : 0 ≤ i) (h1 : i + 8 ≤ (L : Int)) (hI : zInv mem) (ih1789 : ∀ mm : zMem, zInv mm → (0 : Int) < 1 → zw_Wp l mm_L_law (zS L) 1789 [some (zR 1001), some (zR 0), some (zR 67), some (zI i)] [] mm 0 0 Q) : zw_Wp l mm_L_law (zS L) 1766 [some (zR 1001), some (zR 0), some (zR 67), some (zI i)] [] mem 0 0 Q := by
  refine wp_aload_n dd_L_law_1766 rfl ?_
  refine wp_aload_n dd_L_law_1767 rfl ?_
  refine wp_iload_n dd_L_law_1768 rfl ?_
  refine wp_iconst dd_L_law_1769 (zr_lit rfl) ?_
  refine wp_iaddC dd_L_law_1770 (by omega) ?_
  refine wp_ialdR dd_L_law_1771 kk_1001 (by decide) (by omega) (by omega) ?_
  refine wp_callV (M' := mm_X10_count) (As := [zI (mem 1001 (i + 1))]) (rest := []) dd_L_law_1772 lk_L_174 mV_X10_count kk_0 (zlt rfl) ⟨_, _, rfl⟩ rfl (by decide) (by decide) (Nat.le_of_ble_eq_true rfl) rfl (sp_X10_count  (mem 1001 (i + 1)) hI (fun r hf => ?_))
  show zw_Wp l mm_L_law (zS L) 1775 [some (zR 1001), some (zR 0), some (zR 67), some (zI i)] [zI r] mem 0 0 Q
  refine wp_aload_n dd_L_law_1775 rfl ?_
  refine wp_aload_n dd_L_law_1776 rfl ?_
  refine wp_iload_n dd_L_law_1777 rfl ?_
  refine wp_iconst dd_L_law_1778 (zr_lit rfl) ?_
  refine wp_iaddC dd_L_law_1779 (by omega) ?_
  refine wp_ialdR dd_L_law_1780 kk_1001 (by decide) (by omega) (by omega) ?_
  refine wp_callV (M' := mm_X11_count) (As := [zI (mem 1001 (i + 1))]) (rest := [zI r]) dd_L_law_1781 lk_L_177 mV_X11_count kk_67 (zlt rfl) ⟨_, _, rfl⟩ rfl (by decide) (by decide) (Nat.le_of_ble_eq_true rfl) rfl (rf_count  (mem 1001 (i + 1)) r hI hf ?_)
  show zw_Wp l mm_L_law (zS L) 1784 [some (zR 1001), some (zR 0), some (zR 67), some (zI i)] [zI r, zI r] mem 0 0 Q
  refine wp_icmp_eq (tgt := 1789) dd_L_law_1784 (by decide) (fun c1784_1 => ?_) (fun c1784_1 => ?_)
  · skip
    refine ih1789 mem ?_ ?_
    · assumption
    · omega
  · skip
    exfalso; omega

