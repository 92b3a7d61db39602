theorem cv_4_279 : kp_CV RX4 279 yX4_begin cX4_begin 4 (some (.object "LockKeepers$Part")) 2 4 := ⟨⟨kp_mem 1398 (by decide +kernel) (by decide +kernel), kp_mem 216 (by decide +kernel) (by decide +kernel), by decide +kernel⟩, kp_mem 1395 (by decide +kernel) (by decide +kernel), kp_mem 1397 (by decide +kernel) (by decide +kernel), kp_mem 66 (by decide +kernel) (by decide +kernel), by decide, TX4, 15, rfl⟩
theorem fp_4_296 : kp_FP RX4 296 6 4 := ⟨RX6, TX6, 9, cl_6, by decide, kp_mem 548 (by decide +kernel) (by decide +kernel), rfl⟩
theorem cv_4_293 : kp_CV RX4 293 yX1_addHold cX1_addHold 3 (some .int) 2 1 := ⟨⟨kp_mem 1546 (by decide +kernel) (by decide +kernel), kp_mem 214 (by decide +kernel) (by decide +kernel), by decide +kernel⟩, kp_mem 1543 (by decide +kernel) (by decide +kernel), kp_mem 1544 (by decide +kernel) (by decide +kernel), kp_mem 1545 (by decide +kernel) (by decide +kernel), by decide, TX1, 5, rfl⟩
theorem cv_4_299 : kp_CV RX4 299 yX3_pledge cX3_pledge 2 (some .boolean) 1 3 := ⟨⟨kp_mem 1562 (by decide +kernel) (by decide +kernel), kp_mem 218 (by decide +kernel) (by decide +kernel), by decide +kernel⟩, kp_mem 1559 (by decide +kernel) (by decide +kernel), kp_mem 1560 (by decide +kernel) (by decide +kernel), kp_mem 1561 (by decide +kernel) (by decide +kernel), by decide, TX3, 5, rfl⟩
theorem fp_4_303 : kp_FP RX4 303 6 5 := ⟨RX6, TX6, 9, cl_6, by decide, kp_mem 549 (by decide +kernel) (by decide +kernel), rfl⟩
theorem fp_4_306 : kp_FP RX4 306 6 6 := ⟨RX6, TX6, 9, cl_6, by decide, kp_mem 550 (by decide +kernel) (by decide +kernel), rfl⟩
theorem cv_4_309 : kp_CV RX4 309 yX0_entry cX0_entry 2 (some .int) 1 0 := ⟨⟨kp_mem 1406 (by decide +kernel) (by decide +kernel), kp_mem 205 (by decide +kernel) (by decide +kernel), by decide +kernel⟩, kp_mem 1403 (by decide +kernel) (by decide +kernel), kp_mem 1404 (by decide +kernel) (by decide +kernel), kp_mem 1405 (by decide +kernel) (by decide +kernel), by decide, TX0, 4, rfl⟩
theorem cv_4_302 : kp_CV RX4 302 yX3_clear cX3_clear 2 none 0 3 := ⟨⟨kp_mem 1386 (by decide +kernel) (by decide +kernel), kp_mem 218 (by decide +kernel) (by decide +kernel), by decide +kernel⟩, kp_mem 1383 (by decide +kernel) (by decide +kernel), kp_mem 1384 (by decide +kernel) (by decide +kernel), kp_mem 1385 (by decide +kernel) (by decide +kernel), by decide, TX3, 5, rfl⟩
theorem cv_4_79 : kp_CV RX4 79 yX0_parameters cX0_parameters 2 (some .int) 1 0 := ⟨⟨kp_mem 1354 (by decide +kernel) (by decide +kernel), kp_mem 205 (by decide +kernel) (by decide +kernel), by decide +kernel⟩, kp_mem 1351 (by decide +kernel) (by decide +kernel), kp_mem 1352 (by decide +kernel) (by decide +kernel), kp_mem 1353 (by decide +kernel) (by decide +kernel), by decide, TX0, 4, rfl⟩
theorem cv_4_276 : kp_CV RX4 276 yX4_hold cX4_hold 4 none 2 4 := ⟨⟨kp_mem 1542 (by decide +kernel) (by decide +kernel), kp_mem 216 (by decide +kernel) (by decide +kernel), by decide +kernel⟩, kp_mem 1539 (by decide +kernel) (by decide +kernel), kp_mem 1541 (by decide +kernel) (by decide +kernel), kp_mem 87 (by decide +kernel) (by decide +kernel), by decide, TX4, 15, rfl⟩
theorem cv_4_283 : kp_CV RX4 283 yX4_mended cX4_mended 2 none 1 4 := ⟨⟨kp_mem 1550 (by decide +kernel) (by decide +kernel), kp_mem 216 (by decide +kernel) (by decide +kernel), by decide +kernel⟩, kp_mem 1547 (by decide +kernel) (by decide +kernel), kp_mem 1549 (by decide +kernel) (by decide +kernel), kp_mem 88 (by decide +kernel) (by decide +kernel), by decide, TX4, 15, rfl⟩
theorem cv_4_287 : kp_CV RX4 287 yX4_ensured cX4_ensured 2 none 1 4 := ⟨⟨kp_mem 1554 (by decide +kernel) (by decide +kernel), kp_mem 216 (by decide +kernel) (by decide +kernel), by decide +kernel⟩, kp_mem 1551 (by decide +kernel) (by decide +kernel), kp_mem 1553 (by decide +kernel) (by decide +kernel), kp_mem 89 (by decide +kernel) (by decide +kernel), by decide, TX4, 15, rfl⟩
theorem cv_4_290 : kp_CV RX4 290 yX4_pledge cX4_pledge 2 none 1 4 := ⟨⟨kp_mem 1558 (by decide +kernel) (by decide +kernel), kp_mem 216 (by decide +kernel) (by decide +kernel), by decide +kernel⟩, kp_mem 1555 (by decide +kernel) (by decide +kernel), kp_mem 1557 (by decide +kernel) (by decide +kernel), kp_mem 90 (by decide +kernel) (by decide +kernel), by decide, TX4, 15, rfl⟩
theorem cv_4_89 : kp_CV RX4 89 yX4_call cX4_call 4 none 1 4 := ⟨⟨kp_mem 1362 (by decide +kernel) (by decide +kernel), kp_mem 216 (by decide +kernel) (by decide +kernel), by decide +kernel⟩, kp_mem 1359 (by decide +kernel) (by decide +kernel), kp_mem 1361 (by decide +kernel) (by decide +kernel), kp_mem 61 (by decide +kernel) (by decide +kernel), by decide, TX4, 15, rfl⟩
theorem fp_4_93 : kp_FP RX4 93 10 0 := ⟨RX10, TX10, 4, cl_10, by decide, kp_mem 498 (by decide +kernel) (by decide +kernel), rfl⟩
theorem cv_4_331 : kp_CV RX4 331 yX4_goOn cX4_goOn 3 none 2 4 := ⟨⟨kp_mem 1578 (by decide +kernel) (by decide +kernel), kp_mem 216 (by decide +kernel) (by decide +kernel), by decide +kernel⟩, kp_mem 1575 (by decide +kernel) (by decide +kernel), kp_mem 1577 (by decide +kernel) (by decide +kernel), kp_mem 94 (by decide +kernel) (by decide +kernel), by decide, TX4, 15, rfl⟩
theorem cv_4_327 : kp_CV RX4 327 yX10_copy cX10_copy 2 none 1 10 := ⟨⟨kp_mem 1594 (by decide +kernel) (by decide +kernel), kp_mem 217 (by decide +kernel) (by decide +kernel), by decide +kernel⟩, kp_mem 1591 (by decide +kernel) (by decide +kernel), kp_mem 1592 (by decide +kernel) (by decide +kernel), kp_mem 1593 (by decide +kernel) (by decide +kernel), by decide, TX10, 4, rfl⟩
theorem cv_4_335 : kp_CV RX4 335 yX4_leave cX4_leave 3 none 2 4 := ⟨⟨kp_mem 1574 (by decide +kernel) (by decide +kernel), kp_mem 216 (by decide +kernel) (by decide +kernel), by decide +kernel⟩, kp_mem 1571 (by decide +kernel) (by decide +kernel), kp_mem 1573 (by decide +kernel) (by decide +kernel), kp_mem 93 (by decide +kernel) (by decide +kernel), by decide, TX4, 15, rfl⟩
theorem cv_4_338 : kp_CV RX4 338 yX4_keepWay cX4_keepWay 4 none 3 4 := ⟨⟨kp_mem 1590 (by decide +kernel) (by decide +kernel), kp_mem 216 (by decide +kernel) (by decide +kernel), by decide +kernel⟩, kp_mem 1587 (by decide +kernel) (by decide +kernel), kp_mem 1589 (by decide +kernel) (by decide +kernel), kp_mem 97 (by decide +kernel) (by decide +kernel), by decide, TX4, 15, rfl⟩
theorem cv_4_342 : kp_CV RX4 342 yX4_beginAlways cX4_beginAlways 3 (some .boolean) 1 4 := ⟨⟨kp_mem 1586 (by decide +kernel) (by decide +kernel), kp_mem 216 (by decide +kernel) (by decide +kernel), by decide +kernel⟩, kp_mem 1583 (by decide +kernel) (by decide +kernel), kp_mem 1585 (by decide +kernel) (by decide +kernel), kp_mem 96 (by decide +kernel) (by decide +kernel), by decide, TX4, 15, rfl⟩
theorem cv_4_346 : kp_CV RX4 346 yX4_takeWayBack cX4_takeWayBack 2 none 1 4 := ⟨⟨kp_mem 1598 (by decide +kernel) (by decide +kernel), kp_mem 216 (by decide +kernel) (by decide +kernel), by decide +kernel⟩, kp_mem 1595 (by decide +kernel) (by decide +kernel), kp_mem 1597 (by decide +kernel) (by decide +kernel), kp_mem 98 (by decide +kernel) (by decide +kernel), by decide, TX4, 15, rfl⟩
theorem cv_4_349 : kp_CV RX4 349 yX3_hasLater cX3_hasLater 1 (some .boolean) 0 3 := ⟨⟨kp_mem 1614 (by decide +kernel) (by decide +kernel), kp_mem 218 (by decide +kernel) (by decide +kernel), by decide +kernel⟩, kp_mem 1611 (by decide +kernel) (by decide +kernel), kp_mem 1612 (by decide +kernel) (by decide +kernel), kp_mem 1613 (by decide +kernel) (by decide +kernel), by decide, TX3, 5, rfl⟩
theorem cv_4_355 : kp_CV RX4 355 yX4_endCall cX4_endCall 4 none 1 4 := ⟨⟨kp_mem 1623 (by decide +kernel) (by decide +kernel), kp_mem 216 (by decide +kernel) (by decide +kernel), by decide +kernel⟩, kp_mem 1620 (by decide +kernel) (by decide +kernel), kp_mem 1622 (by decide +kernel) (by decide +kernel), kp_mem 102 (by decide +kernel) (by decide +kernel), by decide, TX4, 15, rfl⟩
theorem cv_4_352 : kp_CV RX4 352 yX3_takeLater cX3_takeLater 1 (some .int) 0 3 := ⟨⟨kp_mem 1618 (by decide +kernel) (by decide +kernel), kp_mem 218 (by decide +kernel) (by decide +kernel), by decide +kernel⟩, kp_mem 1615 (by decide +kernel) (by decide +kernel), kp_mem 1616 (by decide +kernel) (by decide +kernel), kp_mem 1617 (by decide +kernel) (by decide +kernel), by decide, TX3, 5, rfl⟩
theorem cv_4_324 : kp_CV RX4 324 yX4_leaveCall cX4_leaveCall 3 none 1 4 := ⟨⟨kp_mem 1610 (by decide +kernel) (by decide +kernel), kp_mem 216 (by decide +kernel) (by decide +kernel), by decide +kernel⟩, kp_mem 1607 (by decide +kernel) (by decide +kernel), kp_mem 1609 (by decide +kernel) (by decide +kernel), kp_mem 101 (by decide +kernel) (by decide +kernel), by decide, TX4, 15, rfl⟩
theorem cv_4_312 : kp_CV RX4 312 yX4_leaveHold cX4_leaveHold 2 none 1 4 := ⟨⟨kp_mem 1570 (by decide +kernel) (by decide +kernel), kp_mem 216 (by decide +kernel) (by decide +kernel), by decide +kernel⟩, kp_mem 1567 (by decide +kernel) (by decide +kernel), kp_mem 1569 (by decide +kernel) (by decide +kernel), kp_mem 92 (by decide +kernel) (by decide +kernel), by decide, TX4, 15, rfl⟩
theorem cv_4_315 : kp_CV RX4 315 yX4_leaveRound cX4_leaveRound 3 none 1 4 := ⟨⟨kp_mem 1582 (by decide +kernel) (by decide +kernel), kp_mem 216 (by decide +kernel) (by decide +kernel), by decide +kernel⟩, kp_mem 1579 (by decide +kernel) (by decide +kernel), kp_mem 1581 (by decide +kernel) (by decide +kernel), kp_mem 95 (by decide +kernel) (by decide +kernel), by decide, TX4, 15, rfl⟩
theorem cv_4_318 : kp_CV RX4 318 yX4_leaveTry cX4_leaveTry 3 none 1 4 := ⟨⟨kp_mem 1602 (by decide +kernel) (by decide +kernel), kp_mem 216 (by decide +kernel) (by decide +kernel), by decide +kernel⟩, kp_mem 1599 (by decide +kernel) (by decide +kernel), kp_mem 1601 (by decide +kernel) (by decide +kernel), kp_mem 99 (by decide +kernel) (by decide +kernel), by decide, TX4, 15, rfl⟩
theorem cv_4_321 : kp_CV RX4 321 yX4_leaveEnsure cX4_leaveEnsure 2 none 1 4 := ⟨⟨kp_mem 1606 (by decide +kernel) (by decide +kernel), kp_mem 216 (by decide +kernel) (by decide +kernel), by decide +kernel⟩, kp_mem 1603 (by decide +kernel) (by decide +kernel), kp_mem 1605 (by decide +kernel) (by decide +kernel), kp_mem 100 (by decide +kernel) (by decide +kernel), by decide, TX4, 15, rfl⟩
theorem cv_4_142 : kp_CV RX4 142 yX4_beginOrEnd cX4_beginOrEnd 3 none 1 4 := ⟨⟨kp_mem 1538 (by decide +kernel) (by decide +kernel), kp_mem 216 (by decide +kernel) (by decide +kernel), by decide +kernel⟩, kp_mem 1535 (by decide +kernel) (by decide +kernel), kp_mem 1537 (by decide +kernel) (by decide +kernel), kp_mem 86 (by decide +kernel) (by decide +kernel), by decide, TX4, 15, rfl⟩
theorem cv_4_139 : kp_CV RX4 139 yX4_order cX4_order 2 none 1 4 := ⟨⟨kp_mem 1480 (by decide +kernel) (by decide +kernel), kp_mem 216 (by decide +kernel) (by decide +kernel), by decide +kernel⟩, kp_mem 1477 (by decide +kernel) (by decide +kernel), kp_mem 1479 (by decide +kernel) (by decide +kernel), kp_mem 81 (by decide +kernel) (by decide +kernel), by decide, TX4, 15, rfl⟩
theorem cv_4_136 : kp_CV RX4 136 yX4_flow cX4_flow 3 none 1 4 := ⟨⟨kp_mem 1451 (by decide +kernel) (by decide +kernel), kp_mem 216 (by decide +kernel) (by decide +kernel), by decide +kernel⟩, kp_mem 1448 (by decide +kernel) (by decide +kernel), kp_mem 1450 (by decide +kernel) (by decide +kernel), kp_mem 74 (by decide +kernel) (by decide +kernel), by decide, TX4, 15, rfl⟩
theorem cv_4_133 : kp_CV RX4 133 yX4_workQuery cX4_workQuery 4 none 1 4 := ⟨⟨kp_mem 1439 (by decide +kernel) (by decide +kernel), kp_mem 216 (by decide +kernel) (by decide +kernel), by decide +kernel⟩, kp_mem 1436 (by decide +kernel) (by decide +kernel), kp_mem 1438 (by decide +kernel) (by decide +kernel), kp_mem 73 (by decide +kernel) (by decide +kernel), by decide, TX4, 15, rfl⟩
theorem cv_4_130 : kp_CV RX4 130 yX4_workPair cX4_workPair 4 none 1 4 := ⟨⟨kp_mem 1431 (by decide +kernel) (by decide +kernel), kp_mem 216 (by decide +kernel) (by decide +kernel), by decide +kernel⟩, kp_mem 1428 (by decide +kernel) (by decide +kernel), kp_mem 1430 (by decide +kernel) (by decide +kernel), kp_mem 71 (by decide +kernel) (by decide +kernel), by decide, TX4, 15, rfl⟩
theorem cv_4_127 : kp_CV RX4 127 yX4_workSingle cX4_workSingle 2 none 1 4 := ⟨⟨kp_mem 1423 (by decide +kernel) (by decide +kernel), kp_mem 216 (by decide +kernel) (by decide +kernel), by decide +kernel⟩, kp_mem 1420 (by decide +kernel) (by decide +kernel), kp_mem 1422 (by decide +kernel) (by decide +kernel), kp_mem 70 (by decide +kernel) (by decide +kernel), by decide, TX4, 15, rfl⟩
theorem cv_4_105 : kp_CV RX4 105 yX7_set cX7_set 3 none 2 7 := ⟨⟨kp_mem 1631 (by decide +kernel) (by decide +kernel), kp_mem 215 (by decide +kernel) (by decide +kernel), by decide +kernel⟩, kp_mem 1628 (by decide +kernel) (by decide +kernel), kp_mem 1629 (by decide +kernel) (by decide +kernel), kp_mem 1630 (by decide +kernel) (by decide +kernel), by decide, TX7, 3, rfl⟩
theorem cv_4_108 : kp_CV RX4 108 yX7_get cX7_get 2 (some .int) 1 7 := ⟨⟨kp_mem 1219 (by decide +kernel) (by decide +kernel), kp_mem 215 (by decide +kernel) (by decide +kernel), by decide +kernel⟩, kp_mem 1632 (by decide +kernel) (by decide +kernel), kp_mem 1217 (by decide +kernel) (by decide +kernel), kp_mem 1218 (by decide +kernel) (by decide +kernel), by decide, TX7, 3, rfl⟩
theorem cv_4_118 : kp_CV RX4 118 yX1_dropHolds cX1_dropHolds 2 none 0 1 := ⟨⟨kp_mem 1636 (by decide +kernel) (by decide +kernel), kp_mem 214 (by decide +kernel) (by decide +kernel), by decide +kernel⟩, kp_mem 1633 (by decide +kernel) (by decide +kernel), kp_mem 1634 (by decide +kernel) (by decide +kernel), kp_mem 1635 (by decide +kernel) (by decide +kernel), by decide, TX1, 5, rfl⟩
theorem cv_4_102 : kp_CV RX4 102 yX4_tellEnd cX4_tellEnd 2 none 1 4 := ⟨⟨kp_mem 1627 (by decide +kernel) (by decide +kernel), kp_mem 216 (by decide +kernel) (by decide +kernel), by decide +kernel⟩, kp_mem 1624 (by decide +kernel) (by decide +kernel), kp_mem 1626 (by decide +kernel) (by decide +kernel), kp_mem 103 (by decide +kernel) (by decide +kernel), by decide, TX4, 15, rfl⟩
theorem kc_4_92 : Cond.constant RX4 92 1000000000 ∈ kp_tb := kp_mem 1407 (by decide +kernel) (by decide +kernel)
theorem cv_4_99 : kp_CV RX4 99 yX4_leaveTop cX4_leaveTop 2 none 0 4 := ⟨⟨kp_mem 1566 (by decide +kernel) (by decide +kernel), kp_mem 216 (by decide +kernel) (by decide +kernel), by decide +kernel⟩, kp_mem 1563 (by decide +kernel) (by decide +kernel), kp_mem 1565 (by decide +kernel) (by decide +kernel), kp_mem 91 (by decide +kernel) (by decide +kernel), by decide, TX4, 15, rfl⟩
theorem cv_4_96 : kp_CV RX4 96 yX4_step cX4_step 2 none 0 4 := ⟨⟨kp_mem 1411 (by decide +kernel) (by decide +kernel), kp_mem 216 (by decide +kernel) (by decide +kernel), by decide +kernel⟩, kp_mem 1408 (by decide +kernel) (by decide +kernel), kp_mem 1410 (by decide +kernel) (by decide +kernel), kp_mem 68 (by decide +kernel) (by decide +kernel), by decide, TX4, 15, rfl⟩
theorem cv_4_48 : kp_CV RX4 48 yX7_clear cX7_clear 2 none 0 7 := ⟨⟨kp_mem 1346 (by decide +kernel) (by decide +kernel), kp_mem 215 (by decide +kernel) (by decide +kernel), by decide +kernel⟩, kp_mem 1343 (by decide +kernel) (by decide +kernel), kp_mem 1344 (by decide +kernel) (by decide +kernel), kp_mem 1345 (by decide +kernel) (by decide +kernel), by decide, TX7, 3, rfl⟩
theorem dX4_hold_0 : decode cX4_hold 0 = .ok (.aload_n 0, 1) := by decide +kernel
theorem dX4_hold_1 : decode cX4_hold 1 = .ok (.getfield 34, 3) := by decide +kernel
theorem dX4_hold_4 : decode cX4_hold 4 = .ok (.iload_n 1, 1) := by decide +kernel
theorem dX4_hold_5 : decode cX4_hold 5 = .ok (.iconst 1, 1) := by decide +kernel
theorem dX4_hold_6 : decode cX4_hold 6 = .ok (.invokevirtual 293, 3) := by decide +kernel
theorem dX4_hold_9 : decode cX4_hold 9 = .ok (.istore_n 3, 1) := by decide +kernel
theorem dX4_hold_10 : decode cX4_hold 10 = .ok (.iload_n 3, 1) := by decide +kernel
theorem dX4_hold_11 : decode cX4_hold 11 = .ok (.iconst (-1), 1) := by decide +kernel
theorem dX4_hold_12 : decode cX4_hold 12 = .ok (.if_icmp .ne 9, 3) := by decide +kernel
theorem dX4_hold_15 : decode cX4_hold 15 = .ok (.aload_n 0, 1) := by decide +kernel
theorem dX4_hold_16 : decode cX4_hold 16 = .ok (.iconst 3, 1) := by decide +kernel
theorem dX4_hold_17 : decode cX4_hold 17 = .ok (.invokevirtual 188, 3) := by decide +kernel
theorem dX4_hold_20 : decode cX4_hold 20 = .ok (.return_, 1) := by decide +kernel
theorem dX4_hold_21 : decode cX4_hold 21 = .ok (.aload_n 0, 1) := by decide +kernel
theorem dX4_hold_22 : decode cX4_hold 22 = .ok (.getfield 38, 3) := by decide +kernel
theorem dX4_hold_25 : decode cX4_hold 25 = .ok (.bipush 6, 2) := by decide +kernel
theorem dX4_hold_27 : decode cX4_hold 27 = .ok (.invokevirtual 166, 3) := by decide +kernel
theorem dX4_hold_30 : decode cX4_hold 30 = .ok (.iload_n 3, 1) := by decide +kernel
theorem dX4_hold_31 : decode cX4_hold 31 = .ok (.iconst 1, 1) := by decide +kernel
theorem dX4_hold_32 : decode cX4_hold 32 = .ok (.if_icmp .ne 12, 3) := by decide +kernel
theorem dX4_hold_35 : decode cX4_hold 35 = .ok (.aload_n 0, 1) := by decide +kernel
theorem dX4_hold_36 : decode cX4_hold 36 = .ok (.getfield 38, 3) := by decide +kernel
theorem dX4_hold_39 : decode cX4_hold 39 = .ok (.iconst 1, 1) := by decide +kernel
theorem dX4_hold_40 : decode cX4_hold 40 = .ok (.iload_n 1, 1) := by decide +kernel
theorem dX4_hold_41 : decode cX4_hold 41 = .ok (.invokevirtual 169, 3) := by decide +kernel
theorem dX4_hold_44 : decode cX4_hold 44 = .ok (.aload_n 0, 1) := by decide +kernel
theorem dX4_hold_45 : decode cX4_hold 45 = .ok (.bipush 45, 2) := by decide +kernel
theorem dX4_hold_47 : decode cX4_hold 47 = .ok (.iload_n 2, 1) := by decide +kernel
theorem dX4_hold_48 : decode cX4_hold 48 = .ok (.invokevirtual 279, 3) := by decide +kernel
theorem dX4_hold_51 : decode cX4_hold 51 = .ok (.iload_n 1, 1) := by decide +kernel
theorem dX4_hold_52 : decode cX4_hold 52 = .ok (.putfield 296, 3) := by decide +kernel
theorem dX4_hold_55 : decode cX4_hold 55 = .ok (.return_, 1) := by decide +kernel
def wX4_hold_b44 (a0 : Nat) (x1 : Int32) (x2 : Int32)  (Sn : kp_S) (post : kp_S → Prop) : Prop :=
  wX4_begin a0 45 x2 Sn (fun b1002 T1001 =>
  ∀ T1003 : kp_S, T1003 = kp_sI T1001 1204 b1002 x1 →
  post T1003)
def wX4_hold (a0 : Nat) (x1 : Int32) (x2 : Int32) (S : kp_S) (post : kp_S → Prop) : Prop :=
  ∃ b1 : Nat, kp_R S 800 a0 = some b1 ∧
  wX1_addHold b1 x1 1 S (fun y3 T2 =>
  ((¬ y3 = (-1) →
  ∃ b4 : Nat, kp_R T2 801 a0 = some b4 ∧
  wX7_count b4 6 T2 (fun T5 =>
  ((¬ y3 = 1 →
  wX4_hold_b44 a0 x1 x2   T5 post) ∧ (y3 = 1 →
  ∃ b6 : Nat, kp_R T5 801 a0 = some b6 ∧
  wX7_write b6 1 x1 T5 (fun T7 =>
  wX4_hold_b44 a0 x1 x2   T7 post))))) ∧ (y3 = (-1) →
  wX4_trouble a0 3 T2 (fun T9 =>
  post T9))))
set_option maxHeartbeats 4000000 in
set_option maxRecDepth 100000 in
theorem c_X4_hold (l : Launch) (D : va_G) (cy : Nat → ClassId) (ad : (Nat → Nat) × (Nat → Nat)) (S : kp_S) (a0 : Nat) (x1 : Int32) (x2 : Int32) (post : kp_S → Prop) (hS : kp_ok S) (f_a0 : kp_is S a0 4) (hw : wX4_hold a0 x1 x2 S post) : kp_M l yX4_hold cX4_hold 4 none { frames := 2, cells := 0, slots := 0, locals := 44 } D cy ad S [.ref a0, .int x1, .int x2] 0 0 (fun A => kp_Qv D cy A S post) := by
  refine kp_start (own := RX4) (by decide) rfl (Nat.le_of_ble_eq_true rfl) hS ?_
  intro p e s m below meth c A ls X hr hlocks hname h hl
  have hle : kp_le S S := kp_le.rf
  have hl : lv_has ls 4 [(0, .ref a0), (1, .int x1), (2, .int x2)] := hl
  have j44 : ∀  (Sn : kp_S) (H : Heap) (locs : List Loc) (ls : Array Slot), lv_has ls 4 [(0, .ref a0), (1, .int x1), (2, .int x2)] → kp_H D cy A Sn s.heap H locs → kp_le S Sn → kp_is Sn a0 4 → wX4_hold_b44 a0 x1 x2   Sn post → W p l e { frames := 2, cells := 0, slots := 0, locals := 44 } s m ([.ref a0, .int x1, .int x2] : List Value).toArray below meth c H locs 0 0 (MQ below (kp_Qv D cy A S post) ([.ref a0, .int x1, .int x2] : List Value).toArray s 0 0 A) (F0 m 44 ls []) := by
    intro  Sn H locs ls hl h hle f_a0 hw
    unfold wX4_hold_b44 at hw
    refine lv_aload_n X.1 X.2.1 dX4_hold_44 rfl (lv_at hl 0 rfl) ?_
    refine lv_bipush (v := 45) X.1 X.2.1 dX4_hold_45 (by decide) ?_
    refine lv_iload_n X.1 X.2.1 dX4_hold_47 rfl (lv_at hl 2 rfl) ?_
    refine kp_callr X h (kp_runV (rm := { frames := 1, cells := 0, slots := 0, locals := 20 }) (mc := 0) (ms := 0) (rest := []) (Qc := fun A => kp_Qr D cy A Sn 6 _) X h (c_X4_begin l D cy ad Sn a0 45 x2 _ h.2.2.2 f_a0 hw) f_a0 cv_4_279 ⟨by decide, by decide, rfl, rfl, by decide, by decide⟩ rfl hl.1 rfl (Nat.le_of_ble_eq_true rfl) dX4_hold_48) (fun b1002 T1001 hw l_T1001 f_b1002 H locs h => ?_)
    have f_a0 := l_T1001.is f_a0
    have hle := hle.tr l_T1001
    refine lv_iload_n X.1 X.2.1 dX4_hold_51 rfl (lv_at hl 1 rfl) ?_
    refine kp_putI X h f_b1002 fp_4_296 rfl ⟨rfl, rfl⟩ dX4_hold_52 (fun T1003 e_T1003 l_T1003 H locs h => ?_)
    have hw := hw T1003 e_T1003
    have f_a0 := l_T1003.is f_a0
    have f_b1002 := l_T1003.is f_b1002
    have hle := hle.tr l_T1003
    exact kp_retv X hr hlocks h hle hw dX4_hold_55
  unfold wX4_hold at hw
  have h : kp_H D cy A S s.heap s.heap [] := h
  revert h
  intro h
  refine lv_aload_n X.1 X.2.1 dX4_hold_0 rfl (lv_at hl 0 rfl) ?_
  obtain ⟨b1, e_b1, hw⟩ := hw
  have f_b1 := h.2.2.2.rf (c := 4) (k := 0) f_a0 (by decide) (by decide) e_b1 (t := 1) rfl
  refine kp_get X h f_a0 ff_4_34.l (v := .ref b1) (congrArg va_rf e_b1) dX4_hold_1 ?_
  refine lv_iload_n X.1 X.2.1 dX4_hold_4 rfl (lv_at hl 1 rfl) ?_
  refine lv_iconst (v := 1) X.1 X.2.1 dX4_hold_5 (by decide) ?_
  refine kp_calli X h (kp_runV (rm := { frames := 1, cells := 0, slots := 0, locals := 20 }) (mc := 0) (ms := 0) (rest := []) (Qc := fun A => kp_Qi D cy A S _) X h (c_X1_addHold l D cy ad S b1 x1 1 _ h.2.2.2 f_b1 hw) f_b1 cv_4_293 ⟨by decide, by decide, rfl, rfl, by decide, by decide⟩ rfl hl.1 rfl (Nat.le_of_ble_eq_true rfl) dX4_hold_6) (fun y3 T2 hw l_T2 H locs h => ?_)
  have f_a0 := l_T2.is f_a0
  have f_b1 := l_T2.is f_b1
  have hle := hle.tr l_T2
  refine lv_istore_n (lv' := [(3, .int y3), (0, .ref a0), (1, .int x1), (2, .int x2)]) X.1 X.2.1 dX4_hold_9 rfl hl (by decide) rfl (fun ls hl => ?_)
  refine lv_iload_n X.1 X.2.1 dX4_hold_10 rfl (lv_at hl 0 rfl) ?_
  refine lv_iconst (v := (-1)) X.1 X.2.1 dX4_hold_11 (by decide) ?_
  refine lv_icmp_ne (tgt := 21) X.1 X.2.1 dX4_hold_12 (by decide) (fun c10 => ?_) (fun c10 => ?_)
  · have hw := hw.1 c10
    refine lv_aload_n X.1 X.2.1 dX4_hold_21 rfl (lv_at hl 1 rfl) ?_
    obtain ⟨b4, e_b4, hw⟩ := hw
    have f_b4 := h.2.2.2.rf (c := 4) (k := 1) f_a0 (by decide) (by decide) e_b4 (t := 7) rfl
    refine kp_get X h f_a0 ff_4_38.l (v := .ref b4) (congrArg va_rf e_b4) dX4_hold_22 ?_
    refine lv_bipush (v := 6) X.1 X.2.1 dX4_hold_25 (by decide) ?_
    refine kp_callv X h (kp_runV (rm := { frames := 0, cells := 0, slots := 0, locals := 0 }) (mc := 0) (ms := 0) (rest := []) (Qc := fun A => kp_Qv D cy A T2 _) X h (c_X7_count l D cy ad T2 b4 6 _ h.2.2.2 f_b4 hw) f_b4 cv_4_166 ⟨by decide, by decide, rfl, rfl, by decide, by decide⟩ rfl hl.1 rfl (Nat.le_of_ble_eq_true rfl) dX4_hold_27) (fun T5 hw l_T5 H locs h => ?_)
    have f_a0 := l_T5.is f_a0
    have f_b1 := l_T5.is f_b1
    have f_b4 := l_T5.is f_b4
    have hle := hle.tr l_T5
    refine lv_iload_n X.1 X.2.1 dX4_hold_30 rfl (lv_at hl 0 rfl) ?_
    refine lv_iconst (v := 1) X.1 X.2.1 dX4_hold_31 (by decide) ?_
    refine lv_icmp_ne (tgt := 44) X.1 X.2.1 dX4_hold_32 (by decide) (fun c8 => ?_) (fun c8 => ?_)
    · have hw := hw.1 c8
      exact j44  T5 _ _ ls (lv_sub hl [1, 2, 3] rfl) h hle f_a0 hw
    · have hw := hw.2 c8
      refine lv_aload_n X.1 X.2.1 dX4_hold_35 rfl (lv_at hl 1 rfl) ?_
      obtain ⟨b6, e_b6, hw⟩ := hw
      have f_b6 := h.2.2.2.rf (c := 4) (k := 1) f_a0 (by decide) (by decide) e_b6 (t := 7) rfl
      refine kp_get X h f_a0 ff_4_38.l (v := .ref b6) (congrArg va_rf e_b6) dX4_hold_36 ?_
      refine lv_iconst (v := 1) X.1 X.2.1 dX4_hold_39 (by decide) ?_
      refine lv_iload_n X.1 X.2.1 dX4_hold_40 rfl (lv_at hl 2 rfl) ?_
      refine kp_callv X h (kp_runV (rm := { frames := 0, cells := 0, slots := 0, locals := 0 }) (mc := 0) (ms := 0) (rest := []) (Qc := fun A => kp_Qv D cy A T5 _) X h (c_X7_write l D cy ad T5 b6 1 x1 _ h.2.2.2 f_b6 hw) f_b6 cv_4_169 ⟨by decide, by decide, rfl, rfl, by decide, by decide⟩ rfl hl.1 rfl (Nat.le_of_ble_eq_true rfl) dX4_hold_41) (fun T7 hw l_T7 H locs h => ?_)
      have f_a0 := l_T7.is f_a0
      have f_b1 := l_T7.is f_b1
      have f_b4 := l_T7.is f_b4
      have f_b6 := l_T7.is f_b6
      have hle := hle.tr l_T7
      exact j44  T7 _ _ ls (lv_sub hl [1, 2, 3] rfl) h hle f_a0 hw
  · have hw := hw.2 c10
    refine lv_aload_n X.1 X.2.1 dX4_hold_15 rfl (lv_at hl 1 rfl) ?_
    refine lv_iconst (v := 3) X.1 X.2.1 dX4_hold_16 (by decide) ?_
    refine kp_callv X h (kp_runV (rm := { frames := 1, cells := 0, slots := 0, locals := 23 }) (mc := 0) (ms := 0) (rest := []) (Qc := fun A => kp_Qv D cy A T2 _) X h (c_X4_trouble l D cy ad T2 a0 3 _ h.2.2.2 f_a0 hw) f_a0 cv_4_188 ⟨by decide, by decide, rfl, rfl, by decide, by decide⟩ rfl hl.1 rfl (Nat.le_of_ble_eq_true rfl) dX4_hold_17) (fun T9 hw l_T9 H locs h => ?_)
    have f_a0 := l_T9.is f_a0
    have f_b1 := l_T9.is f_b1
    have hle := hle.tr l_T9
    exact kp_retv X hr hlocks h hle hw dX4_hold_20
theorem dX4_mended_0 : decode cX4_mended 0 = .ok (.aload_n 0, 1) := by decide +kernel
theorem dX4_mended_1 : decode cX4_mended 1 = .ok (.getfield 38, 3) := by decide +kernel
theorem dX4_mended_4 : decode cX4_mended 4 = .ok (.bipush 13, 2) := by decide +kernel
theorem dX4_mended_6 : decode cX4_mended 6 = .ok (.invokevirtual 166, 3) := by decide +kernel
theorem dX4_mended_9 : decode cX4_mended 9 = .ok (.aload_n 0, 1) := by decide +kernel
theorem dX4_mended_10 : decode cX4_mended 10 = .ok (.getfield 38, 3) := by decide +kernel
theorem dX4_mended_13 : decode cX4_mended 13 = .ok (.bipush 8, 2) := by decide +kernel
theorem dX4_mended_15 : decode cX4_mended 15 = .ok (.aload_n 1, 1) := by decide +kernel
theorem dX4_mended_16 : decode cX4_mended 16 = .ok (.getfield 226, 3) := by decide +kernel
theorem dX4_mended_19 : decode cX4_mended 19 = .ok (.getfield 111, 3) := by decide +kernel
theorem dX4_mended_22 : decode cX4_mended 22 = .ok (.invokevirtual 169, 3) := by decide +kernel
theorem dX4_mended_25 : decode cX4_mended 25 = .ok (.aload_n 0, 1) := by decide +kernel
theorem dX4_mended_26 : decode cX4_mended 26 = .ok (.invokevirtual 172, 3) := by decide +kernel
theorem dX4_mended_29 : decode cX4_mended 29 = .ok (.aload_n 1, 1) := by decide +kernel
theorem dX4_mended_30 : decode cX4_mended 30 = .ok (.getfield 226, 3) := by decide +kernel
theorem dX4_mended_33 : decode cX4_mended 33 = .ok (.getfield 111, 3) := by decide +kernel
theorem dX4_mended_36 : decode cX4_mended 36 = .ok (.putfield 177, 3) := by decide +kernel
theorem dX4_mended_39 : decode cX4_mended 39 = .ok (.aload_n 0, 1) := by decide +kernel
theorem dX4_mended_40 : decode cX4_mended 40 = .ok (.invokevirtual 172, 3) := by decide +kernel
theorem dX4_mended_43 : decode cX4_mended 43 = .ok (.aload_n 1, 1) := by decide +kernel
theorem dX4_mended_44 : decode cX4_mended 44 = .ok (.getfield 226, 3) := by decide +kernel
theorem dX4_mended_47 : decode cX4_mended 47 = .ok (.getfield 114, 3) := by decide +kernel
theorem dX4_mended_50 : decode cX4_mended 50 = .ok (.putfield 180, 3) := by decide +kernel
theorem dX4_mended_53 : decode cX4_mended 53 = .ok (.aload_n 1, 1) := by decide +kernel
theorem dX4_mended_54 : decode cX4_mended 54 = .ok (.iconst 2, 1) := by decide +kernel
theorem dX4_mended_55 : decode cX4_mended 55 = .ok (.putfield 156, 3) := by decide +kernel
theorem dX4_mended_58 : decode cX4_mended 58 = .ok (.return_, 1) := by decide +kernel
def wX4_mended (a0 : Nat) (a1 : Nat) (S : kp_S) (post : kp_S → Prop) : Prop :=
  ∃ b1 : Nat, kp_R S 801 a0 = some b1 ∧
  wX7_count b1 13 S (fun T2 =>
  ∃ b3 : Nat, kp_R T2 801 a0 = some b3 ∧
  ∃ b4 : Nat, kp_R T2 1208 a1 = some b4 ∧
  wX7_write b3 8 (kp_I T2 2001 b4) T2 (fun T5 =>
  wX4_frame a0 T5 (fun b7 T6 =>
  ∃ b8 : Nat, kp_R T6 1208 a1 = some b8 ∧
  ∀ T9 : kp_S, T9 = kp_sI T6 603 b7 (kp_I T6 2001 b8) →
  wX4_frame a0 T9 (fun b11 T10 =>
  ∃ b12 : Nat, kp_R T10 1208 a1 = some b12 ∧
  ∀ T13 : kp_S, T13 = kp_sI T10 604 b11 (kp_I T10 2002 b12) →
  ∀ T14 : kp_S, T14 = kp_sI T13 1201 a1 2 →
  post T14))))
set_option maxHeartbeats 4000000 in
set_option maxRecDepth 100000 in
theorem c_X4_mended (l : Launch) (D : va_G) (cy : Nat → ClassId) (ad : (Nat → Nat) × (Nat → Nat)) (S : kp_S) (a0 : Nat) (a1 : Nat) (post : kp_S → Prop) (hS : kp_ok S) (f_a0 : kp_is S a0 4) (f_a1 : kp_is S a1 6) (hw : wX4_mended a0 a1 S post) : kp_M l yX4_mended cX4_mended 2 none { frames := 1, cells := 0, slots := 0, locals := 23 } D cy ad S [.ref a0, .ref a1] 0 0 (fun A => kp_Qv D cy A S post) := by
  refine kp_start (own := RX4) (by decide) rfl (Nat.le_of_ble_eq_true rfl) hS ?_
  intro p e s m below meth c A ls X hr hlocks hname h hl
  have hle : kp_le S S := kp_le.rf
  have hl : lv_has ls 2 [(0, .ref a0), (1, .ref a1)] := hl
  unfold wX4_mended at hw
  have h : kp_H D cy A S s.heap s.heap [] := h
  revert h
  intro h
  refine lv_aload_n X.1 X.2.1 dX4_mended_0 rfl (lv_at hl 0 rfl) ?_
  obtain ⟨b1, e_b1, hw⟩ := hw
  have f_b1 := h.2.2.2.rf (c := 4) (k := 1) f_a0 (by decide) (by decide) e_b1 (t := 7) rfl
  refine kp_get X h f_a0 ff_4_38.l (v := .ref b1) (congrArg va_rf e_b1) dX4_mended_1 ?_
  refine lv_bipush (v := 13) X.1 X.2.1 dX4_mended_4 (by decide) ?_
  refine kp_callv X h (kp_runV (rm := { frames := 0, cells := 0, slots := 0, locals := 0 }) (mc := 0) (ms := 0) (rest := []) (Qc := fun A => kp_Qv D cy A S _) X h (c_X7_count l D cy ad S b1 13 _ h.2.2.2 f_b1 hw) f_b1 cv_4_166 ⟨by decide, by decide, rfl, rfl, by decide, by decide⟩ rfl hl.1 rfl (Nat.le_of_ble_eq_true rfl) dX4_mended_6) (fun T2 hw l_T2 H locs h => ?_)
  have f_a0 := l_T2.is f_a0
  have f_a1 := l_T2.is f_a1
  have f_b1 := l_T2.is f_b1
  have hle := hle.tr l_T2
  refine lv_aload_n X.1 X.2.1 dX4_mended_9 rfl (lv_at hl 0 rfl) ?_
  obtain ⟨b3, e_b3, hw⟩ := hw
  have f_b3 := h.2.2.2.rf (c := 4) (k := 1) f_a0 (by decide) (by decide) e_b3 (t := 7) rfl
  refine kp_get X h f_a0 ff_4_38.l (v := .ref b3) (congrArg va_rf e_b3) dX4_mended_10 ?_
  refine lv_bipush (v := 8) X.1 X.2.1 dX4_mended_13 (by decide) ?_
  refine lv_aload_n X.1 X.2.1 dX4_mended_15 rfl (lv_at hl 1 rfl) ?_
  obtain ⟨b4, e_b4, hw⟩ := hw
  have f_b4 := h.2.2.2.rf (c := 6) (k := 8) f_a1 (by decide) (by decide) e_b4 (t := 10) rfl
  refine kp_get X h f_a1 fl_4_226 (v := .ref b4) (congrArg va_rf e_b4) dX4_mended_16 ?_
  refine kp_get X h f_b4 fp_4_111.l (v := .int (kp_I T2 2001 b4)) rfl dX4_mended_19 ?_
  refine kp_callv X h (kp_runV (rm := { frames := 0, cells := 0, slots := 0, locals := 0 }) (mc := 0) (ms := 0) (rest := []) (Qc := fun A => kp_Qv D cy A T2 _) X h (c_X7_write l D cy ad T2 b3 8 (kp_I T2 2001 b4) _ h.2.2.2 f_b3 hw) f_b3 cv_4_169 ⟨by decide, by decide, rfl, rfl, by decide, by decide⟩ rfl hl.1 rfl (Nat.le_of_ble_eq_true rfl) dX4_mended_22) (fun T5 hw l_T5 H locs h => ?_)
  have f_a0 := l_T5.is f_a0
  have f_a1 := l_T5.is f_a1
  have f_b1 := l_T5.is f_b1
  have f_b3 := l_T5.is f_b3
  have f_b4 := l_T5.is f_b4
  have hle := hle.tr l_T5
  refine lv_aload_n X.1 X.2.1 dX4_mended_25 rfl (lv_at hl 0 rfl) ?_
  refine kp_callr X h (kp_runV (rm := { frames := 0, cells := 0, slots := 0, locals := 0 }) (mc := 0) (ms := 0) (rest := []) (Qc := fun A => kp_Qr D cy A T5 3 _) X h (c_X4_frame l D cy ad T5 a0 _ h.2.2.2 f_a0 hw) f_a0 cv_4_172 ⟨by decide, by decide, rfl, rfl, by decide, by decide⟩ rfl hl.1 rfl (Nat.le_of_ble_eq_true rfl) dX4_mended_26) (fun b7 T6 hw l_T6 f_b7 H locs h => ?_)
  have f_a0 := l_T6.is f_a0
  have f_a1 := l_T6.is f_a1
  have f_b1 := l_T6.is f_b1
  have f_b3 := l_T6.is f_b3
  have f_b4 := l_T6.is f_b4
  have hle := hle.tr l_T6
  refine lv_aload_n X.1 X.2.1 dX4_mended_29 rfl (lv_at hl 1 rfl) ?_
  obtain ⟨b8, e_b8, hw⟩ := hw
  have f_b8 := h.2.2.2.rf (c := 6) (k := 8) f_a1 (by decide) (by decide) e_b8 (t := 10) rfl
  refine kp_get X h f_a1 fl_4_226 (v := .ref b8) (congrArg va_rf e_b8) dX4_mended_30 ?_
  refine kp_get X h f_b8 fp_4_111.l (v := .int (kp_I T6 2001 b8)) rfl dX4_mended_33 ?_
  refine kp_putI X h f_b7 fp_4_177 rfl ⟨rfl, rfl⟩ dX4_mended_36 (fun T9 e_T9 l_T9 H locs h => ?_)
  have hw := hw T9 e_T9
  have f_a0 := l_T9.is f_a0
  have f_a1 := l_T9.is f_a1
  have f_b1 := l_T9.is f_b1
  have f_b3 := l_T9.is f_b3
  have f_b4 := l_T9.is f_b4
  have f_b7 := l_T9.is f_b7
  have f_b8 := l_T9.is f_b8
  have hle := hle.tr l_T9
  have e_b8 : kp_R T9 1208 a1 = some b8 := by rw [e_T9]; exact e_b8
  refine lv_aload_n X.1 X.2.1 dX4_mended_39 rfl (lv_at hl 0 rfl) ?_
  refine kp_callr X h (kp_runV (rm := { frames := 0, cells := 0, slots := 0, locals := 0 }) (mc := 0) (ms := 0) (rest := []) (Qc := fun A => kp_Qr D cy A T9 3 _) X h (c_X4_frame l D cy ad T9 a0 _ h.2.2.2 f_a0 hw) f_a0 cv_4_172 ⟨by decide, by decide, rfl, rfl, by decide, by decide⟩ rfl hl.1 rfl (Nat.le_of_ble_eq_true rfl) dX4_mended_40) (fun b11 T10 hw l_T10 f_b11 H locs h => ?_)
  have f_a0 := l_T10.is f_a0
  have f_a1 := l_T10.is f_a1
  have f_b1 := l_T10.is f_b1
  have f_b3 := l_T10.is f_b3
  have f_b4 := l_T10.is f_b4
  have f_b7 := l_T10.is f_b7
  have f_b8 := l_T10.is f_b8
  have hle := hle.tr l_T10
  refine lv_aload_n X.1 X.2.1 dX4_mended_43 rfl (lv_at hl 1 rfl) ?_
  obtain ⟨b12, e_b12, hw⟩ := hw
  have f_b12 := h.2.2.2.rf (c := 6) (k := 8) f_a1 (by decide) (by decide) e_b12 (t := 10) rfl
  refine kp_get X h f_a1 fl_4_226 (v := .ref b12) (congrArg va_rf e_b12) dX4_mended_44 ?_
  refine kp_get X h f_b12 fp_4_114.l (v := .int (kp_I T10 2002 b12)) rfl dX4_mended_47 ?_
  refine kp_putI X h f_b11 fp_4_180 rfl ⟨rfl, rfl⟩ dX4_mended_50 (fun T13 e_T13 l_T13 H locs h => ?_)
  have hw := hw T13 e_T13
  have f_a0 := l_T13.is f_a0
  have f_a1 := l_T13.is f_a1
  have f_b1 := l_T13.is f_b1
  have f_b3 := l_T13.is f_b3
  have f_b4 := l_T13.is f_b4
  have f_b7 := l_T13.is f_b7
  have f_b8 := l_T13.is f_b8
  have f_b11 := l_T13.is f_b11
  have f_b12 := l_T13.is f_b12
  have hle := hle.tr l_T13
  have e_b12 : kp_R T13 1208 a1 = some b12 := by rw [e_T13]; exact e_b12
  refine lv_aload_n X.1 X.2.1 dX4_mended_53 rfl (lv_at hl 1 rfl) ?_
  refine lv_iconst (v := 2) X.1 X.2.1 dX4_mended_54 (by decide) ?_
  refine kp_putI X h f_a1 fp_4_156 rfl ⟨rfl, rfl⟩ dX4_mended_55 (fun T14 e_T14 l_T14 H locs h => ?_)
  have hw := hw T14 e_T14
  have f_a0 := l_T14.is f_a0
  have f_a1 := l_T14.is f_a1
  have f_b1 := l_T14.is f_b1
  have f_b3 := l_T14.is f_b3
  have f_b4 := l_T14.is f_b4
  have f_b7 := l_T14.is f_b7
  have f_b8 := l_T14.is f_b8
  have f_b11 := l_T14.is f_b11
  have f_b12 := l_T14.is f_b12
  have hle := hle.tr l_T14
  have e_b12 : kp_R T14 1208 a1 = some b12 := by rw [e_T14]; exact e_b12
  exact kp_retv X hr hlocks h hle hw dX4_mended_58
theorem dX4_ensured_0 : decode cX4_ensured 0 = .ok (.iload_n 1, 1) := by decide +kernel
theorem dX4_ensured_1 : decode cX4_ensured 1 = .ok (.ifCond .ne 12, 3) := by decide +kernel
theorem dX4_ensured_4 : decode cX4_ensured 4 = .ok (.aload_n 0, 1) := by decide +kernel
theorem dX4_ensured_5 : decode cX4_ensured 5 = .ok (.bipush 10, 2) := by decide +kernel
theorem dX4_ensured_7 : decode cX4_ensured 7 = .ok (.invokevirtual 188, 3) := by decide +kernel
theorem dX4_ensured_10 : decode cX4_ensured 10 = .ok (.goto 12, 3) := by decide +kernel
theorem dX4_ensured_13 : decode cX4_ensured 13 = .ok (.aload_n 0, 1) := by decide +kernel
theorem dX4_ensured_14 : decode cX4_ensured 14 = .ok (.getfield 30, 3) := by decide +kernel
theorem dX4_ensured_17 : decode cX4_ensured 17 = .ok (.iconst 1, 1) := by decide +kernel
theorem dX4_ensured_18 : decode cX4_ensured 18 = .ok (.iconst 0, 1) := by decide +kernel
theorem dX4_ensured_19 : decode cX4_ensured 19 = .ok (.invokevirtual 75, 3) := by decide +kernel
theorem dX4_ensured_22 : decode cX4_ensured 22 = .ok (.return_, 1) := by decide +kernel
def wX4_ensured_b22 (a0 : Nat) (x1 : Int32)  (Sn : kp_S) (post : kp_S → Prop) : Prop :=
  post Sn
def wX4_ensured (a0 : Nat) (x1 : Int32) (S : kp_S) (post : kp_S → Prop) : Prop :=
  ((¬ x1 = 0 →
  ∃ b1 : Nat, kp_R S 808 a0 = some b1 ∧
  wX10_become b1 1 0 S (fun T2 =>
  wX4_ensured_b22 a0 x1   T2 post)) ∧ (x1 = 0 →
  wX4_trouble a0 10 S (fun T3 =>
  wX4_ensured_b22 a0 x1   T3 post)))
set_option maxHeartbeats 4000000 in
set_option maxRecDepth 100000 in
theorem c_X4_ensured (l : Launch) (D : va_G) (cy : Nat → ClassId) (ad : (Nat → Nat) × (Nat → Nat)) (S : kp_S) (a0 : Nat) (x1 : Int32) (post : kp_S → Prop) (hS : kp_ok S) (f_a0 : kp_is S a0 4) (hw : wX4_ensured a0 x1 S post) : kp_M l yX4_ensured cX4_ensured 2 none { frames := 2, cells := 0, slots := 0, locals := 44 } D cy ad S [.ref a0, .int x1] 0 0 (fun A => kp_Qv D cy A S post) := by
  refine kp_start (own := RX4) (by decide) rfl (Nat.le_of_ble_eq_true rfl) hS ?_
  intro p e s m below meth c A ls X hr hlocks hname h hl
  have hle : kp_le S S := kp_le.rf
  have hl : lv_has ls 2 [(0, .ref a0), (1, .int x1)] := hl
  have j22 : ∀  (Sn : kp_S) (H : Heap) (locs : List Loc) (ls : Array Slot), lv_has ls 2 [] → kp_H D cy A Sn s.heap H locs → kp_le S Sn → kp_is Sn a0 4 → wX4_ensured_b22 a0 x1   Sn post → W p l e { frames := 2, cells := 0, slots := 0, locals := 44 } s m ([.ref a0, .int x1] : List Value).toArray below meth c H locs 0 0 (MQ below (kp_Qv D cy A S post) ([.ref a0, .int x1] : List Value).toArray s 0 0 A) (F0 m 22 ls []) := by
    intro  Sn H locs ls hl h hle f_a0 hw
    unfold wX4_ensured_b22 at hw
    exact kp_retv X hr hlocks h hle hw dX4_ensured_22
  unfold wX4_ensured at hw
  have h : kp_H D cy A S s.heap s.heap [] := h
  revert h
  intro h
  refine lv_iload_n X.1 X.2.1 dX4_ensured_0 rfl (lv_at hl 1 rfl) ?_
  refine lv_if_ne (tgt := 13) X.1 X.2.1 dX4_ensured_1 (by decide) (fun c4 => ?_) (fun c4 => ?_)
  · have hw := hw.1 c4
    refine lv_aload_n X.1 X.2.1 dX4_ensured_13 rfl (lv_at hl 0 rfl) ?_
    obtain ⟨b1, e_b1, hw⟩ := hw
    have f_b1 := h.2.2.2.rf (c := 4) (k := 8) f_a0 (by decide) (by decide) e_b1 (t := 10) rfl
    refine kp_get X h f_a0 ff_4_30.l (v := .ref b1) (congrArg va_rf e_b1) dX4_ensured_14 ?_
    refine lv_iconst (v := 1) X.1 X.2.1 dX4_ensured_17 (by decide) ?_
    refine lv_iconst (v := 0) X.1 X.2.1 dX4_ensured_18 (by decide) ?_
    refine kp_callv X h (kp_runV (rm := { frames := 0, cells := 0, slots := 0, locals := 0 }) (mc := 0) (ms := 0) (rest := []) (Qc := fun A => kp_Qv D cy A S _) X h (c_X10_become l D cy ad S b1 1 0 _ h.2.2.2 f_b1 hw) f_b1 cv_4_75 ⟨by decide, by decide, rfl, rfl, by decide, by decide⟩ rfl hl.1 rfl (Nat.le_of_ble_eq_true rfl) dX4_ensured_19) (fun T2 hw l_T2 H locs h => ?_)
    have f_a0 := l_T2.is f_a0
    have f_b1 := l_T2.is f_b1
    have hle := hle.tr l_T2
    exact j22  T2 _ _ ls (lv_sub hl [] rfl) h hle f_a0 hw
  · have hw := hw.2 c4
    refine lv_aload_n X.1 X.2.1 dX4_ensured_4 rfl (lv_at hl 0 rfl) ?_
    refine lv_bipush (v := 10) X.1 X.2.1 dX4_ensured_5 (by decide) ?_
    refine kp_callv X h (kp_runV (rm := { frames := 1, cells := 0, slots := 0, locals := 23 }) (mc := 0) (ms := 0) (rest := []) (Qc := fun A => kp_Qv D cy A S _) X h (c_X4_trouble l D cy ad S a0 10 _ h.2.2.2 f_a0 hw) f_a0 cv_4_188 ⟨by decide, by decide, rfl, rfl, by decide, by decide⟩ rfl hl.1 rfl (Nat.le_of_ble_eq_true rfl) dX4_ensured_7) (fun T3 hw l_T3 H locs h => ?_)
    have f_a0 := l_T3.is f_a0
    have hle := hle.tr l_T3
    refine lv_goto (tgt := 22) X.1 X.2.1 dX4_ensured_10 (by decide) ?_
    exact j22  T3 _ _ ls (lv_sub hl [] rfl) h hle f_a0 hw
theorem dX4_pledge_0 : decode cX4_pledge 0 = .ok (.aload_n 0, 1) := by decide +kernel
theorem dX4_pledge_1 : decode cX4_pledge 1 = .ok (.invokevirtual 172, 3) := by decide +kernel
theorem dX4_pledge_4 : decode cX4_pledge 4 = .ok (.iload_n 1, 1) := by decide +kernel
theorem dX4_pledge_5 : decode cX4_pledge 5 = .ok (.invokevirtual 299, 3) := by decide +kernel
theorem dX4_pledge_8 : decode cX4_pledge 8 = .ok (.ifCond .ne 9, 3) := by decide +kernel
theorem dX4_pledge_11 : decode cX4_pledge 11 = .ok (.aload_n 0, 1) := by decide +kernel
theorem dX4_pledge_12 : decode cX4_pledge 12 = .ok (.iconst 2, 1) := by decide +kernel
theorem dX4_pledge_13 : decode cX4_pledge 13 = .ok (.invokevirtual 188, 3) := by decide +kernel
theorem dX4_pledge_16 : decode cX4_pledge 16 = .ok (.return_, 1) := by decide +kernel
theorem dX4_pledge_17 : decode cX4_pledge 17 = .ok (.aload_n 0, 1) := by decide +kernel
theorem dX4_pledge_18 : decode cX4_pledge 18 = .ok (.getfield 38, 3) := by decide +kernel
theorem dX4_pledge_21 : decode cX4_pledge 21 = .ok (.bipush 10, 2) := by decide +kernel
theorem dX4_pledge_23 : decode cX4_pledge 23 = .ok (.invokevirtual 166, 3) := by decide +kernel
theorem dX4_pledge_26 : decode cX4_pledge 26 = .ok (.aload_n 0, 1) := by decide +kernel
theorem dX4_pledge_27 : decode cX4_pledge 27 = .ok (.aload_n 0, 1) := by decide +kernel
theorem dX4_pledge_28 : decode cX4_pledge 28 = .ok (.getfield 42, 3) := by decide +kernel
theorem dX4_pledge_31 : decode cX4_pledge 31 = .ok (.iload_n 1, 1) := by decide +kernel
theorem dX4_pledge_32 : decode cX4_pledge 32 = .ok (.iconst 3, 1) := by decide +kernel
theorem dX4_pledge_33 : decode cX4_pledge 33 = .ok (.iadd, 1) := by decide +kernel
theorem dX4_pledge_34 : decode cX4_pledge 34 = .ok (.invokevirtual 148, 3) := by decide +kernel
theorem dX4_pledge_37 : decode cX4_pledge 37 = .ok (.putfield 145, 3) := by decide +kernel
theorem dX4_pledge_40 : decode cX4_pledge 40 = .ok (.return_, 1) := by decide +kernel
def wX4_pledge (a0 : Nat) (x1 : Int32) (S : kp_S) (post : kp_S → Prop) : Prop :=
  wX4_frame a0 S (fun b2 T1 =>
  wX3_pledge b2 x1 T1 (fun y4 T3 =>
  ((¬ y4 = 0 →
  ∃ b5 : Nat, kp_R T3 801 a0 = some b5 ∧
  wX7_count b5 10 T3 (fun T6 =>
  ∃ b7 : Nat, kp_R T6 809 a0 = some b7 ∧
  wX0_get b7 (x1 + 3) T6 (fun y9 T8 =>
  ∀ T10 : kp_S, T10 = kp_sI T8 810 a0 y9 →
  post T10))) ∧ (y4 = 0 →
  wX4_trouble a0 2 T3 (fun T11 =>
  post T11)))))
set_option maxHeartbeats 4000000 in
set_option maxRecDepth 100000 in
theorem c_X4_pledge (l : Launch) (D : va_G) (cy : Nat → ClassId) (ad : (Nat → Nat) × (Nat → Nat)) (S : kp_S) (a0 : Nat) (x1 : Int32) (post : kp_S → Prop) (hS : kp_ok S) (f_a0 : kp_is S a0 4) (hw : wX4_pledge a0 x1 S post) : kp_M l yX4_pledge cX4_pledge 2 none { frames := 2, cells := 0, slots := 0, locals := 44 } D cy ad S [.ref a0, .int x1] 0 0 (fun A => kp_Qv D cy A S post) := by
  refine kp_start (own := RX4) (by decide) rfl (Nat.le_of_ble_eq_true rfl) hS ?_
  intro p e s m below meth c A ls X hr hlocks hname h hl
  have hle : kp_le S S := kp_le.rf
  have hl : lv_has ls 2 [(0, .ref a0), (1, .int x1)] := hl
  unfold wX4_pledge at hw
  have h : kp_H D cy A S s.heap s.heap [] := h
  revert h
  intro h
  refine lv_aload_n X.1 X.2.1 dX4_pledge_0 rfl (lv_at hl 0 rfl) ?_
  refine kp_callr X h (kp_runV (rm := { frames := 0, cells := 0, slots := 0, locals := 0 }) (mc := 0) (ms := 0) (rest := []) (Qc := fun A => kp_Qr D cy A S 3 _) X h (c_X4_frame l D cy ad S a0 _ h.2.2.2 f_a0 hw) f_a0 cv_4_172 ⟨by decide, by decide, rfl, rfl, by decide, by decide⟩ rfl hl.1 rfl (Nat.le_of_ble_eq_true rfl) dX4_pledge_1) (fun b2 T1 hw l_T1 f_b2 H locs h => ?_)
  have f_a0 := l_T1.is f_a0
  have hle := hle.tr l_T1
  refine lv_iload_n X.1 X.2.1 dX4_pledge_4 rfl (lv_at hl 1 rfl) ?_
  refine kp_calli X h (kp_runV (rm := { frames := 0, cells := 0, slots := 0, locals := 0 }) (mc := 0) (ms := 0) (rest := []) (Qc := fun A => kp_Qi D cy A T1 _) X h (c_X3_pledge l D cy ad T1 b2 x1 _ h.2.2.2 f_b2 hw) f_b2 cv_4_299 ⟨by decide, by decide, rfl, rfl, by decide, by decide⟩ rfl hl.1 rfl (Nat.le_of_ble_eq_true rfl) dX4_pledge_5) (fun y4 T3 hw l_T3 H locs h => ?_)
  have f_a0 := l_T3.is f_a0
  have f_b2 := l_T3.is f_b2
  have hle := hle.tr l_T3
  refine lv_if_ne (tgt := 17) X.1 X.2.1 dX4_pledge_8 (by decide) (fun c12 => ?_) (fun c12 => ?_)
  · have hw := hw.1 c12
    refine lv_aload_n X.1 X.2.1 dX4_pledge_17 rfl (lv_at hl 0 rfl) ?_
    obtain ⟨b5, e_b5, hw⟩ := hw
    have f_b5 := h.2.2.2.rf (c := 4) (k := 1) f_a0 (by decide) (by decide) e_b5 (t := 7) rfl
    refine kp_get X h f_a0 ff_4_38.l (v := .ref b5) (congrArg va_rf e_b5) dX4_pledge_18 ?_
    refine lv_bipush (v := 10) X.1 X.2.1 dX4_pledge_21 (by decide) ?_
    refine kp_callv X h (kp_runV (rm := { frames := 0, cells := 0, slots := 0, locals := 0 }) (mc := 0) (ms := 0) (rest := []) (Qc := fun A => kp_Qv D cy A T3 _) X h (c_X7_count l D cy ad T3 b5 10 _ h.2.2.2 f_b5 hw) f_b5 cv_4_166 ⟨by decide, by decide, rfl, rfl, by decide, by decide⟩ rfl hl.1 rfl (Nat.le_of_ble_eq_true rfl) dX4_pledge_23) (fun T6 hw l_T6 H locs h => ?_)
    have f_a0 := l_T6.is f_a0
    have f_b2 := l_T6.is f_b2
    have f_b5 := l_T6.is f_b5
    have hle := hle.tr l_T6
    refine lv_aload_n X.1 X.2.1 dX4_pledge_26 rfl (lv_at hl 0 rfl) ?_
    refine lv_aload_n X.1 X.2.1 dX4_pledge_27 rfl (lv_at hl 0 rfl) ?_
    obtain ⟨b7, e_b7, hw⟩ := hw
    have f_b7 := h.2.2.2.rf (c := 4) (k := 9) f_a0 (by decide) (by decide) e_b7 (t := 0) rfl
    refine kp_get X h f_a0 fp_4_42.l (v := .ref b7) (congrArg va_rf e_b7) dX4_pledge_28 ?_
    refine lv_iload_n X.1 X.2.1 dX4_pledge_31 rfl (lv_at hl 1 rfl) ?_
    refine lv_iconst (v := 3) X.1 X.2.1 dX4_pledge_32 (by decide) ?_
    refine lv_iadd X.1 X.2.1 dX4_pledge_33 ?_
    refine kp_calli X h (kp_runV (rm := { frames := 0, cells := 0, slots := 0, locals := 0 }) (mc := 0) (ms := 0) (rest := [.ref a0]) (Qc := fun A => kp_Qi D cy A T6 _) X h (c_X0_get l D cy ad T6 b7 (x1 + 3) _ h.2.2.2 f_b7 hw) f_b7 cv_4_148 ⟨by decide, by decide, rfl, rfl, by decide, by decide⟩ rfl hl.1 rfl (Nat.le_of_ble_eq_true rfl) dX4_pledge_34) (fun y9 T8 hw l_T8 H locs h => ?_)
    have f_a0 := l_T8.is f_a0
    have f_b2 := l_T8.is f_b2
    have f_b5 := l_T8.is f_b5
    have f_b7 := l_T8.is f_b7
    have hle := hle.tr l_T8
    refine kp_putI X h f_a0 fp_4_145 rfl ⟨rfl, rfl⟩ dX4_pledge_37 (fun T10 e_T10 l_T10 H locs h => ?_)
    have hw := hw T10 e_T10
    have f_a0 := l_T10.is f_a0
    have f_b2 := l_T10.is f_b2
    have f_b5 := l_T10.is f_b5
    have f_b7 := l_T10.is f_b7
    have hle := hle.tr l_T10
    exact kp_retv X hr hlocks h hle hw dX4_pledge_40
  · have hw := hw.2 c12
    refine lv_aload_n X.1 X.2.1 dX4_pledge_11 rfl (lv_at hl 0 rfl) ?_
    refine lv_iconst (v := 2) X.1 X.2.1 dX4_pledge_12 (by decide) ?_
    refine kp_callv X h (kp_runV (rm := { frames := 1, cells := 0, slots := 0, locals := 23 }) (mc := 0) (ms := 0) (rest := []) (Qc := fun A => kp_Qv D cy A T3 _) X h (c_X4_trouble l D cy ad T3 a0 2 _ h.2.2.2 f_a0 hw) f_a0 cv_4_188 ⟨by decide, by decide, rfl, rfl, by decide, by decide⟩ rfl hl.1 rfl (Nat.le_of_ble_eq_true rfl) dX4_pledge_13) (fun T11 hw l_T11 H locs h => ?_)
    have f_a0 := l_T11.is f_a0
    have f_b2 := l_T11.is f_b2
    have hle := hle.tr l_T11
    exact kp_retv X hr hlocks h hle hw dX4_pledge_16
theorem dX4_call_0 : decode cX4_call 0 = .ok (.aload_n 0, 1) := by decide +kernel
theorem dX4_call_1 : decode cX4_call 1 = .ok (.invokevirtual 229, 3) := by decide +kernel
theorem dX4_call_4 : decode cX4_call 4 = .ok (.ifCond .ne 4, 3) := by decide +kernel
theorem dX4_call_7 : decode cX4_call 7 = .ok (.return_, 1) := by decide +kernel
theorem dX4_call_8 : decode cX4_call 8 = .ok (.aload_n 0, 1) := by decide +kernel
theorem dX4_call_9 : decode cX4_call 9 = .ok (.getfield 57, 3) := by decide +kernel
theorem dX4_call_12 : decode cX4_call 12 = .ok (.bipush 12, 2) := by decide +kernel
theorem dX4_call_14 : decode cX4_call 14 = .ok (.if_icmp .lt 9, 3) := by decide +kernel
theorem dX4_call_17 : decode cX4_call 17 = .ok (.aload_n 0, 1) := by decide +kernel
theorem dX4_call_18 : decode cX4_call 18 = .ok (.iconst 2, 1) := by decide +kernel
theorem dX4_call_19 : decode cX4_call 19 = .ok (.invokevirtual 188, 3) := by decide +kernel
theorem dX4_call_22 : decode cX4_call 22 = .ok (.return_, 1) := by decide +kernel
theorem dX4_call_23 : decode cX4_call 23 = .ok (.aload_n 0, 1) := by decide +kernel
theorem dX4_call_24 : decode cX4_call 24 = .ok (.getfield 38, 3) := by decide +kernel
theorem dX4_call_27 : decode cX4_call 27 = .ok (.bipush 15, 2) := by decide +kernel
theorem dX4_call_29 : decode cX4_call 29 = .ok (.invokevirtual 166, 3) := by decide +kernel
theorem dX4_call_32 : decode cX4_call 32 = .ok (.aload_n 0, 1) := by decide +kernel
theorem dX4_call_33 : decode cX4_call 33 = .ok (.dup, 1) := by decide +kernel
theorem dX4_call_34 : decode cX4_call 34 = .ok (.getfield 57, 3) := by decide +kernel
theorem dX4_call_37 : decode cX4_call 37 = .ok (.iconst 1, 1) := by decide +kernel
theorem dX4_call_38 : decode cX4_call 38 = .ok (.iadd, 1) := by decide +kernel
theorem dX4_call_39 : decode cX4_call 39 = .ok (.putfield 57, 3) := by decide +kernel
theorem dX4_call_42 : decode cX4_call 42 = .ok (.aload_n 0, 1) := by decide +kernel
theorem dX4_call_43 : decode cX4_call 43 = .ok (.invokevirtual 172, 3) := by decide +kernel
theorem dX4_call_46 : decode cX4_call 46 = .ok (.astore_n 2, 1) := by decide +kernel
theorem dX4_call_47 : decode cX4_call 47 = .ok (.aload_n 2, 1) := by decide +kernel
theorem dX4_call_48 : decode cX4_call 48 = .ok (.invokevirtual 302, 3) := by decide +kernel
theorem dX4_call_51 : decode cX4_call 51 = .ok (.aload_n 0, 1) := by decide +kernel
theorem dX4_call_52 : decode cX4_call 52 = .ok (.getfield 42, 3) := by decide +kernel
theorem dX4_call_55 : decode cX4_call 55 = .ok (.iload_n 1, 1) := by decide +kernel
theorem dX4_call_56 : decode cX4_call 56 = .ok (.invokevirtual 79, 3) := by decide +kernel
theorem dX4_call_59 : decode cX4_call 59 = .ok (.iconst 1, 1) := by decide +kernel
theorem dX4_call_60 : decode cX4_call 60 = .ok (.isub, 1) := by decide +kernel
theorem dX4_call_61 : decode cX4_call 61 = .ok (.istore_n 3, 1) := by decide +kernel
theorem dX4_call_62 : decode cX4_call 62 = .ok (.iload_n 3, 1) := by decide +kernel
theorem dX4_call_63 : decode cX4_call 63 = .ok (.ifCond .lt 18, 3) := by decide +kernel
theorem dX4_call_66 : decode cX4_call 66 = .ok (.aload_n 2, 1) := by decide +kernel
theorem dX4_call_67 : decode cX4_call 67 = .ok (.iload_n 3, 1) := by decide +kernel
theorem dX4_call_68 : decode cX4_call 68 = .ok (.aload_n 0, 1) := by decide +kernel
theorem dX4_call_69 : decode cX4_call 69 = .ok (.invokevirtual 181, 3) := by decide +kernel
theorem dX4_call_72 : decode cX4_call 72 = .ok (.invokevirtual 222, 3) := by decide +kernel
theorem dX4_call_75 : decode cX4_call 75 = .ok (.iinc 3 (-1), 3) := by decide +kernel
theorem dX4_call_78 : decode cX4_call 78 = .ok (.goto (-16), 3) := by decide +kernel
theorem dX4_call_81 : decode cX4_call 81 = .ok (.aload_n 0, 1) := by decide +kernel
theorem dX4_call_82 : decode cX4_call 82 = .ok (.bipush 53, 2) := by decide +kernel
theorem dX4_call_84 : decode cX4_call 84 = .ok (.iconst 0, 1) := by decide +kernel
theorem dX4_call_85 : decode cX4_call 85 = .ok (.invokevirtual 279, 3) := by decide +kernel
theorem dX4_call_88 : decode cX4_call 88 = .ok (.astore_n 3, 1) := by decide +kernel
theorem dX4_call_89 : decode cX4_call 89 = .ok (.aload_n 3, 1) := by decide +kernel
theorem dX4_call_90 : decode cX4_call 90 = .ok (.aload_n 0, 1) := by decide +kernel
theorem dX4_call_91 : decode cX4_call 91 = .ok (.getfield 145, 3) := by decide +kernel
theorem dX4_call_94 : decode cX4_call 94 = .ok (.putfield 303, 3) := by decide +kernel
theorem dX4_call_97 : decode cX4_call 97 = .ok (.aload_n 3, 1) := by decide +kernel
theorem dX4_call_98 : decode cX4_call 98 = .ok (.aload_n 0, 1) := by decide +kernel
theorem dX4_call_99 : decode cX4_call 99 = .ok (.getfield 66, 3) := by decide +kernel
theorem dX4_call_102 : decode cX4_call 102 = .ok (.putfield 306, 3) := by decide +kernel
theorem dX4_call_105 : decode cX4_call 105 = .ok (.aload_n 0, 1) := by decide +kernel
theorem dX4_call_106 : decode cX4_call 106 = .ok (.aload_n 0, 1) := by decide +kernel
theorem dX4_call_107 : decode cX4_call 107 = .ok (.getfield 42, 3) := by decide +kernel
theorem dX4_call_110 : decode cX4_call 110 = .ok (.iload_n 1, 1) := by decide +kernel
theorem dX4_call_111 : decode cX4_call 111 = .ok (.invokevirtual 309, 3) := by decide +kernel
theorem dX4_call_114 : decode cX4_call 114 = .ok (.putfield 145, 3) := by decide +kernel
theorem dX4_call_117 : decode cX4_call 117 = .ok (.return_, 1) := by decide +kernel
def wX4_call_L62 (a0 : Nat) (x1 : Int32)  (post : kp_S → Prop) : Nat → Nat → Int32 → kp_S → Prop
  | 0, _, _, _ => False
  | n + 1, an2, xn3, Sn =>
  ((xn3 < 0 →
  wX4_begin a0 53 0 Sn (fun b1002 T1001 =>
  ∀ T1003 : kp_S, T1003 = kp_sI T1001 1205 b1002 (kp_I T1001 810 a0) →
  ∀ T1004 : kp_S, T1004 = kp_sI T1003 1206 b1002 (kp_I T1003 811 a0) →
  ∃ b1005 : Nat, kp_R T1004 809 a0 = some b1005 ∧
  wX0_entry b1005 x1 T1004 (fun y1007 T1006 =>
  ∀ T1008 : kp_S, T1008 = kp_sI T1006 810 a0 y1007 →
  post T1008))) ∧ (¬ xn3 < 0 →
  wX4_pop a0 Sn (fun y1010 T1009 =>
  wX3_set an2 xn3 y1010 T1009 (fun T1011 =>
  ∀ y1012 : Int32, y1012 = xn3 + (-1) →
  wX4_call_L62 a0 x1  post n an2 y1012 T1011))))
def wX4_call (a0 : Nat) (x1 : Int32) (S : kp_S) (post : kp_S → Prop) : Prop :=
  wX4_spend a0 S (fun y2 T1 =>
  ((¬ y2 = 0 →
  (((kp_I T1 805 a0) < 12 →
  ∃ b3 : Nat, kp_R T1 801 a0 = some b3 ∧
  wX7_count b3 15 T1 (fun T4 =>
  ∀ T5 : kp_S, T5 = kp_sI T4 805 a0 ((kp_I T4 805 a0) + 1) →
  wX4_frame a0 T5 (fun b7 T6 =>
  wX3_clear b7 T6 (fun T8 =>
  ∃ b9 : Nat, kp_R T8 809 a0 = some b9 ∧
  wX0_parameters b9 x1 T8 (fun y11 T10 =>
  ∀ y12 : Int32, y12 = (y11 - 1) →
  ∃ n0 : Nat, wX4_call_L62 a0 x1  post n0 b7 y12 T10))))) ∧ (¬ (kp_I T1 805 a0) < 12 →
  wX4_trouble a0 2 T1 (fun T13 =>
  post T13)))) ∧ (y2 = 0 →
  post T1)))
set_option maxHeartbeats 4000000 in
set_option maxRecDepth 100000 in
theorem c_X4_call (l : Launch) (D : va_G) (cy : Nat → ClassId) (ad : (Nat → Nat) × (Nat → Nat)) (S : kp_S) (a0 : Nat) (x1 : Int32) (post : kp_S → Prop) (hS : kp_ok S) (f_a0 : kp_is S a0 4) (hw : wX4_call a0 x1 S post) : kp_M l yX4_call cX4_call 4 none { frames := 2, cells := 0, slots := 0, locals := 44 } D cy ad S [.ref a0, .int x1] 0 0 (fun A => kp_Qv D cy A S post) := by
  refine kp_start (own := RX4) (by decide) rfl (Nat.le_of_ble_eq_true rfl) hS ?_
  intro p e s m below meth c A ls X hr hlocks hname h hl
  have hle : kp_le S S := kp_le.rf
  have hl : lv_has ls 4 [(0, .ref a0), (1, .int x1)] := hl
  have L62 : ∀ n62 : Nat, ∀ (an2 : Nat) (xn3 : Int32) (Sn : kp_S) (H : Heap) (locs : List Loc) (ls : Array Slot), lv_has ls 4 [(0, .ref a0), (1, .int x1), (2, .ref an2), (3, .int xn3)] → kp_H D cy A Sn s.heap H locs → kp_le S Sn → kp_is Sn a0 4 → kp_is Sn an2 3 → wX4_call_L62 a0 x1  post n62 an2 xn3 Sn → W p l e { frames := 2, cells := 0, slots := 0, locals := 44 } s m ([.ref a0, .int x1] : List Value).toArray below meth c H locs 0 0 (MQ below (kp_Qv D cy A S post) ([.ref a0, .int x1] : List Value).toArray s 0 0 A) (F0 m 62 ls []) := by
    intro n62
    induction n62 with
    | zero => intro an2 xn3 Sn H locs ls hl h hle f_a0 f_an2 hw; exact hw.elim
    | succ n62 ih62 =>
      intro an2 xn3 Sn H locs ls hl h hle f_a0 f_an2 hw
      unfold wX4_call_L62 at hw
      refine lv_iload_n X.1 X.2.1 dX4_call_62 rfl (lv_at hl 3 rfl) ?_
      refine lv_if_lt (tgt := 81) X.1 X.2.1 dX4_call_63 (by decide) (fun c1013 => ?_) (fun c1013 => ?_)
      · have hw := hw.1 c1013
        refine lv_aload_n X.1 X.2.1 dX4_call_81 rfl (lv_at hl 0 rfl) ?_
        refine lv_bipush (v := 53) X.1 X.2.1 dX4_call_82 (by decide) ?_
        refine lv_iconst (v := 0) X.1 X.2.1 dX4_call_84 (by decide) ?_
        refine kp_callr X h (kp_runV (rm := { frames := 1, cells := 0, slots := 0, locals := 20 }) (mc := 0) (ms := 0) (rest := []) (Qc := fun A => kp_Qr D cy A Sn 6 _) X h (c_X4_begin l D cy ad Sn a0 53 0 _ h.2.2.2 f_a0 hw) f_a0 cv_4_279 ⟨by decide, by decide, rfl, rfl, by decide, by decide⟩ rfl hl.1 rfl (Nat.le_of_ble_eq_true rfl) dX4_call_85) (fun b1002 T1001 hw l_T1001 f_b1002 H locs h => ?_)
        have f_a0 := l_T1001.is f_a0
        have f_an2 := l_T1001.is f_an2
        have hle := hle.tr l_T1001
        refine lv_astore_n (lv' := [(3, .ref b1002), (0, .ref a0), (1, .int x1), (2, .ref an2)]) X.1 X.2.1 dX4_call_88 rfl hl (by decide) rfl (fun ls hl => ?_)
        refine lv_aload_n X.1 X.2.1 dX4_call_89 rfl (lv_at hl 0 rfl) ?_
        refine lv_aload_n X.1 X.2.1 dX4_call_90 rfl (lv_at hl 1 rfl) ?_
        refine kp_get X h f_a0 fp_4_145.l (v := .int (kp_I T1001 810 a0)) rfl dX4_call_91 ?_
        refine kp_putI X h f_b1002 fp_4_303 rfl ⟨rfl, rfl⟩ dX4_call_94 (fun T1003 e_T1003 l_T1003 H locs h => ?_)
        have hw := hw T1003 e_T1003
        have f_a0 := l_T1003.is f_a0
        have f_an2 := l_T1003.is f_an2
        have f_b1002 := l_T1003.is f_b1002
        have hle := hle.tr l_T1003
        refine lv_aload_n X.1 X.2.1 dX4_call_97 rfl (lv_at hl 0 rfl) ?_
        refine lv_aload_n X.1 X.2.1 dX4_call_98 rfl (lv_at hl 1 rfl) ?_
        refine kp_get X h f_a0 fp_4_66.l (v := .int (kp_I T1003 811 a0)) rfl dX4_call_99 ?_
        refine kp_putI X h f_b1002 fp_4_306 rfl ⟨rfl, rfl⟩ dX4_call_102 (fun T1004 e_T1004 l_T1004 H locs h => ?_)
        have hw := hw T1004 e_T1004
        have f_a0 := l_T1004.is f_a0
        have f_an2 := l_T1004.is f_an2
        have f_b1002 := l_T1004.is f_b1002
        have hle := hle.tr l_T1004
        refine lv_aload_n X.1 X.2.1 dX4_call_105 rfl (lv_at hl 1 rfl) ?_
        refine lv_aload_n X.1 X.2.1 dX4_call_106 rfl (lv_at hl 1 rfl) ?_
        obtain ⟨b1005, e_b1005, hw⟩ := hw
        have f_b1005 := h.2.2.2.rf (c := 4) (k := 9) f_a0 (by decide) (by decide) e_b1005 (t := 0) rfl
        refine kp_get X h f_a0 fp_4_42.l (v := .ref b1005) (congrArg va_rf e_b1005) dX4_call_107 ?_
        refine lv_iload_n X.1 X.2.1 dX4_call_110 rfl (lv_at hl 2 rfl) ?_
        refine kp_calli X h (kp_runV (rm := { frames := 1, cells := 0, slots := 0, locals := 23 }) (mc := 0) (ms := 0) (rest := [.ref a0]) (Qc := fun A => kp_Qi D cy A T1004 _) X h (c_X0_entry l D cy ad T1004 b1005 x1 _ h.2.2.2 f_b1005 hw) f_b1005 cv_4_309 ⟨by decide, by decide, rfl, rfl, by decide, by decide⟩ rfl hl.1 rfl (Nat.le_of_ble_eq_true rfl) dX4_call_111) (fun y1007 T1006 hw l_T1006 H locs h => ?_)
        have f_a0 := l_T1006.is f_a0
        have f_an2 := l_T1006.is f_an2
        have f_b1002 := l_T1006.is f_b1002
        have f_b1005 := l_T1006.is f_b1005
        have hle := hle.tr l_T1006
        refine kp_putI X h f_a0 fp_4_145 rfl ⟨rfl, rfl⟩ dX4_call_114 (fun T1008 e_T1008 l_T1008 H locs h => ?_)
        have hw := hw T1008 e_T1008
        have f_a0 := l_T1008.is f_a0
        have f_an2 := l_T1008.is f_an2
        have f_b1002 := l_T1008.is f_b1002
        have f_b1005 := l_T1008.is f_b1005
        have hle := hle.tr l_T1008
        exact kp_retv X hr hlocks h hle hw dX4_call_117
      · have hw := hw.2 c1013
        refine lv_aload_n X.1 X.2.1 dX4_call_66 rfl (lv_at hl 2 rfl) ?_
        refine lv_iload_n X.1 X.2.1 dX4_call_67 rfl (lv_at hl 3 rfl) ?_
        refine lv_aload_n X.1 X.2.1 dX4_call_68 rfl (lv_at hl 0 rfl) ?_
        refine kp_calli X h (kp_runV (rm := { frames := 0, cells := 0, slots := 0, locals := 0 }) (mc := 0) (ms := 0) (rest := [.int xn3, .ref an2]) (Qc := fun A => kp_Qi D cy A Sn _) X h (c_X4_pop l D cy ad Sn a0 _ h.2.2.2 f_a0 hw) f_a0 cv_4_181 ⟨by decide, by decide, rfl, rfl, by decide, by decide⟩ rfl hl.1 rfl (Nat.le_of_ble_eq_true rfl) dX4_call_69) (fun y1010 T1009 hw l_T1009 H locs h => ?_)
        have f_a0 := l_T1009.is f_a0
        have f_an2 := l_T1009.is f_an2
        have hle := hle.tr l_T1009
        refine kp_callv X h (kp_runV (rm := { frames := 0, cells := 0, slots := 0, locals := 0 }) (mc := 0) (ms := 0) (rest := []) (Qc := fun A => kp_Qv D cy A T1009 _) X h (c_X3_set l D cy ad T1009 an2 xn3 y1010 _ h.2.2.2 f_an2 hw) f_an2 cv_4_222 ⟨by decide, by decide, rfl, rfl, by decide, by decide⟩ rfl hl.1 rfl (Nat.le_of_ble_eq_true rfl) dX4_call_72) (fun T1011 hw l_T1011 H locs h => ?_)
        have f_a0 := l_T1011.is f_a0
        have f_an2 := l_T1011.is f_an2
        have hle := hle.tr l_T1011
        obtain ⟨y1012, e_y1012⟩ : ∃ y : Int32, y = xn3 + (-1) := ⟨_, rfl⟩
        have hw := hw y1012 e_y1012
        refine lv_iinc (v := y1012) (lv' := [(3, .int y1012), (0, .ref a0), (1, .int x1), (2, .ref an2)]) X.1 X.2.1 dX4_call_75 hl (k := 3) rfl (by rw [e_y1012]; rfl) (by decide) rfl (fun ls hl => ?_)
        refine lv_goto (tgt := 62) X.1 X.2.1 dX4_call_78 (by decide) ?_
        exact ih62 an2 y1012 T1011 H locs ls (lv_sub hl [1, 2, 3, 0] rfl) h hle f_a0 f_an2 hw
  unfold wX4_call at hw
  have h : kp_H D cy A S s.heap s.heap [] := h
  revert h
  intro h
  refine lv_aload_n X.1 X.2.1 dX4_call_0 rfl (lv_at hl 0 rfl) ?_
  refine kp_calli X h (kp_runV (rm := { frames := 0, cells := 0, slots := 0, locals := 0 }) (mc := 0) (ms := 0) (rest := []) (Qc := fun A => kp_Qi D cy A S _) X h (c_X4_spend l D cy ad S a0 _ h.2.2.2 f_a0 hw) f_a0 cv_4_229 ⟨by decide, by decide, rfl, rfl, by decide, by decide⟩ rfl hl.1 rfl (Nat.le_of_ble_eq_true rfl) dX4_call_1) (fun y2 T1 hw l_T1 H locs h => ?_)
  have f_a0 := l_T1.is f_a0
  have hle := hle.tr l_T1
  refine lv_if_ne (tgt := 8) X.1 X.2.1 dX4_call_4 (by decide) (fun c15 => ?_) (fun c15 => ?_)
  · have hw := hw.1 c15
    refine lv_aload_n X.1 X.2.1 dX4_call_8 rfl (lv_at hl 0 rfl) ?_
    refine kp_get X h f_a0 fp_4_57.l (v := .int (kp_I T1 805 a0)) rfl dX4_call_9 ?_
    refine lv_bipush (v := 12) X.1 X.2.1 dX4_call_12 (by decide) ?_
    refine lv_icmp_lt (tgt := 23) X.1 X.2.1 dX4_call_14 (by decide) (fun c14 => ?_) (fun c14 => ?_)
    · have hw := hw.1 c14
      refine lv_aload_n X.1 X.2.1 dX4_call_23 rfl (lv_at hl 0 rfl) ?_
      obtain ⟨b3, e_b3, hw⟩ := hw
      have f_b3 := h.2.2.2.rf (c := 4) (k := 1) f_a0 (by decide) (by decide) e_b3 (t := 7) rfl
      refine kp_get X h f_a0 ff_4_38.l (v := .ref b3) (congrArg va_rf e_b3) dX4_call_24 ?_
      refine lv_bipush (v := 15) X.1 X.2.1 dX4_call_27 (by decide) ?_
      refine kp_callv X h (kp_runV (rm := { frames := 0, cells := 0, slots := 0, locals := 0 }) (mc := 0) (ms := 0) (rest := []) (Qc := fun A => kp_Qv D cy A T1 _) X h (c_X7_count l D cy ad T1 b3 15 _ h.2.2.2 f_b3 hw) f_b3 cv_4_166 ⟨by decide, by decide, rfl, rfl, by decide, by decide⟩ rfl hl.1 rfl (Nat.le_of_ble_eq_true rfl) dX4_call_29) (fun T4 hw l_T4 H locs h => ?_)
      have f_a0 := l_T4.is f_a0
      have f_b3 := l_T4.is f_b3
      have hle := hle.tr l_T4
      refine lv_aload_n X.1 X.2.1 dX4_call_32 rfl (lv_at hl 0 rfl) ?_
      refine lv_dup X.1 X.2.1 dX4_call_33 rfl ?_
      refine kp_get X h f_a0 fp_4_57.l (v := .int (kp_I T4 805 a0)) rfl dX4_call_34 ?_
      refine lv_iconst (v := 1) X.1 X.2.1 dX4_call_37 (by decide) ?_
      refine lv_iadd X.1 X.2.1 dX4_call_38 ?_
      refine kp_putI X h f_a0 fp_4_57 rfl ⟨rfl, rfl⟩ dX4_call_39 (fun T5 e_T5 l_T5 H locs h => ?_)
      have hw := hw T5 e_T5
      have f_a0 := l_T5.is f_a0
      have f_b3 := l_T5.is f_b3
      have hle := hle.tr l_T5
      refine lv_aload_n X.1 X.2.1 dX4_call_42 rfl (lv_at hl 0 rfl) ?_
      refine kp_callr X h (kp_runV (rm := { frames := 0, cells := 0, slots := 0, locals := 0 }) (mc := 0) (ms := 0) (rest := []) (Qc := fun A => kp_Qr D cy A T5 3 _) X h (c_X4_frame l D cy ad T5 a0 _ h.2.2.2 f_a0 hw) f_a0 cv_4_172 ⟨by decide, by decide, rfl, rfl, by decide, by decide⟩ rfl hl.1 rfl (Nat.le_of_ble_eq_true rfl) dX4_call_43) (fun b7 T6 hw l_T6 f_b7 H locs h => ?_)
      have f_a0 := l_T6.is f_a0
      have f_b3 := l_T6.is f_b3
      have hle := hle.tr l_T6
      refine lv_astore_n (lv' := [(2, .ref b7), (0, .ref a0), (1, .int x1)]) X.1 X.2.1 dX4_call_46 rfl hl (by decide) rfl (fun ls hl => ?_)
      refine lv_aload_n X.1 X.2.1 dX4_call_47 rfl (lv_at hl 0 rfl) ?_
      refine kp_callv X h (kp_runV (rm := { frames := 0, cells := 0, slots := 0, locals := 0 }) (mc := 0) (ms := 0) (rest := []) (Qc := fun A => kp_Qv D cy A T6 _) X h (c_X3_clear l D cy ad T6 b7 _ h.2.2.2 f_b7 hw) f_b7 cv_4_302 ⟨by decide, by decide, rfl, rfl, by decide, by decide⟩ rfl hl.1 rfl (Nat.le_of_ble_eq_true rfl) dX4_call_48) (fun T8 hw l_T8 H locs h => ?_)
      have f_a0 := l_T8.is f_a0
      have f_b3 := l_T8.is f_b3
      have f_b7 := l_T8.is f_b7
      have hle := hle.tr l_T8
      refine lv_aload_n X.1 X.2.1 dX4_call_51 rfl (lv_at hl 1 rfl) ?_
      obtain ⟨b9, e_b9, hw⟩ := hw
      have f_b9 := h.2.2.2.rf (c := 4) (k := 9) f_a0 (by decide) (by decide) e_b9 (t := 0) rfl
      refine kp_get X h f_a0 fp_4_42.l (v := .ref b9) (congrArg va_rf e_b9) dX4_call_52 ?_
      refine lv_iload_n X.1 X.2.1 dX4_call_55 rfl (lv_at hl 2 rfl) ?_
      refine kp_calli X h (kp_runV (rm := { frames := 1, cells := 0, slots := 0, locals := 23 }) (mc := 0) (ms := 0) (rest := []) (Qc := fun A => kp_Qi D cy A T8 _) X h (c_X0_parameters l D cy ad T8 b9 x1 _ h.2.2.2 f_b9 hw) f_b9 cv_4_79 ⟨by decide, by decide, rfl, rfl, by decide, by decide⟩ rfl hl.1 rfl (Nat.le_of_ble_eq_true rfl) dX4_call_56) (fun y11 T10 hw l_T10 H locs h => ?_)
      have f_a0 := l_T10.is f_a0
      have f_b3 := l_T10.is f_b3
      have f_b7 := l_T10.is f_b7
      have f_b9 := l_T10.is f_b9
      have hle := hle.tr l_T10
      refine lv_iconst (v := 1) X.1 X.2.1 dX4_call_59 (by decide) ?_
      refine lv_isub X.1 X.2.1 dX4_call_60 ?_
      refine lv_topi (fun y12 e_y12 => ?_)
      have hw := hw y12 e_y12
      refine lv_istore_n (lv' := [(3, .int y12), (2, .ref b7), (0, .ref a0), (1, .int x1)]) X.1 X.2.1 dX4_call_61 rfl hl (by decide) rfl (fun ls hl => ?_)
      obtain ⟨n0, hw⟩ := hw
      exact L62 n0 b7 y12 T10 _ _ ls (lv_sub hl [2, 3, 1, 0] rfl) h hle f_a0 f_b7 hw
    · have hw := hw.2 c14
      refine lv_aload_n X.1 X.2.1 dX4_call_17 rfl (lv_at hl 0 rfl) ?_
      refine lv_iconst (v := 2) X.1 X.2.1 dX4_call_18 (by decide) ?_
      refine kp_callv X h (kp_runV (rm := { frames := 1, cells := 0, slots := 0, locals := 23 }) (mc := 0) (ms := 0) (rest := []) (Qc := fun A => kp_Qv D cy A T1 _) X h (c_X4_trouble l D cy ad T1 a0 2 _ h.2.2.2 f_a0 hw) f_a0 cv_4_188 ⟨by decide, by decide, rfl, rfl, by decide, by decide⟩ rfl hl.1 rfl (Nat.le_of_ble_eq_true rfl) dX4_call_19) (fun T13 hw l_T13 H locs h => ?_)
      have f_a0 := l_T13.is f_a0
      have hle := hle.tr l_T13
      exact kp_retv X hr hlocks h hle hw dX4_call_22
  · have hw := hw.2 c15
    exact kp_retv X hr hlocks h hle hw dX4_call_7
theorem dX4_beginOrEnd_0 : decode cX4_beginOrEnd 0 = .ok (.aload_n 0, 1) := by decide +kernel
theorem dX4_beginOrEnd_1 : decode cX4_beginOrEnd 1 = .ok (.getfield 145, 3) := by decide +kernel
theorem dX4_beginOrEnd_4 : decode cX4_beginOrEnd 4 = .ok (.iconst 1, 1) := by decide +kernel
theorem dX4_beginOrEnd_5 : decode cX4_beginOrEnd 5 = .ok (.isub, 1) := by decide +kernel
theorem dX4_beginOrEnd_6 : decode cX4_beginOrEnd 6 = .ok (.istore_n 2, 1) := by decide +kernel
theorem dX4_beginOrEnd_7 : decode cX4_beginOrEnd 7 = .ok (.iload_n 1, 1) := by decide +kernel
theorem dX4_beginOrEnd_8 : decode cX4_beginOrEnd 8 = .ok (.tableswitch 168 45 53 #[52, 64, 64, 103, 168, 114, 138, 149, 157], 52) := by decide +kernel
theorem dX4_beginOrEnd_60 : decode cX4_beginOrEnd 60 = .ok (.aload_n 0, 1) := by decide +kernel
theorem dX4_beginOrEnd_61 : decode cX4_beginOrEnd 61 = .ok (.aload_n 0, 1) := by decide +kernel
theorem dX4_beginOrEnd_62 : decode cX4_beginOrEnd 62 = .ok (.invokevirtual 181, 3) := by decide +kernel
theorem dX4_beginOrEnd_65 : decode cX4_beginOrEnd 65 = .ok (.iload_n 2, 1) := by decide +kernel
theorem dX4_beginOrEnd_66 : decode cX4_beginOrEnd 66 = .ok (.invokevirtual 276, 3) := by decide +kernel
theorem dX4_beginOrEnd_69 : decode cX4_beginOrEnd 69 = .ok (.goto 116, 3) := by decide +kernel
theorem dX4_beginOrEnd_72 : decode cX4_beginOrEnd 72 = .ok (.aload_n 0, 1) := by decide +kernel
theorem dX4_beginOrEnd_73 : decode cX4_beginOrEnd 73 = .ok (.iload_n 1, 1) := by decide +kernel
theorem dX4_beginOrEnd_74 : decode cX4_beginOrEnd 74 = .ok (.iload_n 2, 1) := by decide +kernel
theorem dX4_beginOrEnd_75 : decode cX4_beginOrEnd 75 = .ok (.invokevirtual 279, 3) := by decide +kernel
theorem dX4_beginOrEnd_78 : decode cX4_beginOrEnd 78 = .ok (.pop, 1) := by decide +kernel
theorem dX4_beginOrEnd_79 : decode cX4_beginOrEnd 79 = .ok (.aload_n 0, 1) := by decide +kernel
theorem dX4_beginOrEnd_80 : decode cX4_beginOrEnd 80 = .ok (.getfield 42, 3) := by decide +kernel
theorem dX4_beginOrEnd_83 : decode cX4_beginOrEnd 83 = .ok (.iload_n 2, 1) := by decide +kernel
theorem dX4_beginOrEnd_84 : decode cX4_beginOrEnd 84 = .ok (.iconst 4, 1) := by decide +kernel
theorem dX4_beginOrEnd_85 : decode cX4_beginOrEnd 85 = .ok (.iadd, 1) := by decide +kernel
theorem dX4_beginOrEnd_86 : decode cX4_beginOrEnd 86 = .ok (.invokevirtual 148, 3) := by decide +kernel
theorem dX4_beginOrEnd_89 : decode cX4_beginOrEnd 89 = .ok (.ifCond .eq 12, 3) := by decide +kernel
theorem dX4_beginOrEnd_92 : decode cX4_beginOrEnd 92 = .ok (.aload_n 0, 1) := by decide +kernel
theorem dX4_beginOrEnd_93 : decode cX4_beginOrEnd 93 = .ok (.getfield 38, 3) := by decide +kernel
theorem dX4_beginOrEnd_96 : decode cX4_beginOrEnd 96 = .ok (.bipush 8, 2) := by decide +kernel
theorem dX4_beginOrEnd_98 : decode cX4_beginOrEnd 98 = .ok (.invokevirtual 166, 3) := by decide +kernel
theorem dX4_beginOrEnd_101 : decode cX4_beginOrEnd 101 = .ok (.aload_n 0, 1) := by decide +kernel
theorem dX4_beginOrEnd_102 : decode cX4_beginOrEnd 102 = .ok (.iload_n 2, 1) := by decide +kernel
theorem dX4_beginOrEnd_103 : decode cX4_beginOrEnd 103 = .ok (.iconst 5, 1) := by decide +kernel
theorem dX4_beginOrEnd_104 : decode cX4_beginOrEnd 104 = .ok (.iadd, 1) := by decide +kernel
theorem dX4_beginOrEnd_105 : decode cX4_beginOrEnd 105 = .ok (.putfield 145, 3) := by decide +kernel
theorem dX4_beginOrEnd_108 : decode cX4_beginOrEnd 108 = .ok (.goto 77, 3) := by decide +kernel
theorem dX4_beginOrEnd_111 : decode cX4_beginOrEnd 111 = .ok (.aload_n 0, 1) := by decide +kernel
theorem dX4_beginOrEnd_112 : decode cX4_beginOrEnd 112 = .ok (.aload_n 0, 1) := by decide +kernel
theorem dX4_beginOrEnd_113 : decode cX4_beginOrEnd 113 = .ok (.invokevirtual 149, 3) := by decide +kernel
theorem dX4_beginOrEnd_116 : decode cX4_beginOrEnd 116 = .ok (.invokevirtual 283, 3) := by decide +kernel
theorem dX4_beginOrEnd_119 : decode cX4_beginOrEnd 119 = .ok (.goto 66, 3) := by decide +kernel
theorem dX4_beginOrEnd_122 : decode cX4_beginOrEnd 122 = .ok (.aload_n 0, 1) := by decide +kernel
theorem dX4_beginOrEnd_123 : decode cX4_beginOrEnd 123 = .ok (.iload_n 1, 1) := by decide +kernel
theorem dX4_beginOrEnd_124 : decode cX4_beginOrEnd 124 = .ok (.iload_n 2, 1) := by decide +kernel
theorem dX4_beginOrEnd_125 : decode cX4_beginOrEnd 125 = .ok (.invokevirtual 279, 3) := by decide +kernel
theorem dX4_beginOrEnd_128 : decode cX4_beginOrEnd 128 = .ok (.pop, 1) := by decide +kernel
theorem dX4_beginOrEnd_129 : decode cX4_beginOrEnd 129 = .ok (.aload_n 0, 1) := by decide +kernel
theorem dX4_beginOrEnd_130 : decode cX4_beginOrEnd 130 = .ok (.aload_n 0, 1) := by decide +kernel
theorem dX4_beginOrEnd_131 : decode cX4_beginOrEnd 131 = .ok (.getfield 42, 3) := by decide +kernel
theorem dX4_beginOrEnd_134 : decode cX4_beginOrEnd 134 = .ok (.iload_n 2, 1) := by decide +kernel
theorem dX4_beginOrEnd_135 : decode cX4_beginOrEnd 135 = .ok (.iconst 2, 1) := by decide +kernel
theorem dX4_beginOrEnd_136 : decode cX4_beginOrEnd 136 = .ok (.iadd, 1) := by decide +kernel
theorem dX4_beginOrEnd_137 : decode cX4_beginOrEnd 137 = .ok (.invokevirtual 148, 3) := by decide +kernel
theorem dX4_beginOrEnd_140 : decode cX4_beginOrEnd 140 = .ok (.putfield 145, 3) := by decide +kernel
theorem dX4_beginOrEnd_143 : decode cX4_beginOrEnd 143 = .ok (.goto 42, 3) := by decide +kernel
theorem dX4_beginOrEnd_146 : decode cX4_beginOrEnd 146 = .ok (.aload_n 0, 1) := by decide +kernel
theorem dX4_beginOrEnd_147 : decode cX4_beginOrEnd 147 = .ok (.aload_n 0, 1) := by decide +kernel
theorem dX4_beginOrEnd_148 : decode cX4_beginOrEnd 148 = .ok (.invokevirtual 181, 3) := by decide +kernel
theorem dX4_beginOrEnd_151 : decode cX4_beginOrEnd 151 = .ok (.invokevirtual 287, 3) := by decide +kernel
theorem dX4_beginOrEnd_154 : decode cX4_beginOrEnd 154 = .ok (.goto 31, 3) := by decide +kernel
theorem dX4_beginOrEnd_157 : decode cX4_beginOrEnd 157 = .ok (.aload_n 0, 1) := by decide +kernel
theorem dX4_beginOrEnd_158 : decode cX4_beginOrEnd 158 = .ok (.iload_n 2, 1) := by decide +kernel
theorem dX4_beginOrEnd_159 : decode cX4_beginOrEnd 159 = .ok (.invokevirtual 290, 3) := by decide +kernel
theorem dX4_beginOrEnd_162 : decode cX4_beginOrEnd 162 = .ok (.goto 23, 3) := by decide +kernel
theorem dX4_beginOrEnd_165 : decode cX4_beginOrEnd 165 = .ok (.aload_n 0, 1) := by decide +kernel
theorem dX4_beginOrEnd_166 : decode cX4_beginOrEnd 166 = .ok (.aload_n 0, 1) := by decide +kernel
theorem dX4_beginOrEnd_167 : decode cX4_beginOrEnd 167 = .ok (.invokevirtual 123, 3) := by decide +kernel
theorem dX4_beginOrEnd_170 : decode cX4_beginOrEnd 170 = .ok (.invokevirtual 89, 3) := by decide +kernel
theorem dX4_beginOrEnd_173 : decode cX4_beginOrEnd 173 = .ok (.goto 12, 3) := by decide +kernel
theorem dX4_beginOrEnd_176 : decode cX4_beginOrEnd 176 = .ok (.aload_n 0, 1) := by decide +kernel
theorem dX4_beginOrEnd_177 : decode cX4_beginOrEnd 177 = .ok (.getfield 30, 3) := by decide +kernel
theorem dX4_beginOrEnd_180 : decode cX4_beginOrEnd 180 = .ok (.iconst 1, 1) := by decide +kernel
theorem dX4_beginOrEnd_181 : decode cX4_beginOrEnd 181 = .ok (.iconst 0, 1) := by decide +kernel
theorem dX4_beginOrEnd_182 : decode cX4_beginOrEnd 182 = .ok (.invokevirtual 75, 3) := by decide +kernel
theorem dX4_beginOrEnd_185 : decode cX4_beginOrEnd 185 = .ok (.return_, 1) := by decide +kernel
def wX4_beginOrEnd_b185 (a0 : Nat) (x1 : Int32)  (Sn : kp_S) (post : kp_S → Prop) : Prop :=
  post Sn
def wX4_beginOrEnd_b101 (a0 : Nat) (x1 : Int32) (xn2 : Int32)  (Sn : kp_S) (post : kp_S → Prop) : Prop :=
  ∀ T2001 : kp_S, T2001 = kp_sI Sn 810 a0 (xn2 + 5) →
  wX4_beginOrEnd_b185 a0 x1   T2001 post
def wX4_beginOrEnd_b72 (a0 : Nat) (x1 : Int32) (xn2 : Int32)  (Sn : kp_S) (post : kp_S → Prop) : Prop :=
  wX4_begin a0 x1 xn2 Sn (fun b3002 T3001 =>
  ∃ b3003 : Nat, kp_R T3001 809 a0 = some b3003 ∧
  wX0_get b3003 (xn2 + 4) T3001 (fun y3005 T3004 =>
  ((y3005 = 0 →
  wX4_beginOrEnd_b101 a0 x1 xn2  T3004 post) ∧ (¬ y3005 = 0 →
  ∃ b3006 : Nat, kp_R T3004 801 a0 = some b3006 ∧
  wX7_count b3006 8 T3004 (fun T3007 =>
  wX4_beginOrEnd_b101 a0 x1 xn2  T3007 post)))))
def wX4_beginOrEnd_b176 (a0 : Nat) (x1 : Int32)  (Sn : kp_S) (post : kp_S → Prop) : Prop :=
  ∃ b4001 : Nat, kp_R Sn 808 a0 = some b4001 ∧
  wX10_become b4001 1 0 Sn (fun T4002 =>
  wX4_beginOrEnd_b185 a0 x1   T4002 post)
def wX4_beginOrEnd (a0 : Nat) (x1 : Int32) (S : kp_S) (post : kp_S → Prop) : Prop :=
  ∀ y1 : Int32, y1 = ((kp_I S 810 a0) - 1) →
  ((x1 = 45 →
  wX4_pop a0 S (fun y4 T3 =>
  wX4_hold a0 y4 y1 T3 (fun T5 =>
  wX4_beginOrEnd_b185 a0 x1   T5 post))) ∧ (¬ x1 = 45 →
  ((x1 = 46 →
  wX4_beginOrEnd_b72 a0 x1 y1  S post) ∧ (¬ x1 = 46 →
  ((x1 = 47 →
  wX4_beginOrEnd_b72 a0 x1 y1  S post) ∧ (¬ x1 = 47 →
  ((x1 = 48 →
  wX4_top a0 S (fun b10 T9 =>
  wX4_mended a0 b10 T9 (fun T11 =>
  wX4_beginOrEnd_b185 a0 x1   T11 post))) ∧ (¬ x1 = 48 →
  ((x1 = 49 →
  wX4_beginOrEnd_b176 a0 x1   S post) ∧ (¬ x1 = 49 →
  ((x1 = 50 →
  wX4_begin a0 x1 y1 S (fun b15 T14 =>
  ∃ b16 : Nat, kp_R T14 809 a0 = some b16 ∧
  wX0_get b16 (y1 + 2) T14 (fun y18 T17 =>
  ∀ T19 : kp_S, T19 = kp_sI T17 810 a0 y18 →
  wX4_beginOrEnd_b185 a0 x1   T19 post))) ∧ (¬ x1 = 50 →
  ((x1 = 51 →
  wX4_pop a0 S (fun y22 T21 =>
  wX4_ensured a0 y22 T21 (fun T23 =>
  wX4_beginOrEnd_b185 a0 x1   T23 post))) ∧ (¬ x1 = 51 →
  ((x1 = 52 →
  wX4_pledge a0 y1 S (fun T25 =>
  wX4_beginOrEnd_b185 a0 x1   T25 post)) ∧ (¬ x1 = 52 →
  ((x1 = 53 →
  wX4_take a0 S (fun y28 T27 =>
  wX4_call a0 y28 T27 (fun T29 =>
  wX4_beginOrEnd_b185 a0 x1   T29 post))) ∧ (¬ x1 = 53 →
  wX4_beginOrEnd_b176 a0 x1   S post))))))))))))))))))
set_option maxHeartbeats 4000000 in
set_option maxRecDepth 100000 in
theorem c_X4_beginOrEnd (l : Launch) (D : va_G) (cy : Nat → ClassId) (ad : (Nat → Nat) × (Nat → Nat)) (S : kp_S) (a0 : Nat) (x1 : Int32) (post : kp_S → Prop) (hS : kp_ok S) (f_a0 : kp_is S a0 4) (hw : wX4_beginOrEnd a0 x1 S post) : kp_M l yX4_beginOrEnd cX4_beginOrEnd 3 none { frames := 3, cells := 0, slots := 0, locals := 67 } D cy ad S [.ref a0, .int x1] 0 0 (fun A => kp_Qv D cy A S post) := by
  refine kp_start (own := RX4) (by decide) rfl (Nat.le_of_ble_eq_true rfl) hS ?_
  intro p e s m below meth c A ls X hr hlocks hname h hl
  have hle : kp_le S S := kp_le.rf
  have hl : lv_has ls 3 [(0, .ref a0), (1, .int x1)] := hl
  have j185 : ∀  (Sn : kp_S) (H : Heap) (locs : List Loc) (ls : Array Slot), lv_has ls 3 [] → kp_H D cy A Sn s.heap H locs → kp_le S Sn → kp_is Sn a0 4 → wX4_beginOrEnd_b185 a0 x1   Sn post → W p l e { frames := 3, cells := 0, slots := 0, locals := 67 } s m ([.ref a0, .int x1] : List Value).toArray below meth c H locs 0 0 (MQ below (kp_Qv D cy A S post) ([.ref a0, .int x1] : List Value).toArray s 0 0 A) (F0 m 185 ls []) := by
    intro  Sn H locs ls hl h hle f_a0 hw
    unfold wX4_beginOrEnd_b185 at hw
    exact kp_retv X hr hlocks h hle hw dX4_beginOrEnd_185
  have j101 : ∀ (xn2 : Int32) (Sn : kp_S) (H : Heap) (locs : List Loc) (ls : Array Slot), lv_has ls 3 [(0, .ref a0), (2, .int xn2)] → kp_H D cy A Sn s.heap H locs → kp_le S Sn → kp_is Sn a0 4 → wX4_beginOrEnd_b101 a0 x1 xn2  Sn post → W p l e { frames := 3, cells := 0, slots := 0, locals := 67 } s m ([.ref a0, .int x1] : List Value).toArray below meth c H locs 0 0 (MQ below (kp_Qv D cy A S post) ([.ref a0, .int x1] : List Value).toArray s 0 0 A) (F0 m 101 ls []) := by
    intro xn2 Sn H locs ls hl h hle f_a0 hw
    unfold wX4_beginOrEnd_b101 at hw
    refine lv_aload_n X.1 X.2.1 dX4_beginOrEnd_101 rfl (lv_at hl 0 rfl) ?_
    refine lv_iload_n X.1 X.2.1 dX4_beginOrEnd_102 rfl (lv_at hl 1 rfl) ?_
    refine lv_iconst (v := 5) X.1 X.2.1 dX4_beginOrEnd_103 (by decide) ?_
    refine lv_iadd X.1 X.2.1 dX4_beginOrEnd_104 ?_
    refine kp_putI X h f_a0 fp_4_145 rfl ⟨rfl, rfl⟩ dX4_beginOrEnd_105 (fun T2001 e_T2001 l_T2001 H locs h => ?_)
    have hw := hw T2001 e_T2001
    have f_a0 := l_T2001.is f_a0
    have hle := hle.tr l_T2001
    refine lv_goto (tgt := 185) X.1 X.2.1 dX4_beginOrEnd_108 (by decide) ?_
    exact j185  T2001 H locs ls (lv_sub hl [] rfl) h hle f_a0 hw
  have j72 : ∀ (xn2 : Int32) (Sn : kp_S) (H : Heap) (locs : List Loc) (ls : Array Slot), lv_has ls 3 [(0, .ref a0), (1, .int x1), (2, .int xn2)] → kp_H D cy A Sn s.heap H locs → kp_le S Sn → kp_is Sn a0 4 → wX4_beginOrEnd_b72 a0 x1 xn2  Sn post → W p l e { frames := 3, cells := 0, slots := 0, locals := 67 } s m ([.ref a0, .int x1] : List Value).toArray below meth c H locs 0 0 (MQ below (kp_Qv D cy A S post) ([.ref a0, .int x1] : List Value).toArray s 0 0 A) (F0 m 72 ls []) := by
    intro xn2 Sn H locs ls hl h hle f_a0 hw
    unfold wX4_beginOrEnd_b72 at hw
    refine lv_aload_n X.1 X.2.1 dX4_beginOrEnd_72 rfl (lv_at hl 0 rfl) ?_
    refine lv_iload_n X.1 X.2.1 dX4_beginOrEnd_73 rfl (lv_at hl 1 rfl) ?_
    refine lv_iload_n X.1 X.2.1 dX4_beginOrEnd_74 rfl (lv_at hl 2 rfl) ?_
    refine kp_callr X h (kp_runV (rm := { frames := 1, cells := 0, slots := 0, locals := 20 }) (mc := 0) (ms := 0) (rest := []) (Qc := fun A => kp_Qr D cy A Sn 6 _) X h (c_X4_begin l D cy ad Sn a0 x1 xn2 _ h.2.2.2 f_a0 hw) f_a0 cv_4_279 ⟨by decide, by decide, rfl, rfl, by decide, by decide⟩ rfl hl.1 rfl (Nat.le_of_ble_eq_true rfl) dX4_beginOrEnd_75) (fun b3002 T3001 hw l_T3001 f_b3002 H locs h => ?_)
    have f_a0 := l_T3001.is f_a0
    have hle := hle.tr l_T3001
    refine lv_pop X.1 X.2.1 dX4_beginOrEnd_78 rfl ?_
    refine lv_aload_n X.1 X.2.1 dX4_beginOrEnd_79 rfl (lv_at hl 0 rfl) ?_
    obtain ⟨b3003, e_b3003, hw⟩ := hw
    have f_b3003 := h.2.2.2.rf (c := 4) (k := 9) f_a0 (by decide) (by decide) e_b3003 (t := 0) rfl
    refine kp_get X h f_a0 fp_4_42.l (v := .ref b3003) (congrArg va_rf e_b3003) dX4_beginOrEnd_80 ?_
    refine lv_iload_n X.1 X.2.1 dX4_beginOrEnd_83 rfl (lv_at hl 2 rfl) ?_
    refine lv_iconst (v := 4) X.1 X.2.1 dX4_beginOrEnd_84 (by decide) ?_
    refine lv_iadd X.1 X.2.1 dX4_beginOrEnd_85 ?_
    refine kp_calli X h (kp_runV (rm := { frames := 0, cells := 0, slots := 0, locals := 0 }) (mc := 0) (ms := 0) (rest := []) (Qc := fun A => kp_Qi D cy A T3001 _) X h (c_X0_get l D cy ad T3001 b3003 (xn2 + 4) _ h.2.2.2 f_b3003 hw) f_b3003 cv_4_148 ⟨by decide, by decide, rfl, rfl, by decide, by decide⟩ rfl hl.1 rfl (Nat.le_of_ble_eq_true rfl) dX4_beginOrEnd_86) (fun y3005 T3004 hw l_T3004 H locs h => ?_)
    have f_a0 := l_T3004.is f_a0
    have f_b3002 := l_T3004.is f_b3002
    have f_b3003 := l_T3004.is f_b3003
    have hle := hle.tr l_T3004
    refine lv_if_eq (tgt := 101) X.1 X.2.1 dX4_beginOrEnd_89 (by decide) (fun c3008 => ?_) (fun c3008 => ?_)
    · have hw := hw.1 c3008
      exact j101 xn2 T3004 H locs ls (lv_sub hl [0, 2] rfl) h hle f_a0 hw
    · have hw := hw.2 c3008
      refine lv_aload_n X.1 X.2.1 dX4_beginOrEnd_92 rfl (lv_at hl 0 rfl) ?_
      obtain ⟨b3006, e_b3006, hw⟩ := hw
      have f_b3006 := h.2.2.2.rf (c := 4) (k := 1) f_a0 (by decide) (by decide) e_b3006 (t := 7) rfl
      refine kp_get X h f_a0 ff_4_38.l (v := .ref b3006) (congrArg va_rf e_b3006) dX4_beginOrEnd_93 ?_
      refine lv_bipush (v := 8) X.1 X.2.1 dX4_beginOrEnd_96 (by decide) ?_
      refine kp_callv X h (kp_runV (rm := { frames := 0, cells := 0, slots := 0, locals := 0 }) (mc := 0) (ms := 0) (rest := []) (Qc := fun A => kp_Qv D cy A T3004 _) X h (c_X7_count l D cy ad T3004 b3006 8 _ h.2.2.2 f_b3006 hw) f_b3006 cv_4_166 ⟨by decide, by decide, rfl, rfl, by decide, by decide⟩ rfl hl.1 rfl (Nat.le_of_ble_eq_true rfl) dX4_beginOrEnd_98) (fun T3007 hw l_T3007 H locs h => ?_)
      have f_a0 := l_T3007.is f_a0
      have f_b3002 := l_T3007.is f_b3002
      have f_b3003 := l_T3007.is f_b3003
      have f_b3006 := l_T3007.is f_b3006
      have hle := hle.tr l_T3007
      exact j101 xn2 T3007 H locs ls (lv_sub hl [0, 2] rfl) h hle f_a0 hw
  have j176 : ∀  (Sn : kp_S) (H : Heap) (locs : List Loc) (ls : Array Slot), lv_has ls 3 [(0, .ref a0)] → kp_H D cy A Sn s.heap H locs → kp_le S Sn → kp_is Sn a0 4 → wX4_beginOrEnd_b176 a0 x1   Sn post → W p l e { frames := 3, cells := 0, slots := 0, locals := 67 } s m ([.ref a0, .int x1] : List Value).toArray below meth c H locs 0 0 (MQ below (kp_Qv D cy A S post) ([.ref a0, .int x1] : List Value).toArray s 0 0 A) (F0 m 176 ls []) := by
    intro  Sn H locs ls hl h hle f_a0 hw
    unfold wX4_beginOrEnd_b176 at hw
    refine lv_aload_n X.1 X.2.1 dX4_beginOrEnd_176 rfl (lv_at hl 0 rfl) ?_
    obtain ⟨b4001, e_b4001, hw⟩ := hw
    have f_b4001 := h.2.2.2.rf (c := 4) (k := 8) f_a0 (by decide) (by decide) e_b4001 (t := 10) rfl
    refine kp_get X h f_a0 ff_4_30.l (v := .ref b4001) (congrArg va_rf e_b4001) dX4_beginOrEnd_177 ?_
    refine lv_iconst (v := 1) X.1 X.2.1 dX4_beginOrEnd_180 (by decide) ?_
    refine lv_iconst (v := 0) X.1 X.2.1 dX4_beginOrEnd_181 (by decide) ?_
    refine kp_callv X h (kp_runV (rm := { frames := 0, cells := 0, slots := 0, locals := 0 }) (mc := 0) (ms := 0) (rest := []) (Qc := fun A => kp_Qv D cy A Sn _) X h (c_X10_become l D cy ad Sn b4001 1 0 _ h.2.2.2 f_b4001 hw) f_b4001 cv_4_75 ⟨by decide, by decide, rfl, rfl, by decide, by decide⟩ rfl hl.1 rfl (Nat.le_of_ble_eq_true rfl) dX4_beginOrEnd_182) (fun T4002 hw l_T4002 H locs h => ?_)
    have f_a0 := l_T4002.is f_a0
    have f_b4001 := l_T4002.is f_b4001
    have hle := hle.tr l_T4002
    exact j185  T4002 H locs ls (lv_sub hl [] rfl) h hle f_a0 hw
  unfold wX4_beginOrEnd at hw
  have h : kp_H D cy A S s.heap s.heap [] := h
  revert h
  intro h
  refine lv_aload_n X.1 X.2.1 dX4_beginOrEnd_0 rfl (lv_at hl 0 rfl) ?_
  refine kp_get X h f_a0 fp_4_145.l (v := .int (kp_I S 810 a0)) rfl dX4_beginOrEnd_1 ?_
  refine lv_iconst (v := 1) X.1 X.2.1 dX4_beginOrEnd_4 (by decide) ?_
  refine lv_isub X.1 X.2.1 dX4_beginOrEnd_5 ?_
  refine lv_topi (fun y1 e_y1 => ?_)
  have hw := hw y1 e_y1
  refine lv_istore_n (lv' := [(2, .int y1), (0, .ref a0), (1, .int x1)]) X.1 X.2.1 dX4_beginOrEnd_6 rfl hl (by decide) rfl (fun ls hl => ?_)
  refine lv_iload_n X.1 X.2.1 dX4_beginOrEnd_7 rfl (lv_at hl 2 rfl) ?_
  by_cases c2 : x1 = 45
  · have hw := hw.1 c2
    refine lv_tableIn (off := 52) (tgt := 60) X.1 X.2.1 dX4_beginOrEnd_8 (by rw [c2]; decide) (by rw [c2]; decide) (by rw [c2]; decide) (by decide) ?_
    refine lv_aload_n X.1 X.2.1 dX4_beginOrEnd_60 rfl (lv_at hl 1 rfl) ?_
    refine lv_aload_n X.1 X.2.1 dX4_beginOrEnd_61 rfl (lv_at hl 1 rfl) ?_
    refine kp_calli X h (kp_runV (rm := { frames := 0, cells := 0, slots := 0, locals := 0 }) (mc := 0) (ms := 0) (rest := [.ref a0]) (Qc := fun A => kp_Qi D cy A S _) X h (c_X4_pop l D cy ad S a0 _ h.2.2.2 f_a0 hw) f_a0 cv_4_181 ⟨by decide, by decide, rfl, rfl, by decide, by decide⟩ rfl hl.1 rfl (Nat.le_of_ble_eq_true rfl) dX4_beginOrEnd_62) (fun y4 T3 hw l_T3 H locs h => ?_)
    have f_a0 := l_T3.is f_a0
    have hle := hle.tr l_T3
    refine lv_iload_n X.1 X.2.1 dX4_beginOrEnd_65 rfl (lv_at hl 0 rfl) ?_
    refine kp_callv X h (kp_runV (rm := { frames := 2, cells := 0, slots := 0, locals := 44 }) (mc := 0) (ms := 0) (rest := []) (Qc := fun A => kp_Qv D cy A T3 _) X h (c_X4_hold l D cy ad T3 a0 y4 y1 _ h.2.2.2 f_a0 hw) f_a0 cv_4_276 ⟨by decide, by decide, rfl, rfl, by decide, by decide⟩ rfl hl.1 rfl (Nat.le_of_ble_eq_true rfl) dX4_beginOrEnd_66) (fun T5 hw l_T5 H locs h => ?_)
    have f_a0 := l_T5.is f_a0
    have hle := hle.tr l_T5
    refine lv_goto (tgt := 185) X.1 X.2.1 dX4_beginOrEnd_69 (by decide) ?_
    exact j185  T5 _ _ ls (lv_sub hl [] rfl) h hle f_a0 hw
  have hw := hw.2 c2
  by_cases c6 : x1 = 46
  · have hw := hw.1 c6
    refine lv_tableIn (off := 64) (tgt := 72) X.1 X.2.1 dX4_beginOrEnd_8 (by rw [c6]; decide) (by rw [c6]; decide) (by rw [c6]; decide) (by decide) ?_
    exact j72 y1 S _ _ ls (lv_sub hl [1, 2, 0] rfl) h hle f_a0 hw
  have hw := hw.2 c6
  by_cases c7 : x1 = 47
  · have hw := hw.1 c7
    refine lv_tableIn (off := 64) (tgt := 72) X.1 X.2.1 dX4_beginOrEnd_8 (by rw [c7]; decide) (by rw [c7]; decide) (by rw [c7]; decide) (by decide) ?_
    exact j72 y1 S _ _ ls (lv_sub hl [1, 2, 0] rfl) h hle f_a0 hw
  have hw := hw.2 c7
  by_cases c8 : x1 = 48
  · have hw := hw.1 c8
    refine lv_tableIn (off := 103) (tgt := 111) X.1 X.2.1 dX4_beginOrEnd_8 (by rw [c8]; decide) (by rw [c8]; decide) (by rw [c8]; decide) (by decide) ?_
    refine lv_aload_n X.1 X.2.1 dX4_beginOrEnd_111 rfl (lv_at hl 1 rfl) ?_
    refine lv_aload_n X.1 X.2.1 dX4_beginOrEnd_112 rfl (lv_at hl 1 rfl) ?_
    refine kp_callr X h (kp_runV (rm := { frames := 0, cells := 0, slots := 0, locals := 0 }) (mc := 0) (ms := 0) (rest := [.ref a0]) (Qc := fun A => kp_Qr D cy A S 6 _) X h (c_X4_top l D cy ad S a0 _ h.2.2.2 f_a0 hw) f_a0 cv_4_149 ⟨by decide, by decide, rfl, rfl, by decide, by decide⟩ rfl hl.1 rfl (Nat.le_of_ble_eq_true rfl) dX4_beginOrEnd_113) (fun b10 T9 hw l_T9 f_b10 H locs h => ?_)
    have f_a0 := l_T9.is f_a0
    have hle := hle.tr l_T9
    refine kp_callv X h (kp_runV (rm := { frames := 1, cells := 0, slots := 0, locals := 23 }) (mc := 0) (ms := 0) (rest := []) (Qc := fun A => kp_Qv D cy A T9 _) X h (c_X4_mended l D cy ad T9 a0 b10 _ h.2.2.2 f_a0 f_b10 hw) f_a0 cv_4_283 ⟨by decide, by decide, rfl, rfl, by decide, by decide⟩ rfl hl.1 rfl (Nat.le_of_ble_eq_true rfl) dX4_beginOrEnd_116) (fun T11 hw l_T11 H locs h => ?_)
    have f_a0 := l_T11.is f_a0
    have f_b10 := l_T11.is f_b10
    have hle := hle.tr l_T11
    refine lv_goto (tgt := 185) X.1 X.2.1 dX4_beginOrEnd_119 (by decide) ?_
    exact j185  T11 _ _ ls (lv_sub hl [] rfl) h hle f_a0 hw
  have hw := hw.2 c8
  by_cases c12 : x1 = 49
  · have hw := hw.1 c12
    refine lv_tableIn (off := 168) (tgt := 176) X.1 X.2.1 dX4_beginOrEnd_8 (by rw [c12]; decide) (by rw [c12]; decide) (by rw [c12]; decide) (by decide) ?_
    exact j176  S _ _ ls (lv_sub hl [1] rfl) h hle f_a0 hw
  have hw := hw.2 c12
  by_cases c13 : x1 = 50
  · have hw := hw.1 c13
    refine lv_tableIn (off := 114) (tgt := 122) X.1 X.2.1 dX4_beginOrEnd_8 (by rw [c13]; decide) (by rw [c13]; decide) (by rw [c13]; decide) (by decide) ?_
    refine lv_aload_n X.1 X.2.1 dX4_beginOrEnd_122 rfl (lv_at hl 1 rfl) ?_
    refine lv_iload_n X.1 X.2.1 dX4_beginOrEnd_123 rfl (lv_at hl 2 rfl) ?_
    refine lv_iload_n X.1 X.2.1 dX4_beginOrEnd_124 rfl (lv_at hl 0 rfl) ?_
    refine kp_callr X h (kp_runV (rm := { frames := 1, cells := 0, slots := 0, locals := 20 }) (mc := 0) (ms := 0) (rest := []) (Qc := fun A => kp_Qr D cy A S 6 _) X h (c_X4_begin l D cy ad S a0 x1 y1 _ h.2.2.2 f_a0 hw) f_a0 cv_4_279 ⟨by decide, by decide, rfl, rfl, by decide, by decide⟩ rfl hl.1 rfl (Nat.le_of_ble_eq_true rfl) dX4_beginOrEnd_125) (fun b15 T14 hw l_T14 f_b15 H locs h => ?_)
    have f_a0 := l_T14.is f_a0
    have hle := hle.tr l_T14
    refine lv_pop X.1 X.2.1 dX4_beginOrEnd_128 rfl ?_
    refine lv_aload_n X.1 X.2.1 dX4_beginOrEnd_129 rfl (lv_at hl 1 rfl) ?_
    refine lv_aload_n X.1 X.2.1 dX4_beginOrEnd_130 rfl (lv_at hl 1 rfl) ?_
    obtain ⟨b16, e_b16, hw⟩ := hw
    have f_b16 := h.2.2.2.rf (c := 4) (k := 9) f_a0 (by decide) (by decide) e_b16 (t := 0) rfl
    refine kp_get X h f_a0 fp_4_42.l (v := .ref b16) (congrArg va_rf e_b16) dX4_beginOrEnd_131 ?_
    refine lv_iload_n X.1 X.2.1 dX4_beginOrEnd_134 rfl (lv_at hl 0 rfl) ?_
    refine lv_iconst (v := 2) X.1 X.2.1 dX4_beginOrEnd_135 (by decide) ?_
    refine lv_iadd X.1 X.2.1 dX4_beginOrEnd_136 ?_
    refine kp_calli X h (kp_runV (rm := { frames := 0, cells := 0, slots := 0, locals := 0 }) (mc := 0) (ms := 0) (rest := [.ref a0]) (Qc := fun A => kp_Qi D cy A T14 _) X h (c_X0_get l D cy ad T14 b16 (y1 + 2) _ h.2.2.2 f_b16 hw) f_b16 cv_4_148 ⟨by decide, by decide, rfl, rfl, by decide, by decide⟩ rfl hl.1 rfl (Nat.le_of_ble_eq_true rfl) dX4_beginOrEnd_137) (fun y18 T17 hw l_T17 H locs h => ?_)
    have f_a0 := l_T17.is f_a0
    have f_b15 := l_T17.is f_b15
    have f_b16 := l_T17.is f_b16
    have hle := hle.tr l_T17
    refine kp_putI X h f_a0 fp_4_145 rfl ⟨rfl, rfl⟩ dX4_beginOrEnd_140 (fun T19 e_T19 l_T19 H locs h => ?_)
    have hw := hw T19 e_T19
    have f_a0 := l_T19.is f_a0
    have f_b15 := l_T19.is f_b15
    have f_b16 := l_T19.is f_b16
    have hle := hle.tr l_T19
    refine lv_goto (tgt := 185) X.1 X.2.1 dX4_beginOrEnd_143 (by decide) ?_
    exact j185  T19 _ _ ls (lv_sub hl [] rfl) h hle f_a0 hw
  have hw := hw.2 c13
  by_cases c20 : x1 = 51
  · have hw := hw.1 c20
    refine lv_tableIn (off := 138) (tgt := 146) X.1 X.2.1 dX4_beginOrEnd_8 (by rw [c20]; decide) (by rw [c20]; decide) (by rw [c20]; decide) (by decide) ?_
    refine lv_aload_n X.1 X.2.1 dX4_beginOrEnd_146 rfl (lv_at hl 1 rfl) ?_
    refine lv_aload_n X.1 X.2.1 dX4_beginOrEnd_147 rfl (lv_at hl 1 rfl) ?_
    refine kp_calli X h (kp_runV (rm := { frames := 0, cells := 0, slots := 0, locals := 0 }) (mc := 0) (ms := 0) (rest := [.ref a0]) (Qc := fun A => kp_Qi D cy A S _) X h (c_X4_pop l D cy ad S a0 _ h.2.2.2 f_a0 hw) f_a0 cv_4_181 ⟨by decide, by decide, rfl, rfl, by decide, by decide⟩ rfl hl.1 rfl (Nat.le_of_ble_eq_true rfl) dX4_beginOrEnd_148) (fun y22 T21 hw l_T21 H locs h => ?_)
    have f_a0 := l_T21.is f_a0
    have hle := hle.tr l_T21
    refine kp_callv X h (kp_runV (rm := { frames := 2, cells := 0, slots := 0, locals := 44 }) (mc := 0) (ms := 0) (rest := []) (Qc := fun A => kp_Qv D cy A T21 _) X h (c_X4_ensured l D cy ad T21 a0 y22 _ h.2.2.2 f_a0 hw) f_a0 cv_4_287 ⟨by decide, by decide, rfl, rfl, by decide, by decide⟩ rfl hl.1 rfl (Nat.le_of_ble_eq_true rfl) dX4_beginOrEnd_151) (fun T23 hw l_T23 H locs h => ?_)
    have f_a0 := l_T23.is f_a0
    have hle := hle.tr l_T23
    refine lv_goto (tgt := 185) X.1 X.2.1 dX4_beginOrEnd_154 (by decide) ?_
    exact j185  T23 _ _ ls (lv_sub hl [] rfl) h hle f_a0 hw
  have hw := hw.2 c20
  by_cases c24 : x1 = 52
  · have hw := hw.1 c24
    refine lv_tableIn (off := 149) (tgt := 157) X.1 X.2.1 dX4_beginOrEnd_8 (by rw [c24]; decide) (by rw [c24]; decide) (by rw [c24]; decide) (by decide) ?_
    refine lv_aload_n X.1 X.2.1 dX4_beginOrEnd_157 rfl (lv_at hl 1 rfl) ?_
    refine lv_iload_n X.1 X.2.1 dX4_beginOrEnd_158 rfl (lv_at hl 0 rfl) ?_
    refine kp_callv X h (kp_runV (rm := { frames := 2, cells := 0, slots := 0, locals := 44 }) (mc := 0) (ms := 0) (rest := []) (Qc := fun A => kp_Qv D cy A S _) X h (c_X4_pledge l D cy ad S a0 y1 _ h.2.2.2 f_a0 hw) f_a0 cv_4_290 ⟨by decide, by decide, rfl, rfl, by decide, by decide⟩ rfl hl.1 rfl (Nat.le_of_ble_eq_true rfl) dX4_beginOrEnd_159) (fun T25 hw l_T25 H locs h => ?_)
    have f_a0 := l_T25.is f_a0
    have hle := hle.tr l_T25
    refine lv_goto (tgt := 185) X.1 X.2.1 dX4_beginOrEnd_162 (by decide) ?_
    exact j185  T25 _ _ ls (lv_sub hl [] rfl) h hle f_a0 hw
  have hw := hw.2 c24
  by_cases c26 : x1 = 53
  · have hw := hw.1 c26
    refine lv_tableIn (off := 157) (tgt := 165) X.1 X.2.1 dX4_beginOrEnd_8 (by rw [c26]; decide) (by rw [c26]; decide) (by rw [c26]; decide) (by decide) ?_
    refine lv_aload_n X.1 X.2.1 dX4_beginOrEnd_165 rfl (lv_at hl 1 rfl) ?_
    refine lv_aload_n X.1 X.2.1 dX4_beginOrEnd_166 rfl (lv_at hl 1 rfl) ?_
    refine kp_calli X h (kp_runV (rm := { frames := 1, cells := 0, slots := 0, locals := 21 }) (mc := 0) (ms := 0) (rest := [.ref a0]) (Qc := fun A => kp_Qi D cy A S _) X h (c_X4_take l D cy ad S a0 _ h.2.2.2 f_a0 hw) f_a0 cv_4_123 ⟨by decide, by decide, rfl, rfl, by decide, by decide⟩ rfl hl.1 rfl (Nat.le_of_ble_eq_true rfl) dX4_beginOrEnd_167) (fun y28 T27 hw l_T27 H locs h => ?_)
    have f_a0 := l_T27.is f_a0
    have hle := hle.tr l_T27
    refine kp_callv X h (kp_runV (rm := { frames := 2, cells := 0, slots := 0, locals := 44 }) (mc := 0) (ms := 0) (rest := []) (Qc := fun A => kp_Qv D cy A T27 _) X h (c_X4_call l D cy ad T27 a0 y28 _ h.2.2.2 f_a0 hw) f_a0 cv_4_89 ⟨by decide, by decide, rfl, rfl, by decide, by decide⟩ rfl hl.1 rfl (Nat.le_of_ble_eq_true rfl) dX4_beginOrEnd_170) (fun T29 hw l_T29 H locs h => ?_)
    have f_a0 := l_T29.is f_a0
    have hle := hle.tr l_T29
    refine lv_goto (tgt := 185) X.1 X.2.1 dX4_beginOrEnd_173 (by decide) ?_
    exact j185  T29 _ _ ls (lv_sub hl [] rfl) h hle f_a0 hw
  have hw := hw.2 c26
  have t_c2 := lv_neT (a := 45) c2 (by decide)
  have t_c6 := lv_neT (a := 46) c6 (by decide)
  have t_c7 := lv_neT (a := 47) c7 (by decide)
  have t_c8 := lv_neT (a := 48) c8 (by decide)
  have t_c12 := lv_neT (a := 49) c12 (by decide)
  have t_c13 := lv_neT (a := 50) c13 (by decide)
  have t_c20 := lv_neT (a := 51) c20 (by decide)
  have t_c24 := lv_neT (a := 52) c24 (by decide)
  have t_c26 := lv_neT (a := 53) c26 (by decide)
  refine lv_tableOut (tgt := 176) X.1 X.2.1 dX4_beginOrEnd_8 (by omega) (by decide) ?_
  exact j176  S _ _ ls (lv_sub hl [1] rfl) h hle f_a0 hw
theorem dX4_goOn_0 : decode cX4_goOn 0 = .ok (.aload_n 0, 1) := by decide +kernel
theorem dX4_goOn_1 : decode cX4_goOn 1 = .ok (.aload_n 1, 1) := by decide +kernel
theorem dX4_goOn_2 : decode cX4_goOn 2 = .ok (.getfield 162, 3) := by decide +kernel
theorem dX4_goOn_5 : decode cX4_goOn 5 = .ok (.putfield 53, 3) := by decide +kernel
theorem dX4_goOn_8 : decode cX4_goOn 8 = .ok (.aload_n 0, 1) := by decide +kernel
theorem dX4_goOn_9 : decode cX4_goOn 9 = .ok (.getfield 30, 3) := by decide +kernel
theorem dX4_goOn_12 : decode cX4_goOn 12 = .ok (.iconst 0, 1) := by decide +kernel
theorem dX4_goOn_13 : decode cX4_goOn 13 = .ok (.putfield 93, 3) := by decide +kernel
theorem dX4_goOn_16 : decode cX4_goOn 16 = .ok (.aload_n 0, 1) := by decide +kernel
theorem dX4_goOn_17 : decode cX4_goOn 17 = .ok (.iload_n 2, 1) := by decide +kernel
theorem dX4_goOn_18 : decode cX4_goOn 18 = .ok (.putfield 145, 3) := by decide +kernel
theorem dX4_goOn_21 : decode cX4_goOn 21 = .ok (.return_, 1) := by decide +kernel
def wX4_goOn (a0 : Nat) (a1 : Nat) (x2 : Int32) (S : kp_S) (post : kp_S → Prop) : Prop :=
  ∀ T1 : kp_S, T1 = kp_sI S 803 a0 (kp_I S 1203 a1) →
  ∃ b2 : Nat, kp_R T1 808 a0 = some b2 ∧
  ∀ T3 : kp_S, T3 = kp_sI T1 2000 b2 0 →
  ∀ T4 : kp_S, T4 = kp_sI T3 810 a0 x2 →
  post T4
set_option maxHeartbeats 4000000 in
set_option maxRecDepth 100000 in
theorem c_X4_goOn (l : Launch) (D : va_G) (cy : Nat → ClassId) (ad : (Nat → Nat) × (Nat → Nat)) (S : kp_S) (a0 : Nat) (a1 : Nat) (x2 : Int32) (post : kp_S → Prop) (hS : kp_ok S) (f_a0 : kp_is S a0 4) (f_a1 : kp_is S a1 6) (hw : wX4_goOn a0 a1 x2 S post) : kp_M l yX4_goOn cX4_goOn 3 none { frames := 0, cells := 0, slots := 0, locals := 0 } D cy ad S [.ref a0, .ref a1, .int x2] 0 0 (fun A => kp_Qv D cy A S post) := by
  refine kp_start (own := RX4) (by decide) rfl (Nat.le_of_ble_eq_true rfl) hS ?_
  intro p e s m below meth c A ls X hr hlocks hname h hl
  have hle : kp_le S S := kp_le.rf
  have hl : lv_has ls 3 [(0, .ref a0), (1, .ref a1), (2, .int x2)] := hl
  unfold wX4_goOn at hw
  have h : kp_H D cy A S s.heap s.heap [] := h
  revert h
  intro h
  refine lv_aload_n X.1 X.2.1 dX4_goOn_0 rfl (lv_at hl 0 rfl) ?_
  refine lv_aload_n X.1 X.2.1 dX4_goOn_1 rfl (lv_at hl 1 rfl) ?_
  refine kp_get X h f_a1 fp_4_162.l (v := .int (kp_I S 1203 a1)) rfl dX4_goOn_2 ?_
  refine kp_putI X h f_a0 fp_4_53 rfl ⟨rfl, rfl⟩ dX4_goOn_5 (fun T1 e_T1 l_T1 H locs h => ?_)
  have hw := hw T1 e_T1
  have f_a0 := l_T1.is f_a0
  have f_a1 := l_T1.is f_a1
  have hle := hle.tr l_T1
  refine lv_aload_n X.1 X.2.1 dX4_goOn_8 rfl (lv_at hl 0 rfl) ?_
  obtain ⟨b2, e_b2, hw⟩ := hw
  have f_b2 := h.2.2.2.rf (c := 4) (k := 8) f_a0 (by decide) (by decide) e_b2 (t := 10) rfl
  refine kp_get X h f_a0 ff_4_30.l (v := .ref b2) (congrArg va_rf e_b2) dX4_goOn_9 ?_
  refine lv_iconst (v := 0) X.1 X.2.1 dX4_goOn_12 (by decide) ?_
  refine kp_putI X h f_b2 fp_4_93 rfl ⟨rfl, rfl⟩ dX4_goOn_13 (fun T3 e_T3 l_T3 H locs h => ?_)
  have hw := hw T3 e_T3
  have f_a0 := l_T3.is f_a0
  have f_a1 := l_T3.is f_a1
  have f_b2 := l_T3.is f_b2
  have hle := hle.tr l_T3
  have e_b2 : kp_R T3 808 a0 = some b2 := by rw [e_T3]; exact e_b2
  refine lv_aload_n X.1 X.2.1 dX4_goOn_16 rfl (lv_at hl 0 rfl) ?_
  refine lv_iload_n X.1 X.2.1 dX4_goOn_17 rfl (lv_at hl 2 rfl) ?_
  refine kp_putI X h f_a0 fp_4_145 rfl ⟨rfl, rfl⟩ dX4_goOn_18 (fun T4 e_T4 l_T4 H locs h => ?_)
  have hw := hw T4 e_T4
  have f_a0 := l_T4.is f_a0
  have f_a1 := l_T4.is f_a1
  have f_b2 := l_T4.is f_b2
  have hle := hle.tr l_T4
  have e_b2 : kp_R T4 808 a0 = some b2 := by rw [e_T4]; exact e_b2
  exact kp_retv X hr hlocks h hle hw dX4_goOn_21
theorem dX4_leave_0 : decode cX4_leave 0 = .ok (.aload_n 0, 1) := by decide +kernel
theorem dX4_leave_1 : decode cX4_leave 1 = .ok (.dup, 1) := by decide +kernel
theorem dX4_leave_2 : decode cX4_leave 2 = .ok (.getfield 60, 3) := by decide +kernel
theorem dX4_leave_5 : decode cX4_leave 5 = .ok (.iconst 1, 1) := by decide +kernel
theorem dX4_leave_6 : decode cX4_leave 6 = .ok (.isub, 1) := by decide +kernel
theorem dX4_leave_7 : decode cX4_leave 7 = .ok (.putfield 60, 3) := by decide +kernel
theorem dX4_leave_10 : decode cX4_leave 10 = .ok (.aload_n 0, 1) := by decide +kernel
theorem dX4_leave_11 : decode cX4_leave 11 = .ok (.getfield 30, 3) := by decide +kernel
theorem dX4_leave_14 : decode cX4_leave 14 = .ok (.getfield 93, 3) := by decide +kernel
theorem dX4_leave_17 : decode cX4_leave 17 = .ok (.iconst 1, 1) := by decide +kernel
theorem dX4_leave_18 : decode cX4_leave 18 = .ok (.if_icmp .ne 9, 3) := by decide +kernel
theorem dX4_leave_21 : decode cX4_leave 21 = .ok (.aload_n 0, 1) := by decide +kernel
theorem dX4_leave_22 : decode cX4_leave 22 = .ok (.aload_n 1, 1) := by decide +kernel
theorem dX4_leave_23 : decode cX4_leave 23 = .ok (.iload_n 2, 1) := by decide +kernel
theorem dX4_leave_24 : decode cX4_leave 24 = .ok (.invokevirtual 331, 3) := by decide +kernel
theorem dX4_leave_27 : decode cX4_leave 27 = .ok (.return_, 1) := by decide +kernel
def wX4_leave_b27 (a0 : Nat) (a1 : Nat) (x2 : Int32)  (Sn : kp_S) (post : kp_S → Prop) : Prop :=
  post Sn
def wX4_leave (a0 : Nat) (a1 : Nat) (x2 : Int32) (S : kp_S) (post : kp_S → Prop) : Prop :=
  ∀ T1 : kp_S, T1 = kp_sI S 807 a0 ((kp_I S 807 a0) - 1) →
  ∃ b2 : Nat, kp_R T1 808 a0 = some b2 ∧
  ((¬ (kp_I T1 2000 b2) = 1 →
  wX4_leave_b27 a0 a1 x2   T1 post) ∧ ((kp_I T1 2000 b2) = 1 →
  wX4_goOn a0 a1 x2 T1 (fun T3 =>
  wX4_leave_b27 a0 a1 x2   T3 post)))
set_option maxHeartbeats 4000000 in
set_option maxRecDepth 100000 in
theorem c_X4_leave (l : Launch) (D : va_G) (cy : Nat → ClassId) (ad : (Nat → Nat) × (Nat → Nat)) (S : kp_S) (a0 : Nat) (a1 : Nat) (x2 : Int32) (post : kp_S → Prop) (hS : kp_ok S) (f_a0 : kp_is S a0 4) (f_a1 : kp_is S a1 6) (hw : wX4_leave a0 a1 x2 S post) : kp_M l yX4_leave cX4_leave 3 none { frames := 1, cells := 0, slots := 0, locals := 22 } D cy ad S [.ref a0, .ref a1, .int x2] 0 0 (fun A => kp_Qv D cy A S post) := by
  refine kp_start (own := RX4) (by decide) rfl (Nat.le_of_ble_eq_true rfl) hS ?_
  intro p e s m below meth c A ls X hr hlocks hname h hl
  have hle : kp_le S S := kp_le.rf
  have hl : lv_has ls 3 [(0, .ref a0), (1, .ref a1), (2, .int x2)] := hl
  have j27 : ∀  (Sn : kp_S) (H : Heap) (locs : List Loc) (ls : Array Slot), lv_has ls 3 [] → kp_H D cy A Sn s.heap H locs → kp_le S Sn → kp_is Sn a0 4 → kp_is Sn a1 6 → wX4_leave_b27 a0 a1 x2   Sn post → W p l e { frames := 1, cells := 0, slots := 0, locals := 22 } s m ([.ref a0, .ref a1, .int x2] : List Value).toArray below meth c H locs 0 0 (MQ below (kp_Qv D cy A S post) ([.ref a0, .ref a1, .int x2] : List Value).toArray s 0 0 A) (F0 m 27 ls []) := by
    intro  Sn H locs ls hl h hle f_a0 f_a1 hw
    unfold wX4_leave_b27 at hw
    exact kp_retv X hr hlocks h hle hw dX4_leave_27
  unfold wX4_leave at hw
  have h : kp_H D cy A S s.heap s.heap [] := h
  revert h
  intro h
  refine lv_aload_n X.1 X.2.1 dX4_leave_0 rfl (lv_at hl 0 rfl) ?_
  refine lv_dup X.1 X.2.1 dX4_leave_1 rfl ?_
  refine kp_get X h f_a0 fp_4_60.l (v := .int (kp_I S 807 a0)) rfl dX4_leave_2 ?_
  refine lv_iconst (v := 1) X.1 X.2.1 dX4_leave_5 (by decide) ?_
  refine lv_isub X.1 X.2.1 dX4_leave_6 ?_
  refine kp_putI X h f_a0 fp_4_60 rfl ⟨rfl, rfl⟩ dX4_leave_7 (fun T1 e_T1 l_T1 H locs h => ?_)
  have hw := hw T1 e_T1
  have f_a0 := l_T1.is f_a0
  have f_a1 := l_T1.is f_a1
  have hle := hle.tr l_T1
  refine lv_aload_n X.1 X.2.1 dX4_leave_10 rfl (lv_at hl 0 rfl) ?_
  obtain ⟨b2, e_b2, hw⟩ := hw
  have f_b2 := h.2.2.2.rf (c := 4) (k := 8) f_a0 (by decide) (by decide) e_b2 (t := 10) rfl
  refine kp_get X h f_a0 ff_4_30.l (v := .ref b2) (congrArg va_rf e_b2) dX4_leave_11 ?_
  refine kp_get X h f_b2 fp_4_93.l (v := .int (kp_I T1 2000 b2)) rfl dX4_leave_14 ?_
  refine lv_iconst (v := 1) X.1 X.2.1 dX4_leave_17 (by decide) ?_
  refine lv_icmp_ne (tgt := 27) X.1 X.2.1 dX4_leave_18 (by decide) (fun c4 => ?_) (fun c4 => ?_)
  · have hw := hw.1 c4
    exact j27  T1 _ _ ls (lv_sub hl [] rfl) h hle f_a0 f_a1 hw
  · have hw := hw.2 c4
    refine lv_aload_n X.1 X.2.1 dX4_leave_21 rfl (lv_at hl 0 rfl) ?_
    refine lv_aload_n X.1 X.2.1 dX4_leave_22 rfl (lv_at hl 1 rfl) ?_
    refine lv_iload_n X.1 X.2.1 dX4_leave_23 rfl (lv_at hl 2 rfl) ?_
    refine kp_callv X h (kp_runV (rm := { frames := 0, cells := 0, slots := 0, locals := 0 }) (mc := 0) (ms := 0) (rest := []) (Qc := fun A => kp_Qv D cy A T1 _) X h (c_X4_goOn l D cy ad T1 a0 a1 x2 _ h.2.2.2 f_a0 f_a1 hw) f_a0 cv_4_331 ⟨by decide, by decide, rfl, rfl, by decide, by decide⟩ rfl hl.1 rfl (Nat.le_of_ble_eq_true rfl) dX4_leave_24) (fun T3 hw l_T3 H locs h => ?_)
    have f_a0 := l_T3.is f_a0
    have f_a1 := l_T3.is f_a1
    have f_b2 := l_T3.is f_b2
    have hle := hle.tr l_T3
    exact j27  T3 _ _ ls (lv_sub hl [] rfl) h hle f_a0 f_a1 hw
theorem dX4_keepWay_0 : decode cX4_keepWay 0 = .ok (.aload_n 1, 1) := by decide +kernel
theorem dX4_keepWay_1 : decode cX4_keepWay 1 = .ok (.getfield 226, 3) := by decide +kernel
theorem dX4_keepWay_4 : decode cX4_keepWay 4 = .ok (.aload_n 0, 1) := by decide +kernel
theorem dX4_keepWay_5 : decode cX4_keepWay 5 = .ok (.getfield 30, 3) := by decide +kernel
theorem dX4_keepWay_8 : decode cX4_keepWay 8 = .ok (.invokevirtual 327, 3) := by decide +kernel
theorem dX4_keepWay_11 : decode cX4_keepWay 11 = .ok (.aload_n 1, 1) := by decide +kernel
theorem dX4_keepWay_12 : decode cX4_keepWay 12 = .ok (.iload_n 2, 1) := by decide +kernel
theorem dX4_keepWay_13 : decode cX4_keepWay 13 = .ok (.putfield 156, 3) := by decide +kernel
theorem dX4_keepWay_16 : decode cX4_keepWay 16 = .ok (.aload_n 0, 1) := by decide +kernel
theorem dX4_keepWay_17 : decode cX4_keepWay 17 = .ok (.getfield 30, 3) := by decide +kernel
theorem dX4_keepWay_20 : decode cX4_keepWay 20 = .ok (.getfield 93, 3) := by decide +kernel
theorem dX4_keepWay_23 : decode cX4_keepWay 23 = .ok (.iconst 4, 1) := by decide +kernel
theorem dX4_keepWay_24 : decode cX4_keepWay 24 = .ok (.if_icmp .ne 14, 3) := by decide +kernel
theorem dX4_keepWay_27 : decode cX4_keepWay 27 = .ok (.aload_n 0, 1) := by decide +kernel
theorem dX4_keepWay_28 : decode cX4_keepWay 28 = .ok (.aload_n 0, 1) := by decide +kernel
theorem dX4_keepWay_29 : decode cX4_keepWay 29 = .ok (.getfield 30, 3) := by decide +kernel
theorem dX4_keepWay_32 : decode cX4_keepWay 32 = .ok (.getfield 111, 3) := by decide +kernel
theorem dX4_keepWay_35 : decode cX4_keepWay 35 = .ok (.putfield 63, 3) := by decide +kernel
theorem dX4_keepWay_38 : decode cX4_keepWay 38 = .ok (.aload_n 0, 1) := by decide +kernel
theorem dX4_keepWay_39 : decode cX4_keepWay 39 = .ok (.aload_n 1, 1) := by decide +kernel
theorem dX4_keepWay_40 : decode cX4_keepWay 40 = .ok (.iload_n 3, 1) := by decide +kernel
theorem dX4_keepWay_41 : decode cX4_keepWay 41 = .ok (.invokevirtual 331, 3) := by decide +kernel
theorem dX4_keepWay_44 : decode cX4_keepWay 44 = .ok (.return_, 1) := by decide +kernel
def wX4_keepWay_b38 (a0 : Nat) (a1 : Nat) (x2 : Int32) (x3 : Int32)  (Sn : kp_S) (post : kp_S → Prop) : Prop :=
  wX4_goOn a0 a1 x3 Sn (fun T1001 =>
  post T1001)
def wX4_keepWay (a0 : Nat) (a1 : Nat) (x2 : Int32) (x3 : Int32) (S : kp_S) (post : kp_S → Prop) : Prop :=
  ∃ b1 : Nat, kp_R S 1208 a1 = some b1 ∧
  ∃ b2 : Nat, kp_R S 808 a0 = some b2 ∧
  wX10_copy b1 b2 S (fun T3 =>
  ∀ T4 : kp_S, T4 = kp_sI T3 1201 a1 x2 →
  ∃ b5 : Nat, kp_R T4 808 a0 = some b5 ∧
  ((¬ (kp_I T4 2000 b5) = 4 →
  wX4_keepWay_b38 a0 a1 x2 x3   T4 post) ∧ ((kp_I T4 2000 b5) = 4 →
  ∀ T6 : kp_S, T6 = kp_sI T4 812 a0 (kp_I T4 2001 b5) →
  wX4_keepWay_b38 a0 a1 x2 x3   T6 post)))
set_option maxHeartbeats 4000000 in
set_option maxRecDepth 100000 in
theorem c_X4_keepWay (l : Launch) (D : va_G) (cy : Nat → ClassId) (ad : (Nat → Nat) × (Nat → Nat)) (S : kp_S) (a0 : Nat) (a1 : Nat) (x2 : Int32) (x3 : Int32) (post : kp_S → Prop) (hS : kp_ok S) (f_a0 : kp_is S a0 4) (f_a1 : kp_is S a1 6) (hw : wX4_keepWay a0 a1 x2 x3 S post) : kp_M l yX4_keepWay cX4_keepWay 4 none { frames := 1, cells := 0, slots := 0, locals := 22 } D cy ad S [.ref a0, .ref a1, .int x2, .int x3] 0 0 (fun A => kp_Qv D cy A S post) := by
  refine kp_start (own := RX4) (by decide) rfl (Nat.le_of_ble_eq_true rfl) hS ?_
  intro p e s m below meth c A ls X hr hlocks hname h hl
  have hle : kp_le S S := kp_le.rf
  have hl : lv_has ls 4 [(0, .ref a0), (1, .ref a1), (2, .int x2), (3, .int x3)] := hl
  have j38 : ∀  (Sn : kp_S) (H : Heap) (locs : List Loc) (ls : Array Slot), lv_has ls 4 [(0, .ref a0), (1, .ref a1), (3, .int x3)] → kp_H D cy A Sn s.heap H locs → kp_le S Sn → kp_is Sn a0 4 → kp_is Sn a1 6 → wX4_keepWay_b38 a0 a1 x2 x3   Sn post → W p l e { frames := 1, cells := 0, slots := 0, locals := 22 } s m ([.ref a0, .ref a1, .int x2, .int x3] : List Value).toArray below meth c H locs 0 0 (MQ below (kp_Qv D cy A S post) ([.ref a0, .ref a1, .int x2, .int x3] : List Value).toArray s 0 0 A) (F0 m 38 ls []) := by
    intro  Sn H locs ls hl h hle f_a0 f_a1 hw
    unfold wX4_keepWay_b38 at hw
    refine lv_aload_n X.1 X.2.1 dX4_keepWay_38 rfl (lv_at hl 0 rfl) ?_
    refine lv_aload_n X.1 X.2.1 dX4_keepWay_39 rfl (lv_at hl 1 rfl) ?_
    refine lv_iload_n X.1 X.2.1 dX4_keepWay_40 rfl (lv_at hl 2 rfl) ?_
    refine kp_callv X h (kp_runV (rm := { frames := 0, cells := 0, slots := 0, locals := 0 }) (mc := 0) (ms := 0) (rest := []) (Qc := fun A => kp_Qv D cy A Sn _) X h (c_X4_goOn l D cy ad Sn a0 a1 x3 _ h.2.2.2 f_a0 f_a1 hw) f_a0 cv_4_331 ⟨by decide, by decide, rfl, rfl, by decide, by decide⟩ rfl hl.1 rfl (Nat.le_of_ble_eq_true rfl) dX4_keepWay_41) (fun T1001 hw l_T1001 H locs h => ?_)
    have f_a0 := l_T1001.is f_a0
    have f_a1 := l_T1001.is f_a1
    have hle := hle.tr l_T1001
    exact kp_retv X hr hlocks h hle hw dX4_keepWay_44
  unfold wX4_keepWay at hw
  have h : kp_H D cy A S s.heap s.heap [] := h
  revert h
  intro h
  refine lv_aload_n X.1 X.2.1 dX4_keepWay_0 rfl (lv_at hl 1 rfl) ?_
  obtain ⟨b1, e_b1, hw⟩ := hw
  have f_b1 := h.2.2.2.rf (c := 6) (k := 8) f_a1 (by decide) (by decide) e_b1 (t := 10) rfl
  refine kp_get X h f_a1 fl_4_226 (v := .ref b1) (congrArg va_rf e_b1) dX4_keepWay_1 ?_
  refine lv_aload_n X.1 X.2.1 dX4_keepWay_4 rfl (lv_at hl 0 rfl) ?_
  obtain ⟨b2, e_b2, hw⟩ := hw
  have f_b2 := h.2.2.2.rf (c := 4) (k := 8) f_a0 (by decide) (by decide) e_b2 (t := 10) rfl
  refine kp_get X h f_a0 ff_4_30.l (v := .ref b2) (congrArg va_rf e_b2) dX4_keepWay_5 ?_
  refine kp_callv X h (kp_runV (rm := { frames := 0, cells := 0, slots := 0, locals := 0 }) (mc := 0) (ms := 0) (rest := []) (Qc := fun A => kp_Qv D cy A S _) X h (c_X10_copy l D cy ad S b1 b2 _ h.2.2.2 f_b1 f_b2 hw) f_b1 cv_4_327 ⟨by decide, by decide, rfl, rfl, by decide, by decide⟩ rfl hl.1 rfl (Nat.le_of_ble_eq_true rfl) dX4_keepWay_8) (fun T3 hw l_T3 H locs h => ?_)
  have f_a0 := l_T3.is f_a0
  have f_a1 := l_T3.is f_a1
  have f_b1 := l_T3.is f_b1
  have f_b2 := l_T3.is f_b2
  have hle := hle.tr l_T3
  refine lv_aload_n X.1 X.2.1 dX4_keepWay_11 rfl (lv_at hl 1 rfl) ?_
  refine lv_iload_n X.1 X.2.1 dX4_keepWay_12 rfl (lv_at hl 2 rfl) ?_
  refine kp_putI X h f_a1 fp_4_156 rfl ⟨rfl, rfl⟩ dX4_keepWay_13 (fun T4 e_T4 l_T4 H locs h => ?_)
  have hw := hw T4 e_T4
  have f_a0 := l_T4.is f_a0
  have f_a1 := l_T4.is f_a1
  have f_b1 := l_T4.is f_b1
  have f_b2 := l_T4.is f_b2
  have hle := hle.tr l_T4
  refine lv_aload_n X.1 X.2.1 dX4_keepWay_16 rfl (lv_at hl 0 rfl) ?_
  obtain ⟨b5, e_b5, hw⟩ := hw
  have f_b5 := h.2.2.2.rf (c := 4) (k := 8) f_a0 (by decide) (by decide) e_b5 (t := 10) rfl
  refine kp_get X h f_a0 ff_4_30.l (v := .ref b5) (congrArg va_rf e_b5) dX4_keepWay_17 ?_
  refine kp_get X h f_b5 fp_4_93.l (v := .int (kp_I T4 2000 b5)) rfl dX4_keepWay_20 ?_
  refine lv_iconst (v := 4) X.1 X.2.1 dX4_keepWay_23 (by decide) ?_
  refine lv_icmp_ne (tgt := 38) X.1 X.2.1 dX4_keepWay_24 (by decide) (fun c7 => ?_) (fun c7 => ?_)
  · have hw := hw.1 c7
    exact j38  T4 _ _ ls (lv_sub hl [0, 1, 3] rfl) h hle f_a0 f_a1 hw
  · have hw := hw.2 c7
    refine lv_aload_n X.1 X.2.1 dX4_keepWay_27 rfl (lv_at hl 0 rfl) ?_
    refine lv_aload_n X.1 X.2.1 dX4_keepWay_28 rfl (lv_at hl 0 rfl) ?_
    refine kp_get X h f_a0 ff_4_30.l (v := .ref b5) (congrArg va_rf e_b5) dX4_keepWay_29 ?_
    refine kp_get X h f_b5 fp_4_111.l (v := .int (kp_I T4 2001 b5)) rfl dX4_keepWay_32 ?_
    refine kp_putI X h f_a0 fp_4_63 rfl ⟨rfl, rfl⟩ dX4_keepWay_35 (fun T6 e_T6 l_T6 H locs h => ?_)
    have hw := hw T6 e_T6
    have f_a0 := l_T6.is f_a0
    have f_a1 := l_T6.is f_a1
    have f_b1 := l_T6.is f_b1
    have f_b2 := l_T6.is f_b2
    have f_b5 := l_T6.is f_b5
    have hle := hle.tr l_T6
    have e_b5 : kp_R T6 808 a0 = some b5 := by rw [e_T6]; exact e_b5
    exact j38  T6 _ _ ls (lv_sub hl [0, 1, 3] rfl) h hle f_a0 f_a1 hw
theorem dX4_takeWayBack_0 : decode cX4_takeWayBack 0 = .ok (.aload_n 0, 1) := by decide +kernel
theorem dX4_takeWayBack_1 : decode cX4_takeWayBack 1 = .ok (.aload_n 1, 1) := by decide +kernel
theorem dX4_takeWayBack_2 : decode cX4_takeWayBack 2 = .ok (.getfield 163, 3) := by decide +kernel
theorem dX4_takeWayBack_5 : decode cX4_takeWayBack 5 = .ok (.putfield 63, 3) := by decide +kernel
theorem dX4_takeWayBack_8 : decode cX4_takeWayBack 8 = .ok (.aload_n 0, 1) := by decide +kernel
theorem dX4_takeWayBack_9 : decode cX4_takeWayBack 9 = .ok (.getfield 30, 3) := by decide +kernel
theorem dX4_takeWayBack_12 : decode cX4_takeWayBack 12 = .ok (.getfield 93, 3) := by decide +kernel
theorem dX4_takeWayBack_15 : decode cX4_takeWayBack 15 = .ok (.iconst 1, 1) := by decide +kernel
theorem dX4_takeWayBack_16 : decode cX4_takeWayBack 16 = .ok (.if_icmp .ne 17, 3) := by decide +kernel
theorem dX4_takeWayBack_19 : decode cX4_takeWayBack 19 = .ok (.aload_n 0, 1) := by decide +kernel
theorem dX4_takeWayBack_20 : decode cX4_takeWayBack 20 = .ok (.getfield 30, 3) := by decide +kernel
theorem dX4_takeWayBack_23 : decode cX4_takeWayBack 23 = .ok (.aload_n 1, 1) := by decide +kernel
theorem dX4_takeWayBack_24 : decode cX4_takeWayBack 24 = .ok (.getfield 226, 3) := by decide +kernel
theorem dX4_takeWayBack_27 : decode cX4_takeWayBack 27 = .ok (.invokevirtual 327, 3) := by decide +kernel
theorem dX4_takeWayBack_30 : decode cX4_takeWayBack 30 = .ok (.goto 39, 3) := by decide +kernel
theorem dX4_takeWayBack_33 : decode cX4_takeWayBack 33 = .ok (.aload_n 1, 1) := by decide +kernel
theorem dX4_takeWayBack_34 : decode cX4_takeWayBack 34 = .ok (.getfield 226, 3) := by decide +kernel
theorem dX4_takeWayBack_37 : decode cX4_takeWayBack 37 = .ok (.getfield 93, 3) := by decide +kernel
theorem dX4_takeWayBack_40 : decode cX4_takeWayBack 40 = .ok (.iconst 4, 1) := by decide +kernel
theorem dX4_takeWayBack_41 : decode cX4_takeWayBack 41 = .ok (.if_icmp .ne 28, 3) := by decide +kernel
theorem dX4_takeWayBack_44 : decode cX4_takeWayBack 44 = .ok (.aload_n 0, 1) := by decide +kernel
theorem dX4_takeWayBack_45 : decode cX4_takeWayBack 45 = .ok (.getfield 38, 3) := by decide +kernel
theorem dX4_takeWayBack_48 : decode cX4_takeWayBack 48 = .ok (.bipush 14, 2) := by decide +kernel
theorem dX4_takeWayBack_50 : decode cX4_takeWayBack 50 = .ok (.invokevirtual 166, 3) := by decide +kernel
theorem dX4_takeWayBack_53 : decode cX4_takeWayBack 53 = .ok (.aload_n 0, 1) := by decide +kernel
theorem dX4_takeWayBack_54 : decode cX4_takeWayBack 54 = .ok (.getfield 38, 3) := by decide +kernel
theorem dX4_takeWayBack_57 : decode cX4_takeWayBack 57 = .ok (.bipush 9, 2) := by decide +kernel
theorem dX4_takeWayBack_59 : decode cX4_takeWayBack 59 = .ok (.aload_n 1, 1) := by decide +kernel
theorem dX4_takeWayBack_60 : decode cX4_takeWayBack 60 = .ok (.getfield 226, 3) := by decide +kernel
theorem dX4_takeWayBack_63 : decode cX4_takeWayBack 63 = .ok (.getfield 111, 3) := by decide +kernel
theorem dX4_takeWayBack_66 : decode cX4_takeWayBack 66 = .ok (.invokevirtual 169, 3) := by decide +kernel
theorem dX4_takeWayBack_69 : decode cX4_takeWayBack 69 = .ok (.return_, 1) := by decide +kernel
def wX4_takeWayBack_b69 (a0 : Nat) (a1 : Nat)  (Sn : kp_S) (post : kp_S → Prop) : Prop :=
  post Sn
def wX4_takeWayBack (a0 : Nat) (a1 : Nat) (S : kp_S) (post : kp_S → Prop) : Prop :=
  ∀ T1 : kp_S, T1 = kp_sI S 812 a0 (kp_I S 1207 a1) →
  ∃ b2 : Nat, kp_R T1 808 a0 = some b2 ∧
  ((¬ (kp_I T1 2000 b2) = 1 →
  ∃ b3 : Nat, kp_R T1 1208 a1 = some b3 ∧
  ((¬ (kp_I T1 2000 b3) = 4 →
  wX4_takeWayBack_b69 a0 a1   T1 post) ∧ ((kp_I T1 2000 b3) = 4 →
  ∃ b4 : Nat, kp_R T1 801 a0 = some b4 ∧
  wX7_count b4 14 T1 (fun T5 =>
  ∃ b6 : Nat, kp_R T5 801 a0 = some b6 ∧
  ∃ b7 : Nat, kp_R T5 1208 a1 = some b7 ∧
  wX7_write b6 9 (kp_I T5 2001 b7) T5 (fun T8 =>
  wX4_takeWayBack_b69 a0 a1   T8 post))))) ∧ ((kp_I T1 2000 b2) = 1 →
  ∃ b10 : Nat, kp_R T1 1208 a1 = some b10 ∧
  wX10_copy b2 b10 T1 (fun T11 =>
  wX4_takeWayBack_b69 a0 a1   T11 post)))
set_option maxHeartbeats 4000000 in
set_option maxRecDepth 100000 in
theorem c_X4_takeWayBack (l : Launch) (D : va_G) (cy : Nat → ClassId) (ad : (Nat → Nat) × (Nat → Nat)) (S : kp_S) (a0 : Nat) (a1 : Nat) (post : kp_S → Prop) (hS : kp_ok S) (f_a0 : kp_is S a0 4) (f_a1 : kp_is S a1 6) (hw : wX4_takeWayBack a0 a1 S post) : kp_M l yX4_takeWayBack cX4_takeWayBack 2 none { frames := 1, cells := 0, slots := 0, locals := 23 } D cy ad S [.ref a0, .ref a1] 0 0 (fun A => kp_Qv D cy A S post) := by
  refine kp_start (own := RX4) (by decide) rfl (Nat.le_of_ble_eq_true rfl) hS ?_
  intro p e s m below meth c A ls X hr hlocks hname h hl
  have hle : kp_le S S := kp_le.rf
  have hl : lv_has ls 2 [(0, .ref a0), (1, .ref a1)] := hl
  have j69 : ∀  (Sn : kp_S) (H : Heap) (locs : List Loc) (ls : Array Slot), lv_has ls 2 [] → kp_H D cy A Sn s.heap H locs → kp_le S Sn → kp_is Sn a0 4 → kp_is Sn a1 6 → wX4_takeWayBack_b69 a0 a1   Sn post → W p l e { frames := 1, cells := 0, slots := 0, locals := 23 } s m ([.ref a0, .ref a1] : List Value).toArray below meth c H locs 0 0 (MQ below (kp_Qv D cy A S post) ([.ref a0, .ref a1] : List Value).toArray s 0 0 A) (F0 m 69 ls []) := by
    intro  Sn H locs ls hl h hle f_a0 f_a1 hw
    unfold wX4_takeWayBack_b69 at hw
    exact kp_retv X hr hlocks h hle hw dX4_takeWayBack_69
  unfold wX4_takeWayBack at hw
  have h : kp_H D cy A S s.heap s.heap [] := h
  revert h
  intro h
  refine lv_aload_n X.1 X.2.1 dX4_takeWayBack_0 rfl (lv_at hl 0 rfl) ?_
  refine lv_aload_n X.1 X.2.1 dX4_takeWayBack_1 rfl (lv_at hl 1 rfl) ?_
  refine kp_get X h f_a1 fp_4_163.l (v := .int (kp_I S 1207 a1)) rfl dX4_takeWayBack_2 ?_
  refine kp_putI X h f_a0 fp_4_63 rfl ⟨rfl, rfl⟩ dX4_takeWayBack_5 (fun T1 e_T1 l_T1 H locs h => ?_)
  have hw := hw T1 e_T1
  have f_a0 := l_T1.is f_a0
  have f_a1 := l_T1.is f_a1
  have hle := hle.tr l_T1
  refine lv_aload_n X.1 X.2.1 dX4_takeWayBack_8 rfl (lv_at hl 0 rfl) ?_
  obtain ⟨b2, e_b2, hw⟩ := hw
  have f_b2 := h.2.2.2.rf (c := 4) (k := 8) f_a0 (by decide) (by decide) e_b2 (t := 10) rfl
  refine kp_get X h f_a0 ff_4_30.l (v := .ref b2) (congrArg va_rf e_b2) dX4_takeWayBack_9 ?_
  refine kp_get X h f_b2 fp_4_93.l (v := .int (kp_I T1 2000 b2)) rfl dX4_takeWayBack_12 ?_
  refine lv_iconst (v := 1) X.1 X.2.1 dX4_takeWayBack_15 (by decide) ?_
  refine lv_icmp_ne (tgt := 33) X.1 X.2.1 dX4_takeWayBack_16 (by decide) (fun c12 => ?_) (fun c12 => ?_)
  · have hw := hw.1 c12
    refine lv_aload_n X.1 X.2.1 dX4_takeWayBack_33 rfl (lv_at hl 1 rfl) ?_
    obtain ⟨b3, e_b3, hw⟩ := hw
    have f_b3 := h.2.2.2.rf (c := 6) (k := 8) f_a1 (by decide) (by decide) e_b3 (t := 10) rfl
    refine kp_get X h f_a1 fl_4_226 (v := .ref b3) (congrArg va_rf e_b3) dX4_takeWayBack_34 ?_
    refine kp_get X h f_b3 fp_4_93.l (v := .int (kp_I T1 2000 b3)) rfl dX4_takeWayBack_37 ?_
    refine lv_iconst (v := 4) X.1 X.2.1 dX4_takeWayBack_40 (by decide) ?_
    refine lv_icmp_ne (tgt := 69) X.1 X.2.1 dX4_takeWayBack_41 (by decide) (fun c9 => ?_) (fun c9 => ?_)
    · have hw := hw.1 c9
      exact j69  T1 _ _ ls (lv_sub hl [] rfl) h hle f_a0 f_a1 hw
    · have hw := hw.2 c9
      refine lv_aload_n X.1 X.2.1 dX4_takeWayBack_44 rfl (lv_at hl 0 rfl) ?_
      obtain ⟨b4, e_b4, hw⟩ := hw
      have f_b4 := h.2.2.2.rf (c := 4) (k := 1) f_a0 (by decide) (by decide) e_b4 (t := 7) rfl
      refine kp_get X h f_a0 ff_4_38.l (v := .ref b4) (congrArg va_rf e_b4) dX4_takeWayBack_45 ?_
      refine lv_bipush (v := 14) X.1 X.2.1 dX4_takeWayBack_48 (by decide) ?_
      refine kp_callv X h (kp_runV (rm := { frames := 0, cells := 0, slots := 0, locals := 0 }) (mc := 0) (ms := 0) (rest := []) (Qc := fun A => kp_Qv D cy A T1 _) X h (c_X7_count l D cy ad T1 b4 14 _ h.2.2.2 f_b4 hw) f_b4 cv_4_166 ⟨by decide, by decide, rfl, rfl, by decide, by decide⟩ rfl hl.1 rfl (Nat.le_of_ble_eq_true rfl) dX4_takeWayBack_50) (fun T5 hw l_T5 H locs h => ?_)
      have f_a0 := l_T5.is f_a0
      have f_a1 := l_T5.is f_a1
      have f_b2 := l_T5.is f_b2
      have f_b3 := l_T5.is f_b3
      have f_b4 := l_T5.is f_b4
      have hle := hle.tr l_T5
      refine lv_aload_n X.1 X.2.1 dX4_takeWayBack_53 rfl (lv_at hl 0 rfl) ?_
      obtain ⟨b6, e_b6, hw⟩ := hw
      have f_b6 := h.2.2.2.rf (c := 4) (k := 1) f_a0 (by decide) (by decide) e_b6 (t := 7) rfl
      refine kp_get X h f_a0 ff_4_38.l (v := .ref b6) (congrArg va_rf e_b6) dX4_takeWayBack_54 ?_
      refine lv_bipush (v := 9) X.1 X.2.1 dX4_takeWayBack_57 (by decide) ?_
      refine lv_aload_n X.1 X.2.1 dX4_takeWayBack_59 rfl (lv_at hl 1 rfl) ?_
      obtain ⟨b7, e_b7, hw⟩ := hw
      have f_b7 := h.2.2.2.rf (c := 6) (k := 8) f_a1 (by decide) (by decide) e_b7 (t := 10) rfl
      refine kp_get X h f_a1 fl_4_226 (v := .ref b7) (congrArg va_rf e_b7) dX4_takeWayBack_60 ?_
      refine kp_get X h f_b7 fp_4_111.l (v := .int (kp_I T5 2001 b7)) rfl dX4_takeWayBack_63 ?_
      refine kp_callv X h (kp_runV (rm := { frames := 0, cells := 0, slots := 0, locals := 0 }) (mc := 0) (ms := 0) (rest := []) (Qc := fun A => kp_Qv D cy A T5 _) X h (c_X7_write l D cy ad T5 b6 9 (kp_I T5 2001 b7) _ h.2.2.2 f_b6 hw) f_b6 cv_4_169 ⟨by decide, by decide, rfl, rfl, by decide, by decide⟩ rfl hl.1 rfl (Nat.le_of_ble_eq_true rfl) dX4_takeWayBack_66) (fun T8 hw l_T8 H locs h => ?_)
      have f_a0 := l_T8.is f_a0
      have f_a1 := l_T8.is f_a1
      have f_b2 := l_T8.is f_b2
      have f_b3 := l_T8.is f_b3
      have f_b4 := l_T8.is f_b4
      have f_b6 := l_T8.is f_b6
      have f_b7 := l_T8.is f_b7
      have hle := hle.tr l_T8
      exact j69  T8 _ _ ls (lv_sub hl [] rfl) h hle f_a0 f_a1 hw
  · have hw := hw.2 c12
    refine lv_aload_n X.1 X.2.1 dX4_takeWayBack_19 rfl (lv_at hl 0 rfl) ?_
    refine kp_get X h f_a0 ff_4_30.l (v := .ref b2) (congrArg va_rf e_b2) dX4_takeWayBack_20 ?_
    refine lv_aload_n X.1 X.2.1 dX4_takeWayBack_23 rfl (lv_at hl 1 rfl) ?_
    obtain ⟨b10, e_b10, hw⟩ := hw
    have f_b10 := h.2.2.2.rf (c := 6) (k := 8) f_a1 (by decide) (by decide) e_b10 (t := 10) rfl
    refine kp_get X h f_a1 fl_4_226 (v := .ref b10) (congrArg va_rf e_b10) dX4_takeWayBack_24 ?_
    refine kp_callv X h (kp_runV (rm := { frames := 0, cells := 0, slots := 0, locals := 0 }) (mc := 0) (ms := 0) (rest := []) (Qc := fun A => kp_Qv D cy A T1 _) X h (c_X10_copy l D cy ad T1 b2 b10 _ h.2.2.2 f_b2 f_b10 hw) f_b2 cv_4_327 ⟨by decide, by decide, rfl, rfl, by decide, by decide⟩ rfl hl.1 rfl (Nat.le_of_ble_eq_true rfl) dX4_takeWayBack_27) (fun T11 hw l_T11 H locs h => ?_)
    have f_a0 := l_T11.is f_a0
    have f_a1 := l_T11.is f_a1
    have f_b2 := l_T11.is f_b2
    have f_b10 := l_T11.is f_b10
    have hle := hle.tr l_T11
    refine lv_goto (tgt := 69) X.1 X.2.1 dX4_takeWayBack_30 (by decide) ?_
    exact j69  T11 _ _ ls (lv_sub hl [] rfl) h hle f_a0 f_a1 hw
theorem dX4_leaveHold_0 : decode cX4_leaveHold 0 = .ok (.aload_n 0, 1) := by decide +kernel
theorem dX4_leaveHold_1 : decode cX4_leaveHold 1 = .ok (.getfield 38, 3) := by decide +kernel
theorem dX4_leaveHold_4 : decode cX4_leaveHold 4 = .ok (.bipush 7, 2) := by decide +kernel
theorem dX4_leaveHold_6 : decode cX4_leaveHold 6 = .ok (.invokevirtual 166, 3) := by decide +kernel
theorem dX4_leaveHold_9 : decode cX4_leaveHold 9 = .ok (.aload_n 0, 1) := by decide +kernel
theorem dX4_leaveHold_10 : decode cX4_leaveHold 10 = .ok (.getfield 34, 3) := by decide +kernel
theorem dX4_leaveHold_13 : decode cX4_leaveHold 13 = .ok (.aload_n 1, 1) := by decide +kernel
theorem dX4_leaveHold_14 : decode cX4_leaveHold 14 = .ok (.getfield 296, 3) := by decide +kernel
theorem dX4_leaveHold_17 : decode cX4_leaveHold 17 = .ok (.iconst (-1), 1) := by decide +kernel
theorem dX4_leaveHold_18 : decode cX4_leaveHold 18 = .ok (.invokevirtual 293, 3) := by decide +kernel
theorem dX4_leaveHold_21 : decode cX4_leaveHold 21 = .ok (.ifCond .ne 15, 3) := by decide +kernel
theorem dX4_leaveHold_24 : decode cX4_leaveHold 24 = .ok (.aload_n 0, 1) := by decide +kernel
theorem dX4_leaveHold_25 : decode cX4_leaveHold 25 = .ok (.getfield 38, 3) := by decide +kernel
theorem dX4_leaveHold_28 : decode cX4_leaveHold 28 = .ok (.iconst 2, 1) := by decide +kernel
theorem dX4_leaveHold_29 : decode cX4_leaveHold 29 = .ok (.aload_n 1, 1) := by decide +kernel
theorem dX4_leaveHold_30 : decode cX4_leaveHold 30 = .ok (.getfield 296, 3) := by decide +kernel
theorem dX4_leaveHold_33 : decode cX4_leaveHold 33 = .ok (.invokevirtual 169, 3) := by decide +kernel
theorem dX4_leaveHold_36 : decode cX4_leaveHold 36 = .ok (.aload_n 0, 1) := by decide +kernel
theorem dX4_leaveHold_37 : decode cX4_leaveHold 37 = .ok (.aload_n 1, 1) := by decide +kernel
theorem dX4_leaveHold_38 : decode cX4_leaveHold 38 = .ok (.aload_n 0, 1) := by decide +kernel
theorem dX4_leaveHold_39 : decode cX4_leaveHold 39 = .ok (.getfield 145, 3) := by decide +kernel
theorem dX4_leaveHold_42 : decode cX4_leaveHold 42 = .ok (.invokevirtual 335, 3) := by decide +kernel
theorem dX4_leaveHold_45 : decode cX4_leaveHold 45 = .ok (.return_, 1) := by decide +kernel
def wX4_leaveHold_b36 (a0 : Nat) (a1 : Nat)  (Sn : kp_S) (post : kp_S → Prop) : Prop :=
  wX4_leave a0 a1 (kp_I Sn 810 a0) Sn (fun T1001 =>
  post T1001)
def wX4_leaveHold (a0 : Nat) (a1 : Nat) (S : kp_S) (post : kp_S → Prop) : Prop :=
  ∃ b1 : Nat, kp_R S 801 a0 = some b1 ∧
  wX7_count b1 7 S (fun T2 =>
  ∃ b3 : Nat, kp_R T2 800 a0 = some b3 ∧
  wX1_addHold b3 (kp_I T2 1204 a1) (-1) T2 (fun y5 T4 =>
  ((¬ y5 = 0 →
  wX4_leaveHold_b36 a0 a1   T4 post) ∧ (y5 = 0 →
  ∃ b6 : Nat, kp_R T4 801 a0 = some b6 ∧
  wX7_write b6 2 (kp_I T4 1204 a1) T4 (fun T7 =>
  wX4_leaveHold_b36 a0 a1   T7 post)))))
set_option maxHeartbeats 4000000 in
set_option maxRecDepth 100000 in
theorem c_X4_leaveHold (l : Launch) (D : va_G) (cy : Nat → ClassId) (ad : (Nat → Nat) × (Nat → Nat)) (S : kp_S) (a0 : Nat) (a1 : Nat) (post : kp_S → Prop) (hS : kp_ok S) (f_a0 : kp_is S a0 4) (f_a1 : kp_is S a1 6) (hw : wX4_leaveHold a0 a1 S post) : kp_M l yX4_leaveHold cX4_leaveHold 2 none { frames := 2, cells := 0, slots := 0, locals := 44 } D cy ad S [.ref a0, .ref a1] 0 0 (fun A => kp_Qv D cy A S post) := by
  refine kp_start (own := RX4) (by decide) rfl (Nat.le_of_ble_eq_true rfl) hS ?_
  intro p e s m below meth c A ls X hr hlocks hname h hl
  have hle : kp_le S S := kp_le.rf
  have hl : lv_has ls 2 [(0, .ref a0), (1, .ref a1)] := hl
  have j36 : ∀  (Sn : kp_S) (H : Heap) (locs : List Loc) (ls : Array Slot), lv_has ls 2 [(0, .ref a0), (1, .ref a1)] → kp_H D cy A Sn s.heap H locs → kp_le S Sn → kp_is Sn a0 4 → kp_is Sn a1 6 → wX4_leaveHold_b36 a0 a1   Sn post → W p l e { frames := 2, cells := 0, slots := 0, locals := 44 } s m ([.ref a0, .ref a1] : List Value).toArray below meth c H locs 0 0 (MQ below (kp_Qv D cy A S post) ([.ref a0, .ref a1] : List Value).toArray s 0 0 A) (F0 m 36 ls []) := by
    intro  Sn H locs ls hl h hle f_a0 f_a1 hw
    unfold wX4_leaveHold_b36 at hw
    refine lv_aload_n X.1 X.2.1 dX4_leaveHold_36 rfl (lv_at hl 0 rfl) ?_
    refine lv_aload_n X.1 X.2.1 dX4_leaveHold_37 rfl (lv_at hl 1 rfl) ?_
    refine lv_aload_n X.1 X.2.1 dX4_leaveHold_38 rfl (lv_at hl 0 rfl) ?_
    refine kp_get X h f_a0 fp_4_145.l (v := .int (kp_I Sn 810 a0)) rfl dX4_leaveHold_39 ?_
    refine kp_callv X h (kp_runV (rm := { frames := 1, cells := 0, slots := 0, locals := 22 }) (mc := 0) (ms := 0) (rest := []) (Qc := fun A => kp_Qv D cy A Sn _) X h (c_X4_leave l D cy ad Sn a0 a1 (kp_I Sn 810 a0) _ h.2.2.2 f_a0 f_a1 hw) f_a0 cv_4_335 ⟨by decide, by decide, rfl, rfl, by decide, by decide⟩ rfl hl.1 rfl (Nat.le_of_ble_eq_true rfl) dX4_leaveHold_42) (fun T1001 hw l_T1001 H locs h => ?_)
    have f_a0 := l_T1001.is f_a0
    have f_a1 := l_T1001.is f_a1
    have hle := hle.tr l_T1001
    exact kp_retv X hr hlocks h hle hw dX4_leaveHold_45
  unfold wX4_leaveHold at hw
  have h : kp_H D cy A S s.heap s.heap [] := h
  revert h
  intro h
  refine lv_aload_n X.1 X.2.1 dX4_leaveHold_0 rfl (lv_at hl 0 rfl) ?_
  obtain ⟨b1, e_b1, hw⟩ := hw
  have f_b1 := h.2.2.2.rf (c := 4) (k := 1) f_a0 (by decide) (by decide) e_b1 (t := 7) rfl
  refine kp_get X h f_a0 ff_4_38.l (v := .ref b1) (congrArg va_rf e_b1) dX4_leaveHold_1 ?_
  refine lv_bipush (v := 7) X.1 X.2.1 dX4_leaveHold_4 (by decide) ?_
  refine kp_callv X h (kp_runV (rm := { frames := 0, cells := 0, slots := 0, locals := 0 }) (mc := 0) (ms := 0) (rest := []) (Qc := fun A => kp_Qv D cy A S _) X h (c_X7_count l D cy ad S b1 7 _ h.2.2.2 f_b1 hw) f_b1 cv_4_166 ⟨by decide, by decide, rfl, rfl, by decide, by decide⟩ rfl hl.1 rfl (Nat.le_of_ble_eq_true rfl) dX4_leaveHold_6) (fun T2 hw l_T2 H locs h => ?_)
  have f_a0 := l_T2.is f_a0
  have f_a1 := l_T2.is f_a1
  have f_b1 := l_T2.is f_b1
  have hle := hle.tr l_T2
  refine lv_aload_n X.1 X.2.1 dX4_leaveHold_9 rfl (lv_at hl 0 rfl) ?_
  obtain ⟨b3, e_b3, hw⟩ := hw
  have f_b3 := h.2.2.2.rf (c := 4) (k := 0) f_a0 (by decide) (by decide) e_b3 (t := 1) rfl
  refine kp_get X h f_a0 ff_4_34.l (v := .ref b3) (congrArg va_rf e_b3) dX4_leaveHold_10 ?_
  refine lv_aload_n X.1 X.2.1 dX4_leaveHold_13 rfl (lv_at hl 1 rfl) ?_
  refine kp_get X h f_a1 fp_4_296.l (v := .int (kp_I T2 1204 a1)) rfl dX4_leaveHold_14 ?_
  refine lv_iconst (v := (-1)) X.1 X.2.1 dX4_leaveHold_17 (by decide) ?_
  refine kp_calli X h (kp_runV (rm := { frames := 1, cells := 0, slots := 0, locals := 20 }) (mc := 0) (ms := 0) (rest := []) (Qc := fun A => kp_Qi D cy A T2 _) X h (c_X1_addHold l D cy ad T2 b3 (kp_I T2 1204 a1) (-1) _ h.2.2.2 f_b3 hw) f_b3 cv_4_293 ⟨by decide, by decide, rfl, rfl, by decide, by decide⟩ rfl hl.1 rfl (Nat.le_of_ble_eq_true rfl) dX4_leaveHold_18) (fun y5 T4 hw l_T4 H locs h => ?_)
  have f_a0 := l_T4.is f_a0
  have f_a1 := l_T4.is f_a1
  have f_b1 := l_T4.is f_b1
  have f_b3 := l_T4.is f_b3
  have hle := hle.tr l_T4
  refine lv_if_ne (tgt := 36) X.1 X.2.1 dX4_leaveHold_21 (by decide) (fun c8 => ?_) (fun c8 => ?_)
  · have hw := hw.1 c8
    exact j36  T4 _ _ ls (lv_sub hl [0, 1] rfl) h hle f_a0 f_a1 hw
  · have hw := hw.2 c8
    refine lv_aload_n X.1 X.2.1 dX4_leaveHold_24 rfl (lv_at hl 0 rfl) ?_
    obtain ⟨b6, e_b6, hw⟩ := hw
    have f_b6 := h.2.2.2.rf (c := 4) (k := 1) f_a0 (by decide) (by decide) e_b6 (t := 7) rfl
    refine kp_get X h f_a0 ff_4_38.l (v := .ref b6) (congrArg va_rf e_b6) dX4_leaveHold_25 ?_
    refine lv_iconst (v := 2) X.1 X.2.1 dX4_leaveHold_28 (by decide) ?_
    refine lv_aload_n X.1 X.2.1 dX4_leaveHold_29 rfl (lv_at hl 1 rfl) ?_
    refine kp_get X h f_a1 fp_4_296.l (v := .int (kp_I T4 1204 a1)) rfl dX4_leaveHold_30 ?_
    refine kp_callv X h (kp_runV (rm := { frames := 0, cells := 0, slots := 0, locals := 0 }) (mc := 0) (ms := 0) (rest := []) (Qc := fun A => kp_Qv D cy A T4 _) X h (c_X7_write l D cy ad T4 b6 2 (kp_I T4 1204 a1) _ h.2.2.2 f_b6 hw) f_b6 cv_4_169 ⟨by decide, by decide, rfl, rfl, by decide, by decide⟩ rfl hl.1 rfl (Nat.le_of_ble_eq_true rfl) dX4_leaveHold_33) (fun T7 hw l_T7 H locs h => ?_)
    have f_a0 := l_T7.is f_a0
    have f_a1 := l_T7.is f_a1
    have f_b1 := l_T7.is f_b1
    have f_b3 := l_T7.is f_b3
    have f_b6 := l_T7.is f_b6
    have hle := hle.tr l_T7
    exact j36  T7 _ _ ls (lv_sub hl [0, 1] rfl) h hle f_a0 f_a1 hw
theorem dX4_beginAlways_0 : decode cX4_beginAlways 0 = .ok (.aload_n 0, 1) := by decide +kernel
theorem dX4_beginAlways_1 : decode cX4_beginAlways 1 = .ok (.getfield 42, 3) := by decide +kernel
theorem dX4_beginAlways_4 : decode cX4_beginAlways 4 = .ok (.aload_n 1, 1) := by decide +kernel
theorem dX4_beginAlways_5 : decode cX4_beginAlways 5 = .ok (.getfield 159, 3) := by decide +kernel
theorem dX4_beginAlways_8 : decode cX4_beginAlways 8 = .ok (.iconst 4, 1) := by decide +kernel
theorem dX4_beginAlways_9 : decode cX4_beginAlways 9 = .ok (.iadd, 1) := by decide +kernel
theorem dX4_beginAlways_10 : decode cX4_beginAlways 10 = .ok (.invokevirtual 148, 3) := by decide +kernel
theorem dX4_beginAlways_13 : decode cX4_beginAlways 13 = .ok (.istore_n 2, 1) := by decide +kernel
theorem dX4_beginAlways_14 : decode cX4_beginAlways 14 = .ok (.iload_n 2, 1) := by decide +kernel
theorem dX4_beginAlways_15 : decode cX4_beginAlways 15 = .ok (.ifCond .eq 11, 3) := by decide +kernel
theorem dX4_beginAlways_18 : decode cX4_beginAlways 18 = .ok (.aload_n 1, 1) := by decide +kernel
theorem dX4_beginAlways_19 : decode cX4_beginAlways 19 = .ok (.getfield 156, 3) := by decide +kernel
theorem dX4_beginAlways_22 : decode cX4_beginAlways 22 = .ok (.iconst 3, 1) := by decide +kernel
theorem dX4_beginAlways_23 : decode cX4_beginAlways 23 = .ok (.if_icmp .ne 5, 3) := by decide +kernel
theorem dX4_beginAlways_26 : decode cX4_beginAlways 26 = .ok (.iconst 0, 1) := by decide +kernel
theorem dX4_beginAlways_27 : decode cX4_beginAlways 27 = .ok (.ireturn, 1) := by decide +kernel
theorem dX4_beginAlways_28 : decode cX4_beginAlways 28 = .ok (.aload_n 0, 1) := by decide +kernel
theorem dX4_beginAlways_29 : decode cX4_beginAlways 29 = .ok (.getfield 38, 3) := by decide +kernel
theorem dX4_beginAlways_32 : decode cX4_beginAlways 32 = .ok (.bipush 9, 2) := by decide +kernel
theorem dX4_beginAlways_34 : decode cX4_beginAlways 34 = .ok (.invokevirtual 166, 3) := by decide +kernel
theorem dX4_beginAlways_37 : decode cX4_beginAlways 37 = .ok (.aload_n 0, 1) := by decide +kernel
theorem dX4_beginAlways_38 : decode cX4_beginAlways 38 = .ok (.getfield 38, 3) := by decide +kernel
theorem dX4_beginAlways_41 : decode cX4_beginAlways 41 = .ok (.bipush 11, 2) := by decide +kernel
theorem dX4_beginAlways_43 : decode cX4_beginAlways 43 = .ok (.aload_n 0, 1) := by decide +kernel
theorem dX4_beginAlways_44 : decode cX4_beginAlways 44 = .ok (.getfield 42, 3) := by decide +kernel
theorem dX4_beginAlways_47 : decode cX4_beginAlways 47 = .ok (.aload_n 1, 1) := by decide +kernel
theorem dX4_beginAlways_48 : decode cX4_beginAlways 48 = .ok (.getfield 159, 3) := by decide +kernel
theorem dX4_beginAlways_51 : decode cX4_beginAlways 51 = .ok (.iconst 1, 1) := by decide +kernel
theorem dX4_beginAlways_52 : decode cX4_beginAlways 52 = .ok (.iadd, 1) := by decide +kernel
theorem dX4_beginAlways_53 : decode cX4_beginAlways 53 = .ok (.invokevirtual 148, 3) := by decide +kernel
theorem dX4_beginAlways_56 : decode cX4_beginAlways 56 = .ok (.invokevirtual 169, 3) := by decide +kernel
theorem dX4_beginAlways_59 : decode cX4_beginAlways 59 = .ok (.aload_n 0, 1) := by decide +kernel
theorem dX4_beginAlways_60 : decode cX4_beginAlways 60 = .ok (.aload_n 1, 1) := by decide +kernel
theorem dX4_beginAlways_61 : decode cX4_beginAlways 61 = .ok (.iconst 3, 1) := by decide +kernel
theorem dX4_beginAlways_62 : decode cX4_beginAlways 62 = .ok (.iload_n 2, 1) := by decide +kernel
theorem dX4_beginAlways_63 : decode cX4_beginAlways 63 = .ok (.invokevirtual 338, 3) := by decide +kernel
theorem dX4_beginAlways_66 : decode cX4_beginAlways 66 = .ok (.iconst 1, 1) := by decide +kernel
theorem dX4_beginAlways_67 : decode cX4_beginAlways 67 = .ok (.ireturn, 1) := by decide +kernel
def wX4_beginAlways_b26 (a0 : Nat) (a1 : Nat)  (Sn : kp_S) (post : Int32 → kp_S → Prop) : Prop :=
  post 0 Sn
def wX4_beginAlways (a0 : Nat) (a1 : Nat) (S : kp_S) (post : Int32 → kp_S → Prop) : Prop :=
  ∃ b1 : Nat, kp_R S 809 a0 = some b1 ∧
  wX0_get b1 ((kp_I S 1202 a1) + 4) S (fun y3 T2 =>
  ((y3 = 0 →
  wX4_beginAlways_b26 a0 a1   T2 post) ∧ (¬ y3 = 0 →
  ((¬ (kp_I T2 1201 a1) = 3 →
  ∃ b4 : Nat, kp_R T2 801 a0 = some b4 ∧
  wX7_count b4 9 T2 (fun T5 =>
  ∃ b6 : Nat, kp_R T5 801 a0 = some b6 ∧
  ∃ b7 : Nat, kp_R T5 809 a0 = some b7 ∧
  wX0_get b7 ((kp_I T5 1202 a1) + 1) T5 (fun y9 T8 =>
  wX7_write b6 11 y9 T8 (fun T10 =>
  wX4_keepWay a0 a1 3 y3 T10 (fun T11 =>
  post 1 T11))))) ∧ ((kp_I T2 1201 a1) = 3 →
  wX4_beginAlways_b26 a0 a1   T2 post)))))
set_option maxHeartbeats 4000000 in
set_option maxRecDepth 100000 in
theorem c_X4_beginAlways (l : Launch) (D : va_G) (cy : Nat → ClassId) (ad : (Nat → Nat) × (Nat → Nat)) (S : kp_S) (a0 : Nat) (a1 : Nat) (post : Int32 → kp_S → Prop) (hS : kp_ok S) (f_a0 : kp_is S a0 4) (f_a1 : kp_is S a1 6) (hw : wX4_beginAlways a0 a1 S post) : kp_M l yX4_beginAlways cX4_beginAlways 3 (some .boolean) { frames := 2, cells := 0, slots := 0, locals := 45 } D cy ad S [.ref a0, .ref a1] 0 0 (fun A => kp_Qi D cy A S post) := by
  refine kp_start (own := RX4) (by decide) rfl (Nat.le_of_ble_eq_true rfl) hS ?_
  intro p e s m below meth c A ls X hr hlocks hname h hl
  have hle : kp_le S S := kp_le.rf
  have hl : lv_has ls 3 [(0, .ref a0), (1, .ref a1)] := hl
  have j26 : ∀  (Sn : kp_S) (H : Heap) (locs : List Loc) (ls : Array Slot), lv_has ls 3 [] → kp_H D cy A Sn s.heap H locs → kp_le S Sn → kp_is Sn a0 4 → kp_is Sn a1 6 → wX4_beginAlways_b26 a0 a1   Sn post → W p l e { frames := 2, cells := 0, slots := 0, locals := 45 } s m ([.ref a0, .ref a1] : List Value).toArray below meth c H locs 0 0 (MQ below (kp_Qi D cy A S post) ([.ref a0, .ref a1] : List Value).toArray s 0 0 A) (F0 m 26 ls []) := by
    intro  Sn H locs ls hl h hle f_a0 f_a1 hw
    unfold wX4_beginAlways_b26 at hw
    refine lv_iconst (v := 0) X.1 X.2.1 dX4_beginAlways_26 (by decide) ?_
    exact kp_reti X hr hlocks h hle (by decide) hw dX4_beginAlways_27
  unfold wX4_beginAlways at hw
  have h : kp_H D cy A S s.heap s.heap [] := h
  revert h
  intro h
  refine lv_aload_n X.1 X.2.1 dX4_beginAlways_0 rfl (lv_at hl 0 rfl) ?_
  obtain ⟨b1, e_b1, hw⟩ := hw
  have f_b1 := h.2.2.2.rf (c := 4) (k := 9) f_a0 (by decide) (by decide) e_b1 (t := 0) rfl
  refine kp_get X h f_a0 fp_4_42.l (v := .ref b1) (congrArg va_rf e_b1) dX4_beginAlways_1 ?_
  refine lv_aload_n X.1 X.2.1 dX4_beginAlways_4 rfl (lv_at hl 1 rfl) ?_
  refine kp_get X h f_a1 fp_4_159.l (v := .int (kp_I S 1202 a1)) rfl dX4_beginAlways_5 ?_
  refine lv_iconst (v := 4) X.1 X.2.1 dX4_beginAlways_8 (by decide) ?_
  refine lv_iadd X.1 X.2.1 dX4_beginAlways_9 ?_
  refine kp_calli X h (kp_runV (rm := { frames := 0, cells := 0, slots := 0, locals := 0 }) (mc := 0) (ms := 0) (rest := []) (Qc := fun A => kp_Qi D cy A S _) X h (c_X0_get l D cy ad S b1 ((kp_I S 1202 a1) + 4) _ h.2.2.2 f_b1 hw) f_b1 cv_4_148 ⟨by decide, by decide, rfl, rfl, by decide, by decide⟩ rfl hl.1 rfl (Nat.le_of_ble_eq_true rfl) dX4_beginAlways_10) (fun y3 T2 hw l_T2 H locs h => ?_)
  have f_a0 := l_T2.is f_a0
  have f_a1 := l_T2.is f_a1
  have f_b1 := l_T2.is f_b1
  have hle := hle.tr l_T2
  refine lv_istore_n (lv' := [(2, .int y3), (0, .ref a0), (1, .ref a1)]) X.1 X.2.1 dX4_beginAlways_13 rfl hl (by decide) rfl (fun ls hl => ?_)
  refine lv_iload_n X.1 X.2.1 dX4_beginAlways_14 rfl (lv_at hl 0 rfl) ?_
  refine lv_if_eq (tgt := 26) X.1 X.2.1 dX4_beginAlways_15 (by decide) (fun c13 => ?_) (fun c13 => ?_)
  · have hw := hw.1 c13
    exact j26  T2 _ _ ls (lv_sub hl [] rfl) h hle f_a0 f_a1 hw
  · have hw := hw.2 c13
    refine lv_aload_n X.1 X.2.1 dX4_beginAlways_18 rfl (lv_at hl 2 rfl) ?_
    refine kp_get X h f_a1 fp_4_156.l (v := .int (kp_I T2 1201 a1)) rfl dX4_beginAlways_19 ?_
    refine lv_iconst (v := 3) X.1 X.2.1 dX4_beginAlways_22 (by decide) ?_
    refine lv_icmp_ne (tgt := 28) X.1 X.2.1 dX4_beginAlways_23 (by decide) (fun c12 => ?_) (fun c12 => ?_)
    · have hw := hw.1 c12
      refine lv_aload_n X.1 X.2.1 dX4_beginAlways_28 rfl (lv_at hl 1 rfl) ?_
      obtain ⟨b4, e_b4, hw⟩ := hw
      have f_b4 := h.2.2.2.rf (c := 4) (k := 1) f_a0 (by decide) (by decide) e_b4 (t := 7) rfl
      refine kp_get X h f_a0 ff_4_38.l (v := .ref b4) (congrArg va_rf e_b4) dX4_beginAlways_29 ?_
      refine lv_bipush (v := 9) X.1 X.2.1 dX4_beginAlways_32 (by decide) ?_
      refine kp_callv X h (kp_runV (rm := { frames := 0, cells := 0, slots := 0, locals := 0 }) (mc := 0) (ms := 0) (rest := []) (Qc := fun A => kp_Qv D cy A T2 _) X h (c_X7_count l D cy ad T2 b4 9 _ h.2.2.2 f_b4 hw) f_b4 cv_4_166 ⟨by decide, by decide, rfl, rfl, by decide, by decide⟩ rfl hl.1 rfl (Nat.le_of_ble_eq_true rfl) dX4_beginAlways_34) (fun T5 hw l_T5 H locs h => ?_)
      have f_a0 := l_T5.is f_a0
      have f_a1 := l_T5.is f_a1
      have f_b1 := l_T5.is f_b1
      have f_b4 := l_T5.is f_b4
      have hle := hle.tr l_T5
      refine lv_aload_n X.1 X.2.1 dX4_beginAlways_37 rfl (lv_at hl 1 rfl) ?_
      obtain ⟨b6, e_b6, hw⟩ := hw
      have f_b6 := h.2.2.2.rf (c := 4) (k := 1) f_a0 (by decide) (by decide) e_b6 (t := 7) rfl
      refine kp_get X h f_a0 ff_4_38.l (v := .ref b6) (congrArg va_rf e_b6) dX4_beginAlways_38 ?_
      refine lv_bipush (v := 11) X.1 X.2.1 dX4_beginAlways_41 (by decide) ?_
      refine lv_aload_n X.1 X.2.1 dX4_beginAlways_43 rfl (lv_at hl 1 rfl) ?_
      obtain ⟨b7, e_b7, hw⟩ := hw
      have f_b7 := h.2.2.2.rf (c := 4) (k := 9) f_a0 (by decide) (by decide) e_b7 (t := 0) rfl
      refine kp_get X h f_a0 fp_4_42.l (v := .ref b7) (congrArg va_rf e_b7) dX4_beginAlways_44 ?_
      refine lv_aload_n X.1 X.2.1 dX4_beginAlways_47 rfl (lv_at hl 2 rfl) ?_
      refine kp_get X h f_a1 fp_4_159.l (v := .int (kp_I T5 1202 a1)) rfl dX4_beginAlways_48 ?_
      refine lv_iconst (v := 1) X.1 X.2.1 dX4_beginAlways_51 (by decide) ?_
      refine lv_iadd X.1 X.2.1 dX4_beginAlways_52 ?_
      refine kp_calli X h (kp_runV (rm := { frames := 0, cells := 0, slots := 0, locals := 0 }) (mc := 0) (ms := 0) (rest := [.int 11, .ref b6]) (Qc := fun A => kp_Qi D cy A T5 _) X h (c_X0_get l D cy ad T5 b7 ((kp_I T5 1202 a1) + 1) _ h.2.2.2 f_b7 hw) f_b7 cv_4_148 ⟨by decide, by decide, rfl, rfl, by decide, by decide⟩ rfl hl.1 rfl (Nat.le_of_ble_eq_true rfl) dX4_beginAlways_53) (fun y9 T8 hw l_T8 H locs h => ?_)
      have f_a0 := l_T8.is f_a0
      have f_a1 := l_T8.is f_a1
      have f_b1 := l_T8.is f_b1
      have f_b4 := l_T8.is f_b4
      have f_b6 := l_T8.is f_b6
      have f_b7 := l_T8.is f_b7
      have hle := hle.tr l_T8
      refine kp_callv X h (kp_runV (rm := { frames := 0, cells := 0, slots := 0, locals := 0 }) (mc := 0) (ms := 0) (rest := []) (Qc := fun A => kp_Qv D cy A T8 _) X h (c_X7_write l D cy ad T8 b6 11 y9 _ h.2.2.2 f_b6 hw) f_b6 cv_4_169 ⟨by decide, by decide, rfl, rfl, by decide, by decide⟩ rfl hl.1 rfl (Nat.le_of_ble_eq_true rfl) dX4_beginAlways_56) (fun T10 hw l_T10 H locs h => ?_)
      have f_a0 := l_T10.is f_a0
      have f_a1 := l_T10.is f_a1
      have f_b1 := l_T10.is f_b1
      have f_b4 := l_T10.is f_b4
      have f_b6 := l_T10.is f_b6
      have f_b7 := l_T10.is f_b7
      have hle := hle.tr l_T10
      refine lv_aload_n X.1 X.2.1 dX4_beginAlways_59 rfl (lv_at hl 1 rfl) ?_
      refine lv_aload_n X.1 X.2.1 dX4_beginAlways_60 rfl (lv_at hl 2 rfl) ?_
      refine lv_iconst (v := 3) X.1 X.2.1 dX4_beginAlways_61 (by decide) ?_
      refine lv_iload_n X.1 X.2.1 dX4_beginAlways_62 rfl (lv_at hl 0 rfl) ?_
      refine kp_callv X h (kp_runV (rm := { frames := 1, cells := 0, slots := 0, locals := 22 }) (mc := 0) (ms := 0) (rest := []) (Qc := fun A => kp_Qv D cy A T10 _) X h (c_X4_keepWay l D cy ad T10 a0 a1 3 y3 _ h.2.2.2 f_a0 f_a1 hw) f_a0 cv_4_338 ⟨by decide, by decide, rfl, rfl, by decide, by decide⟩ rfl hl.1 rfl (Nat.le_of_ble_eq_true rfl) dX4_beginAlways_63) (fun T11 hw l_T11 H locs h => ?_)
      have f_a0 := l_T11.is f_a0
      have f_a1 := l_T11.is f_a1
      have f_b1 := l_T11.is f_b1
      have f_b4 := l_T11.is f_b4
      have f_b6 := l_T11.is f_b6
      have f_b7 := l_T11.is f_b7
      have hle := hle.tr l_T11
      refine lv_iconst (v := 1) X.1 X.2.1 dX4_beginAlways_66 (by decide) ?_
      exact kp_reti X hr hlocks h hle (by decide) hw dX4_beginAlways_67
    · have hw := hw.2 c12
      exact j26  T2 _ _ ls (lv_sub hl [] rfl) h hle f_a0 f_a1 hw
theorem dX4_leaveRound_0 : decode cX4_leaveRound 0 = .ok (.aload_n 0, 1) := by decide +kernel
theorem dX4_leaveRound_1 : decode cX4_leaveRound 1 = .ok (.aload_n 1, 1) := by decide +kernel
theorem dX4_leaveRound_2 : decode cX4_leaveRound 2 = .ok (.invokevirtual 342, 3) := by decide +kernel
theorem dX4_leaveRound_5 : decode cX4_leaveRound 5 = .ok (.ifCond .eq 4, 3) := by decide +kernel
theorem dX4_leaveRound_8 : decode cX4_leaveRound 8 = .ok (.return_, 1) := by decide +kernel
theorem dX4_leaveRound_9 : decode cX4_leaveRound 9 = .ok (.aload_n 1, 1) := by decide +kernel
theorem dX4_leaveRound_10 : decode cX4_leaveRound 10 = .ok (.getfield 156, 3) := by decide +kernel
theorem dX4_leaveRound_13 : decode cX4_leaveRound 13 = .ok (.iconst 3, 1) := by decide +kernel
theorem dX4_leaveRound_14 : decode cX4_leaveRound 14 = .ok (.if_icmp .ne 8, 3) := by decide +kernel
theorem dX4_leaveRound_17 : decode cX4_leaveRound 17 = .ok (.aload_n 0, 1) := by decide +kernel
theorem dX4_leaveRound_18 : decode cX4_leaveRound 18 = .ok (.aload_n 1, 1) := by decide +kernel
theorem dX4_leaveRound_19 : decode cX4_leaveRound 19 = .ok (.invokevirtual 346, 3) := by decide +kernel
theorem dX4_leaveRound_22 : decode cX4_leaveRound 22 = .ok (.aload_n 0, 1) := by decide +kernel
theorem dX4_leaveRound_23 : decode cX4_leaveRound 23 = .ok (.getfield 30, 3) := by decide +kernel
theorem dX4_leaveRound_26 : decode cX4_leaveRound 26 = .ok (.getfield 111, 3) := by decide +kernel
theorem dX4_leaveRound_29 : decode cX4_leaveRound 29 = .ok (.aload_n 1, 1) := by decide +kernel
theorem dX4_leaveRound_30 : decode cX4_leaveRound 30 = .ok (.getfield 159, 3) := by decide +kernel
theorem dX4_leaveRound_33 : decode cX4_leaveRound 33 = .ok (.if_icmp .ne 7, 3) := by decide +kernel
theorem dX4_leaveRound_36 : decode cX4_leaveRound 36 = .ok (.iconst 1, 1) := by decide +kernel
theorem dX4_leaveRound_37 : decode cX4_leaveRound 37 = .ok (.goto 4, 3) := by decide +kernel
theorem dX4_leaveRound_40 : decode cX4_leaveRound 40 = .ok (.iconst 0, 1) := by decide +kernel
theorem dX4_leaveRound_41 : decode cX4_leaveRound 41 = .ok (.istore_n 2, 1) := by decide +kernel
theorem dX4_leaveRound_42 : decode cX4_leaveRound 42 = .ok (.aload_n 0, 1) := by decide +kernel
theorem dX4_leaveRound_43 : decode cX4_leaveRound 43 = .ok (.getfield 30, 3) := by decide +kernel
theorem dX4_leaveRound_46 : decode cX4_leaveRound 46 = .ok (.getfield 93, 3) := by decide +kernel
theorem dX4_leaveRound_49 : decode cX4_leaveRound 49 = .ok (.bipush 16, 2) := by decide +kernel
theorem dX4_leaveRound_51 : decode cX4_leaveRound 51 = .ok (.if_icmp .ne 16, 3) := by decide +kernel
theorem dX4_leaveRound_54 : decode cX4_leaveRound 54 = .ok (.iload_n 2, 1) := by decide +kernel
theorem dX4_leaveRound_55 : decode cX4_leaveRound 55 = .ok (.ifCond .eq 12, 3) := by decide +kernel
theorem dX4_leaveRound_58 : decode cX4_leaveRound 58 = .ok (.aload_n 0, 1) := by decide +kernel
theorem dX4_leaveRound_59 : decode cX4_leaveRound 59 = .ok (.getfield 30, 3) := by decide +kernel
theorem dX4_leaveRound_62 : decode cX4_leaveRound 62 = .ok (.iconst 1, 1) := by decide +kernel
theorem dX4_leaveRound_63 : decode cX4_leaveRound 63 = .ok (.iconst 0, 1) := by decide +kernel
theorem dX4_leaveRound_64 : decode cX4_leaveRound 64 = .ok (.invokevirtual 75, 3) := by decide +kernel
theorem dX4_leaveRound_67 : decode cX4_leaveRound 67 = .ok (.aload_n 0, 1) := by decide +kernel
theorem dX4_leaveRound_68 : decode cX4_leaveRound 68 = .ok (.getfield 30, 3) := by decide +kernel
theorem dX4_leaveRound_71 : decode cX4_leaveRound 71 = .ok (.getfield 93, 3) := by decide +kernel
theorem dX4_leaveRound_74 : decode cX4_leaveRound 74 = .ok (.bipush 8, 2) := by decide +kernel
theorem dX4_leaveRound_76 : decode cX4_leaveRound 76 = .ok (.if_icmp .ne 37, 3) := by decide +kernel
theorem dX4_leaveRound_79 : decode cX4_leaveRound 79 = .ok (.iload_n 2, 1) := by decide +kernel
theorem dX4_leaveRound_80 : decode cX4_leaveRound 80 = .ok (.ifCond .eq 33, 3) := by decide +kernel
theorem dX4_leaveRound_83 : decode cX4_leaveRound 83 = .ok (.aload_n 0, 1) := by decide +kernel
theorem dX4_leaveRound_84 : decode cX4_leaveRound 84 = .ok (.getfield 30, 3) := by decide +kernel
theorem dX4_leaveRound_87 : decode cX4_leaveRound 87 = .ok (.iconst 1, 1) := by decide +kernel
theorem dX4_leaveRound_88 : decode cX4_leaveRound 88 = .ok (.iconst 0, 1) := by decide +kernel
theorem dX4_leaveRound_89 : decode cX4_leaveRound 89 = .ok (.invokevirtual 75, 3) := by decide +kernel
theorem dX4_leaveRound_92 : decode cX4_leaveRound 92 = .ok (.aload_n 0, 1) := by decide +kernel
theorem dX4_leaveRound_93 : decode cX4_leaveRound 93 = .ok (.aload_n 1, 1) := by decide +kernel
theorem dX4_leaveRound_94 : decode cX4_leaveRound 94 = .ok (.aload_n 0, 1) := by decide +kernel
theorem dX4_leaveRound_95 : decode cX4_leaveRound 95 = .ok (.getfield 42, 3) := by decide +kernel
theorem dX4_leaveRound_98 : decode cX4_leaveRound 98 = .ok (.aload_n 1, 1) := by decide +kernel
theorem dX4_leaveRound_99 : decode cX4_leaveRound 99 = .ok (.getfield 159, 3) := by decide +kernel
theorem dX4_leaveRound_102 : decode cX4_leaveRound 102 = .ok (.iconst 3, 1) := by decide +kernel
theorem dX4_leaveRound_103 : decode cX4_leaveRound 103 = .ok (.iadd, 1) := by decide +kernel
theorem dX4_leaveRound_104 : decode cX4_leaveRound 104 = .ok (.invokevirtual 148, 3) := by decide +kernel
theorem dX4_leaveRound_107 : decode cX4_leaveRound 107 = .ok (.invokevirtual 335, 3) := by decide +kernel
theorem dX4_leaveRound_110 : decode cX4_leaveRound 110 = .ok (.goto 21, 3) := by decide +kernel
theorem dX4_leaveRound_113 : decode cX4_leaveRound 113 = .ok (.aload_n 0, 1) := by decide +kernel
theorem dX4_leaveRound_114 : decode cX4_leaveRound 114 = .ok (.aload_n 1, 1) := by decide +kernel
theorem dX4_leaveRound_115 : decode cX4_leaveRound 115 = .ok (.aload_n 0, 1) := by decide +kernel
theorem dX4_leaveRound_116 : decode cX4_leaveRound 116 = .ok (.getfield 42, 3) := by decide +kernel
theorem dX4_leaveRound_119 : decode cX4_leaveRound 119 = .ok (.aload_n 1, 1) := by decide +kernel
theorem dX4_leaveRound_120 : decode cX4_leaveRound 120 = .ok (.getfield 159, 3) := by decide +kernel
theorem dX4_leaveRound_123 : decode cX4_leaveRound 123 = .ok (.iconst 2, 1) := by decide +kernel
theorem dX4_leaveRound_124 : decode cX4_leaveRound 124 = .ok (.iadd, 1) := by decide +kernel
theorem dX4_leaveRound_125 : decode cX4_leaveRound 125 = .ok (.invokevirtual 148, 3) := by decide +kernel
theorem dX4_leaveRound_128 : decode cX4_leaveRound 128 = .ok (.invokevirtual 335, 3) := by decide +kernel
theorem dX4_leaveRound_131 : decode cX4_leaveRound 131 = .ok (.return_, 1) := by decide +kernel
def wX4_leaveRound_b131 (a0 : Nat) (a1 : Nat)  (Sn : kp_S) (post : kp_S → Prop) : Prop :=
  post Sn
def wX4_leaveRound_b113 (a0 : Nat) (a1 : Nat)  (Sn : kp_S) (post : kp_S → Prop) : Prop :=
  ∃ b2001 : Nat, kp_R Sn 809 a0 = some b2001 ∧
  wX0_get b2001 ((kp_I Sn 1202 a1) + 2) Sn (fun y2003 T2002 =>
  wX4_leave a0 a1 y2003 T2002 (fun T2004 =>
  wX4_leaveRound_b131 a0 a1   T2004 post))
def wX4_leaveRound_b67 (a0 : Nat) (a1 : Nat) (xn2 : Int32)  (Sn : kp_S) (post : kp_S → Prop) : Prop :=
  ∃ b3001 : Nat, kp_R Sn 808 a0 = some b3001 ∧
  ((¬ (kp_I Sn 2000 b3001) = 8 →
  wX4_leaveRound_b113 a0 a1   Sn post) ∧ ((kp_I Sn 2000 b3001) = 8 →
  ((xn2 = 0 →
  wX4_leaveRound_b113 a0 a1   Sn post) ∧ (¬ xn2 = 0 →
  wX10_become b3001 1 0 Sn (fun T3002 =>
  ∃ b3003 : Nat, kp_R T3002 809 a0 = some b3003 ∧
  wX0_get b3003 ((kp_I T3002 1202 a1) + 3) T3002 (fun y3005 T3004 =>
  wX4_leave a0 a1 y3005 T3004 (fun T3006 =>
  wX4_leaveRound_b131 a0 a1   T3006 post)))))))
def wX4_leaveRound_b41 (a0 : Nat) (a1 : Nat) (xt0 : Int32)  (Sn : kp_S) (post : kp_S → Prop) : Prop :=
  ∃ b4001 : Nat, kp_R Sn 808 a0 = some b4001 ∧
  ((¬ (kp_I Sn 2000 b4001) = 16 →
  wX4_leaveRound_b67 a0 a1 xt0  Sn post) ∧ ((kp_I Sn 2000 b4001) = 16 →
  ((xt0 = 0 →
  wX4_leaveRound_b67 a0 a1 xt0  Sn post) ∧ (¬ xt0 = 0 →
  wX10_become b4001 1 0 Sn (fun T4002 =>
  wX4_leaveRound_b67 a0 a1 xt0  T4002 post)))))
def wX4_leaveRound_b22 (a0 : Nat) (a1 : Nat)  (Sn : kp_S) (post : kp_S → Prop) : Prop :=
  ∃ b5001 : Nat, kp_R Sn 808 a0 = some b5001 ∧
  ((¬ (kp_I Sn 2001 b5001) = (kp_I Sn 1202 a1) →
  wX4_leaveRound_b41 a0 a1 0  Sn post) ∧ ((kp_I Sn 2001 b5001) = (kp_I Sn 1202 a1) →
  wX4_leaveRound_b41 a0 a1 1  Sn post))
def wX4_leaveRound (a0 : Nat) (a1 : Nat) (S : kp_S) (post : kp_S → Prop) : Prop :=
  wX4_beginAlways a0 a1 S (fun y2 T1 =>
  ((y2 = 0 →
  ((¬ (kp_I T1 1201 a1) = 3 →
  wX4_leaveRound_b22 a0 a1   T1 post) ∧ ((kp_I T1 1201 a1) = 3 →
  wX4_takeWayBack a0 a1 T1 (fun T3 =>
  wX4_leaveRound_b22 a0 a1   T3 post)))) ∧ (¬ y2 = 0 →
  post T1)))
set_option maxHeartbeats 4000000 in
set_option maxRecDepth 100000 in
theorem c_X4_leaveRound (l : Launch) (D : va_G) (cy : Nat → ClassId) (ad : (Nat → Nat) × (Nat → Nat)) (S : kp_S) (a0 : Nat) (a1 : Nat) (post : kp_S → Prop) (hS : kp_ok S) (f_a0 : kp_is S a0 4) (f_a1 : kp_is S a1 6) (hw : wX4_leaveRound a0 a1 S post) : kp_M l yX4_leaveRound cX4_leaveRound 3 none { frames := 3, cells := 0, slots := 0, locals := 67 } D cy ad S [.ref a0, .ref a1] 0 0 (fun A => kp_Qv D cy A S post) := by
  refine kp_start (own := RX4) (by decide) rfl (Nat.le_of_ble_eq_true rfl) hS ?_
  intro p e s m below meth c A ls X hr hlocks hname h hl
  have hle : kp_le S S := kp_le.rf
  have hl : lv_has ls 3 [(0, .ref a0), (1, .ref a1)] := hl
  have j131 : ∀  (Sn : kp_S) (H : Heap) (locs : List Loc) (ls : Array Slot), lv_has ls 3 [] → kp_H D cy A Sn s.heap H locs → kp_le S Sn → kp_is Sn a0 4 → kp_is Sn a1 6 → wX4_leaveRound_b131 a0 a1   Sn post → W p l e { frames := 3, cells := 0, slots := 0, locals := 67 } s m ([.ref a0, .ref a1] : List Value).toArray below meth c H locs 0 0 (MQ below (kp_Qv D cy A S post) ([.ref a0, .ref a1] : List Value).toArray s 0 0 A) (F0 m 131 ls []) := by
    intro  Sn H locs ls hl h hle f_a0 f_a1 hw
    unfold wX4_leaveRound_b131 at hw
    exact kp_retv X hr hlocks h hle hw dX4_leaveRound_131
  have j113 : ∀  (Sn : kp_S) (H : Heap) (locs : List Loc) (ls : Array Slot), lv_has ls 3 [(0, .ref a0), (1, .ref a1)] → kp_H D cy A Sn s.heap H locs → kp_le S Sn → kp_is Sn a0 4 → kp_is Sn a1 6 → wX4_leaveRound_b113 a0 a1   Sn post → W p l e { frames := 3, cells := 0, slots := 0, locals := 67 } s m ([.ref a0, .ref a1] : List Value).toArray below meth c H locs 0 0 (MQ below (kp_Qv D cy A S post) ([.ref a0, .ref a1] : List Value).toArray s 0 0 A) (F0 m 113 ls []) := by
    intro  Sn H locs ls hl h hle f_a0 f_a1 hw
    unfold wX4_leaveRound_b113 at hw
    refine lv_aload_n X.1 X.2.1 dX4_leaveRound_113 rfl (lv_at hl 0 rfl) ?_
    refine lv_aload_n X.1 X.2.1 dX4_leaveRound_114 rfl (lv_at hl 1 rfl) ?_
    refine lv_aload_n X.1 X.2.1 dX4_leaveRound_115 rfl (lv_at hl 0 rfl) ?_
    obtain ⟨b2001, e_b2001, hw⟩ := hw
    have f_b2001 := h.2.2.2.rf (c := 4) (k := 9) f_a0 (by decide) (by decide) e_b2001 (t := 0) rfl
    refine kp_get X h f_a0 fp_4_42.l (v := .ref b2001) (congrArg va_rf e_b2001) dX4_leaveRound_116 ?_
    refine lv_aload_n X.1 X.2.1 dX4_leaveRound_119 rfl (lv_at hl 1 rfl) ?_
    refine kp_get X h f_a1 fp_4_159.l (v := .int (kp_I Sn 1202 a1)) rfl dX4_leaveRound_120 ?_
    refine lv_iconst (v := 2) X.1 X.2.1 dX4_leaveRound_123 (by decide) ?_
    refine lv_iadd X.1 X.2.1 dX4_leaveRound_124 ?_
    refine kp_calli X h (kp_runV (rm := { frames := 0, cells := 0, slots := 0, locals := 0 }) (mc := 0) (ms := 0) (rest := [.ref a1, .ref a0]) (Qc := fun A => kp_Qi D cy A Sn _) X h (c_X0_get l D cy ad Sn b2001 ((kp_I Sn 1202 a1) + 2) _ h.2.2.2 f_b2001 hw) f_b2001 cv_4_148 ⟨by decide, by decide, rfl, rfl, by decide, by decide⟩ rfl hl.1 rfl (Nat.le_of_ble_eq_true rfl) dX4_leaveRound_125) (fun y2003 T2002 hw l_T2002 H locs h => ?_)
    have f_a0 := l_T2002.is f_a0
    have f_a1 := l_T2002.is f_a1
    have f_b2001 := l_T2002.is f_b2001
    have hle := hle.tr l_T2002
    refine kp_callv X h (kp_runV (rm := { frames := 1, cells := 0, slots := 0, locals := 22 }) (mc := 0) (ms := 0) (rest := []) (Qc := fun A => kp_Qv D cy A T2002 _) X h (c_X4_leave l D cy ad T2002 a0 a1 y2003 _ h.2.2.2 f_a0 f_a1 hw) f_a0 cv_4_335 ⟨by decide, by decide, rfl, rfl, by decide, by decide⟩ rfl hl.1 rfl (Nat.le_of_ble_eq_true rfl) dX4_leaveRound_128) (fun T2004 hw l_T2004 H locs h => ?_)
    have f_a0 := l_T2004.is f_a0
    have f_a1 := l_T2004.is f_a1
    have f_b2001 := l_T2004.is f_b2001
    have hle := hle.tr l_T2004
    exact j131  T2004 H locs ls (lv_sub hl [] rfl) h hle f_a0 f_a1 hw
  have j67 : ∀ (xn2 : Int32) (Sn : kp_S) (H : Heap) (locs : List Loc) (ls : Array Slot), lv_has ls 3 [(0, .ref a0), (1, .ref a1), (2, .int xn2)] → kp_H D cy A Sn s.heap H locs → kp_le S Sn → kp_is Sn a0 4 → kp_is Sn a1 6 → wX4_leaveRound_b67 a0 a1 xn2  Sn post → W p l e { frames := 3, cells := 0, slots := 0, locals := 67 } s m ([.ref a0, .ref a1] : List Value).toArray below meth c H locs 0 0 (MQ below (kp_Qv D cy A S post) ([.ref a0, .ref a1] : List Value).toArray s 0 0 A) (F0 m 67 ls []) := by
    intro xn2 Sn H locs ls hl h hle f_a0 f_a1 hw
    unfold wX4_leaveRound_b67 at hw
    refine lv_aload_n X.1 X.2.1 dX4_leaveRound_67 rfl (lv_at hl 0 rfl) ?_
    obtain ⟨b3001, e_b3001, hw⟩ := hw
    have f_b3001 := h.2.2.2.rf (c := 4) (k := 8) f_a0 (by decide) (by decide) e_b3001 (t := 10) rfl
    refine kp_get X h f_a0 ff_4_30.l (v := .ref b3001) (congrArg va_rf e_b3001) dX4_leaveRound_68 ?_
    refine kp_get X h f_b3001 fp_4_93.l (v := .int (kp_I Sn 2000 b3001)) rfl dX4_leaveRound_71 ?_
    refine lv_bipush (v := 8) X.1 X.2.1 dX4_leaveRound_74 (by decide) ?_
    refine lv_icmp_ne (tgt := 113) X.1 X.2.1 dX4_leaveRound_76 (by decide) (fun c3008 => ?_) (fun c3008 => ?_)
    · have hw := hw.1 c3008
      exact j113  Sn H locs ls (lv_sub hl [0, 1] rfl) h hle f_a0 f_a1 hw
    · have hw := hw.2 c3008
      refine lv_iload_n X.1 X.2.1 dX4_leaveRound_79 rfl (lv_at hl 2 rfl) ?_
      refine lv_if_eq (tgt := 113) X.1 X.2.1 dX4_leaveRound_80 (by decide) (fun c3007 => ?_) (fun c3007 => ?_)
      · have hw := hw.1 c3007
        exact j113  Sn H locs ls (lv_sub hl [0, 1] rfl) h hle f_a0 f_a1 hw
      · have hw := hw.2 c3007
        refine lv_aload_n X.1 X.2.1 dX4_leaveRound_83 rfl (lv_at hl 0 rfl) ?_
        refine kp_get X h f_a0 ff_4_30.l (v := .ref b3001) (congrArg va_rf e_b3001) dX4_leaveRound_84 ?_
        refine lv_iconst (v := 1) X.1 X.2.1 dX4_leaveRound_87 (by decide) ?_
        refine lv_iconst (v := 0) X.1 X.2.1 dX4_leaveRound_88 (by decide) ?_
        refine kp_callv X h (kp_runV (rm := { frames := 0, cells := 0, slots := 0, locals := 0 }) (mc := 0) (ms := 0) (rest := []) (Qc := fun A => kp_Qv D cy A Sn _) X h (c_X10_become l D cy ad Sn b3001 1 0 _ h.2.2.2 f_b3001 hw) f_b3001 cv_4_75 ⟨by decide, by decide, rfl, rfl, by decide, by decide⟩ rfl hl.1 rfl (Nat.le_of_ble_eq_true rfl) dX4_leaveRound_89) (fun T3002 hw l_T3002 H locs h => ?_)
        have f_a0 := l_T3002.is f_a0
        have f_a1 := l_T3002.is f_a1
        have f_b3001 := l_T3002.is f_b3001
        have hle := hle.tr l_T3002
        refine lv_aload_n X.1 X.2.1 dX4_leaveRound_92 rfl (lv_at hl 0 rfl) ?_
        refine lv_aload_n X.1 X.2.1 dX4_leaveRound_93 rfl (lv_at hl 1 rfl) ?_
        refine lv_aload_n X.1 X.2.1 dX4_leaveRound_94 rfl (lv_at hl 0 rfl) ?_
        obtain ⟨b3003, e_b3003, hw⟩ := hw
        have f_b3003 := h.2.2.2.rf (c := 4) (k := 9) f_a0 (by decide) (by decide) e_b3003 (t := 0) rfl
        refine kp_get X h f_a0 fp_4_42.l (v := .ref b3003) (congrArg va_rf e_b3003) dX4_leaveRound_95 ?_
        refine lv_aload_n X.1 X.2.1 dX4_leaveRound_98 rfl (lv_at hl 1 rfl) ?_
        refine kp_get X h f_a1 fp_4_159.l (v := .int (kp_I T3002 1202 a1)) rfl dX4_leaveRound_99 ?_
        refine lv_iconst (v := 3) X.1 X.2.1 dX4_leaveRound_102 (by decide) ?_
        refine lv_iadd X.1 X.2.1 dX4_leaveRound_103 ?_
        refine kp_calli X h (kp_runV (rm := { frames := 0, cells := 0, slots := 0, locals := 0 }) (mc := 0) (ms := 0) (rest := [.ref a1, .ref a0]) (Qc := fun A => kp_Qi D cy A T3002 _) X h (c_X0_get l D cy ad T3002 b3003 ((kp_I T3002 1202 a1) + 3) _ h.2.2.2 f_b3003 hw) f_b3003 cv_4_148 ⟨by decide, by decide, rfl, rfl, by decide, by decide⟩ rfl hl.1 rfl (Nat.le_of_ble_eq_true rfl) dX4_leaveRound_104) (fun y3005 T3004 hw l_T3004 H locs h => ?_)
        have f_a0 := l_T3004.is f_a0
        have f_a1 := l_T3004.is f_a1
        have f_b3001 := l_T3004.is f_b3001
        have f_b3003 := l_T3004.is f_b3003
        have hle := hle.tr l_T3004
        refine kp_callv X h (kp_runV (rm := { frames := 1, cells := 0, slots := 0, locals := 22 }) (mc := 0) (ms := 0) (rest := []) (Qc := fun A => kp_Qv D cy A T3004 _) X h (c_X4_leave l D cy ad T3004 a0 a1 y3005 _ h.2.2.2 f_a0 f_a1 hw) f_a0 cv_4_335 ⟨by decide, by decide, rfl, rfl, by decide, by decide⟩ rfl hl.1 rfl (Nat.le_of_ble_eq_true rfl) dX4_leaveRound_107) (fun T3006 hw l_T3006 H locs h => ?_)
        have f_a0 := l_T3006.is f_a0
        have f_a1 := l_T3006.is f_a1
        have f_b3001 := l_T3006.is f_b3001
        have f_b3003 := l_T3006.is f_b3003
        have hle := hle.tr l_T3006
        refine lv_goto (tgt := 131) X.1 X.2.1 dX4_leaveRound_110 (by decide) ?_
        exact j131  T3006 H locs ls (lv_sub hl [] rfl) h hle f_a0 f_a1 hw
  have j41 : ∀ (xt0 : Int32) (Sn : kp_S) (H : Heap) (locs : List Loc) (ls : Array Slot), lv_has ls 3 [(0, .ref a0), (1, .ref a1)] → kp_H D cy A Sn s.heap H locs → kp_le S Sn → kp_is Sn a0 4 → kp_is Sn a1 6 → wX4_leaveRound_b41 a0 a1 xt0  Sn post → W p l e { frames := 3, cells := 0, slots := 0, locals := 67 } s m ([.ref a0, .ref a1] : List Value).toArray below meth c H locs 0 0 (MQ below (kp_Qv D cy A S post) ([.ref a0, .ref a1] : List Value).toArray s 0 0 A) (F0 m 41 ls [.int xt0]) := by
    intro xt0 Sn H locs ls hl h hle f_a0 f_a1 hw
    unfold wX4_leaveRound_b41 at hw
    refine lv_istore_n (lv' := [(2, .int xt0), (0, .ref a0), (1, .ref a1)]) X.1 X.2.1 dX4_leaveRound_41 rfl hl (by decide) rfl (fun ls hl => ?_)
    refine lv_aload_n X.1 X.2.1 dX4_leaveRound_42 rfl (lv_at hl 1 rfl) ?_
    obtain ⟨b4001, e_b4001, hw⟩ := hw
    have f_b4001 := h.2.2.2.rf (c := 4) (k := 8) f_a0 (by decide) (by decide) e_b4001 (t := 10) rfl
    refine kp_get X h f_a0 ff_4_30.l (v := .ref b4001) (congrArg va_rf e_b4001) dX4_leaveRound_43 ?_
    refine kp_get X h f_b4001 fp_4_93.l (v := .int (kp_I Sn 2000 b4001)) rfl dX4_leaveRound_46 ?_
    refine lv_bipush (v := 16) X.1 X.2.1 dX4_leaveRound_49 (by decide) ?_
    refine lv_icmp_ne (tgt := 67) X.1 X.2.1 dX4_leaveRound_51 (by decide) (fun c4004 => ?_) (fun c4004 => ?_)
    · have hw := hw.1 c4004
      exact j67 xt0 Sn H locs ls (lv_sub hl [1, 2, 0] rfl) h hle f_a0 f_a1 hw
    · have hw := hw.2 c4004
      refine lv_iload_n X.1 X.2.1 dX4_leaveRound_54 rfl (lv_at hl 0 rfl) ?_
      refine lv_if_eq (tgt := 67) X.1 X.2.1 dX4_leaveRound_55 (by decide) (fun c4003 => ?_) (fun c4003 => ?_)
      · have hw := hw.1 c4003
        exact j67 xt0 Sn H locs ls (lv_sub hl [1, 2, 0] rfl) h hle f_a0 f_a1 hw
      · have hw := hw.2 c4003
        refine lv_aload_n X.1 X.2.1 dX4_leaveRound_58 rfl (lv_at hl 1 rfl) ?_
        refine kp_get X h f_a0 ff_4_30.l (v := .ref b4001) (congrArg va_rf e_b4001) dX4_leaveRound_59 ?_
        refine lv_iconst (v := 1) X.1 X.2.1 dX4_leaveRound_62 (by decide) ?_
        refine lv_iconst (v := 0) X.1 X.2.1 dX4_leaveRound_63 (by decide) ?_
        refine kp_callv X h (kp_runV (rm := { frames := 0, cells := 0, slots := 0, locals := 0 }) (mc := 0) (ms := 0) (rest := []) (Qc := fun A => kp_Qv D cy A Sn _) X h (c_X10_become l D cy ad Sn b4001 1 0 _ h.2.2.2 f_b4001 hw) f_b4001 cv_4_75 ⟨by decide, by decide, rfl, rfl, by decide, by decide⟩ rfl hl.1 rfl (Nat.le_of_ble_eq_true rfl) dX4_leaveRound_64) (fun T4002 hw l_T4002 H locs h => ?_)
        have f_a0 := l_T4002.is f_a0
        have f_a1 := l_T4002.is f_a1
        have f_b4001 := l_T4002.is f_b4001
        have hle := hle.tr l_T4002
        exact j67 xt0 T4002 H locs ls (lv_sub hl [1, 2, 0] rfl) h hle f_a0 f_a1 hw
  have j22 : ∀  (Sn : kp_S) (H : Heap) (locs : List Loc) (ls : Array Slot), lv_has ls 3 [(0, .ref a0), (1, .ref a1)] → kp_H D cy A Sn s.heap H locs → kp_le S Sn → kp_is Sn a0 4 → kp_is Sn a1 6 → wX4_leaveRound_b22 a0 a1   Sn post → W p l e { frames := 3, cells := 0, slots := 0, locals := 67 } s m ([.ref a0, .ref a1] : List Value).toArray below meth c H locs 0 0 (MQ below (kp_Qv D cy A S post) ([.ref a0, .ref a1] : List Value).toArray s 0 0 A) (F0 m 22 ls []) := by
    intro  Sn H locs ls hl h hle f_a0 f_a1 hw
    unfold wX4_leaveRound_b22 at hw
    refine lv_aload_n X.1 X.2.1 dX4_leaveRound_22 rfl (lv_at hl 0 rfl) ?_
    obtain ⟨b5001, e_b5001, hw⟩ := hw
    have f_b5001 := h.2.2.2.rf (c := 4) (k := 8) f_a0 (by decide) (by decide) e_b5001 (t := 10) rfl
    refine kp_get X h f_a0 ff_4_30.l (v := .ref b5001) (congrArg va_rf e_b5001) dX4_leaveRound_23 ?_
    refine kp_get X h f_b5001 fp_4_111.l (v := .int (kp_I Sn 2001 b5001)) rfl dX4_leaveRound_26 ?_
    refine lv_aload_n X.1 X.2.1 dX4_leaveRound_29 rfl (lv_at hl 1 rfl) ?_
    refine kp_get X h f_a1 fp_4_159.l (v := .int (kp_I Sn 1202 a1)) rfl dX4_leaveRound_30 ?_
    refine lv_icmp_ne (tgt := 40) X.1 X.2.1 dX4_leaveRound_33 (by decide) (fun c5002 => ?_) (fun c5002 => ?_)
    · have hw := hw.1 c5002
      refine lv_iconst (v := 0) X.1 X.2.1 dX4_leaveRound_40 (by decide) ?_
      exact j41 0 Sn H locs ls (lv_sub hl [0, 1] rfl) h hle f_a0 f_a1 hw
    · have hw := hw.2 c5002
      refine lv_iconst (v := 1) X.1 X.2.1 dX4_leaveRound_36 (by decide) ?_
      refine lv_goto (tgt := 41) X.1 X.2.1 dX4_leaveRound_37 (by decide) ?_
      exact j41 1 Sn H locs ls (lv_sub hl [0, 1] rfl) h hle f_a0 f_a1 hw
  unfold wX4_leaveRound at hw
  have h : kp_H D cy A S s.heap s.heap [] := h
  revert h
  intro h
  refine lv_aload_n X.1 X.2.1 dX4_leaveRound_0 rfl (lv_at hl 0 rfl) ?_
  refine lv_aload_n X.1 X.2.1 dX4_leaveRound_1 rfl (lv_at hl 1 rfl) ?_
  refine kp_calli X h (kp_runV (rm := { frames := 2, cells := 0, slots := 0, locals := 45 }) (mc := 0) (ms := 0) (rest := []) (Qc := fun A => kp_Qi D cy A S _) X h (c_X4_beginAlways l D cy ad S a0 a1 _ h.2.2.2 f_a0 f_a1 hw) f_a0 cv_4_342 ⟨by decide, by decide, rfl, rfl, by decide, by decide⟩ rfl hl.1 rfl (Nat.le_of_ble_eq_true rfl) dX4_leaveRound_2) (fun y2 T1 hw l_T1 H locs h => ?_)
  have f_a0 := l_T1.is f_a0
  have f_a1 := l_T1.is f_a1
  have hle := hle.tr l_T1
  refine lv_if_eq (tgt := 9) X.1 X.2.1 dX4_leaveRound_5 (by decide) (fun c5 => ?_) (fun c5 => ?_)
  · have hw := hw.1 c5
    refine lv_aload_n X.1 X.2.1 dX4_leaveRound_9 rfl (lv_at hl 1 rfl) ?_
    refine kp_get X h f_a1 fp_4_156.l (v := .int (kp_I T1 1201 a1)) rfl dX4_leaveRound_10 ?_
    refine lv_iconst (v := 3) X.1 X.2.1 dX4_leaveRound_13 (by decide) ?_
    refine lv_icmp_ne (tgt := 22) X.1 X.2.1 dX4_leaveRound_14 (by decide) (fun c4 => ?_) (fun c4 => ?_)
    · have hw := hw.1 c4
      exact j22  T1 _ _ ls (lv_sub hl [0, 1] rfl) h hle f_a0 f_a1 hw
    · have hw := hw.2 c4
      refine lv_aload_n X.1 X.2.1 dX4_leaveRound_17 rfl (lv_at hl 0 rfl) ?_
      refine lv_aload_n X.1 X.2.1 dX4_leaveRound_18 rfl (lv_at hl 1 rfl) ?_
      refine kp_callv X h (kp_runV (rm := { frames := 1, cells := 0, slots := 0, locals := 23 }) (mc := 0) (ms := 0) (rest := []) (Qc := fun A => kp_Qv D cy A T1 _) X h (c_X4_takeWayBack l D cy ad T1 a0 a1 _ h.2.2.2 f_a0 f_a1 hw) f_a0 cv_4_346 ⟨by decide, by decide, rfl, rfl, by decide, by decide⟩ rfl hl.1 rfl (Nat.le_of_ble_eq_true rfl) dX4_leaveRound_19) (fun T3 hw l_T3 H locs h => ?_)
      have f_a0 := l_T3.is f_a0
      have f_a1 := l_T3.is f_a1
      have hle := hle.tr l_T3
      exact j22  T3 _ _ ls (lv_sub hl [0, 1] rfl) h hle f_a0 f_a1 hw
  · have hw := hw.2 c5
    exact kp_retv X hr hlocks h hle hw dX4_leaveRound_8
theorem dX4_leaveTry_0 : decode cX4_leaveTry 0 = .ok (.aload_n 0, 1) := by decide +kernel
theorem dX4_leaveTry_1 : decode cX4_leaveTry 1 = .ok (.getfield 42, 3) := by decide +kernel
theorem dX4_leaveTry_4 : decode cX4_leaveTry 4 = .ok (.aload_n 1, 1) := by decide +kernel
theorem dX4_leaveTry_5 : decode cX4_leaveTry 5 = .ok (.getfield 159, 3) := by decide +kernel
theorem dX4_leaveTry_8 : decode cX4_leaveTry 8 = .ok (.iconst 2, 1) := by decide +kernel
theorem dX4_leaveTry_9 : decode cX4_leaveTry 9 = .ok (.iadd, 1) := by decide +kernel
theorem dX4_leaveTry_10 : decode cX4_leaveTry 10 = .ok (.invokevirtual 148, 3) := by decide +kernel
theorem dX4_leaveTry_13 : decode cX4_leaveTry 13 = .ok (.istore_n 2, 1) := by decide +kernel
theorem dX4_leaveTry_14 : decode cX4_leaveTry 14 = .ok (.aload_n 1, 1) := by decide +kernel
theorem dX4_leaveTry_15 : decode cX4_leaveTry 15 = .ok (.getfield 156, 3) := by decide +kernel
theorem dX4_leaveTry_18 : decode cX4_leaveTry 18 = .ok (.ifCond .ne 43, 3) := by decide +kernel
theorem dX4_leaveTry_21 : decode cX4_leaveTry 21 = .ok (.aload_n 0, 1) := by decide +kernel
theorem dX4_leaveTry_22 : decode cX4_leaveTry 22 = .ok (.getfield 30, 3) := by decide +kernel
theorem dX4_leaveTry_25 : decode cX4_leaveTry 25 = .ok (.getfield 93, 3) := by decide +kernel
theorem dX4_leaveTry_28 : decode cX4_leaveTry 28 = .ok (.iconst 4, 1) := by decide +kernel
theorem dX4_leaveTry_29 : decode cX4_leaveTry 29 = .ok (.if_icmp .ne 32, 3) := by decide +kernel
theorem dX4_leaveTry_32 : decode cX4_leaveTry 32 = .ok (.iload_n 2, 1) := by decide +kernel
theorem dX4_leaveTry_33 : decode cX4_leaveTry 33 = .ok (.ifCond .eq 28, 3) := by decide +kernel
theorem dX4_leaveTry_36 : decode cX4_leaveTry 36 = .ok (.aload_n 0, 1) := by decide +kernel
theorem dX4_leaveTry_37 : decode cX4_leaveTry 37 = .ok (.aload_n 0, 1) := by decide +kernel
theorem dX4_leaveTry_38 : decode cX4_leaveTry 38 = .ok (.getfield 42, 3) := by decide +kernel
theorem dX4_leaveTry_41 : decode cX4_leaveTry 41 = .ok (.aload_n 1, 1) := by decide +kernel
theorem dX4_leaveTry_42 : decode cX4_leaveTry 42 = .ok (.getfield 159, 3) := by decide +kernel
theorem dX4_leaveTry_45 : decode cX4_leaveTry 45 = .ok (.iconst 1, 1) := by decide +kernel
theorem dX4_leaveTry_46 : decode cX4_leaveTry 46 = .ok (.iadd, 1) := by decide +kernel
theorem dX4_leaveTry_47 : decode cX4_leaveTry 47 = .ok (.invokevirtual 148, 3) := by decide +kernel
theorem dX4_leaveTry_50 : decode cX4_leaveTry 50 = .ok (.putfield 66, 3) := by decide +kernel
theorem dX4_leaveTry_53 : decode cX4_leaveTry 53 = .ok (.aload_n 0, 1) := by decide +kernel
theorem dX4_leaveTry_54 : decode cX4_leaveTry 54 = .ok (.aload_n 1, 1) := by decide +kernel
theorem dX4_leaveTry_55 : decode cX4_leaveTry 55 = .ok (.iconst 1, 1) := by decide +kernel
theorem dX4_leaveTry_56 : decode cX4_leaveTry 56 = .ok (.iload_n 2, 1) := by decide +kernel
theorem dX4_leaveTry_57 : decode cX4_leaveTry 57 = .ok (.invokevirtual 338, 3) := by decide +kernel
theorem dX4_leaveTry_60 : decode cX4_leaveTry 60 = .ok (.return_, 1) := by decide +kernel
theorem dX4_leaveTry_61 : decode cX4_leaveTry 61 = .ok (.aload_n 1, 1) := by decide +kernel
theorem dX4_leaveTry_62 : decode cX4_leaveTry 62 = .ok (.getfield 156, 3) := by decide +kernel
theorem dX4_leaveTry_65 : decode cX4_leaveTry 65 = .ok (.iconst 2, 1) := by decide +kernel
theorem dX4_leaveTry_66 : decode cX4_leaveTry 66 = .ok (.if_icmp .ne 14, 3) := by decide +kernel
theorem dX4_leaveTry_69 : decode cX4_leaveTry 69 = .ok (.aload_n 0, 1) := by decide +kernel
theorem dX4_leaveTry_70 : decode cX4_leaveTry 70 = .ok (.aload_n 1, 1) := by decide +kernel
theorem dX4_leaveTry_71 : decode cX4_leaveTry 71 = .ok (.getfield 163, 3) := by decide +kernel
theorem dX4_leaveTry_74 : decode cX4_leaveTry 74 = .ok (.putfield 63, 3) := by decide +kernel
theorem dX4_leaveTry_77 : decode cX4_leaveTry 77 = .ok (.goto 15, 3) := by decide +kernel
theorem dX4_leaveTry_80 : decode cX4_leaveTry 80 = .ok (.aload_n 1, 1) := by decide +kernel
theorem dX4_leaveTry_81 : decode cX4_leaveTry 81 = .ok (.getfield 156, 3) := by decide +kernel
theorem dX4_leaveTry_84 : decode cX4_leaveTry 84 = .ok (.ifCond .eq 8, 3) := by decide +kernel
theorem dX4_leaveTry_87 : decode cX4_leaveTry 87 = .ok (.aload_n 0, 1) := by decide +kernel
theorem dX4_leaveTry_88 : decode cX4_leaveTry 88 = .ok (.aload_n 1, 1) := by decide +kernel
theorem dX4_leaveTry_89 : decode cX4_leaveTry 89 = .ok (.invokevirtual 346, 3) := by decide +kernel
theorem dX4_leaveTry_92 : decode cX4_leaveTry 92 = .ok (.aload_n 0, 1) := by decide +kernel
theorem dX4_leaveTry_93 : decode cX4_leaveTry 93 = .ok (.aload_n 1, 1) := by decide +kernel
theorem dX4_leaveTry_94 : decode cX4_leaveTry 94 = .ok (.invokevirtual 342, 3) := by decide +kernel
theorem dX4_leaveTry_97 : decode cX4_leaveTry 97 = .ok (.ifCond .ne 21, 3) := by decide +kernel
theorem dX4_leaveTry_100 : decode cX4_leaveTry 100 = .ok (.aload_n 0, 1) := by decide +kernel
theorem dX4_leaveTry_101 : decode cX4_leaveTry 101 = .ok (.aload_n 1, 1) := by decide +kernel
theorem dX4_leaveTry_102 : decode cX4_leaveTry 102 = .ok (.aload_n 0, 1) := by decide +kernel
theorem dX4_leaveTry_103 : decode cX4_leaveTry 103 = .ok (.getfield 42, 3) := by decide +kernel
theorem dX4_leaveTry_106 : decode cX4_leaveTry 106 = .ok (.aload_n 1, 1) := by decide +kernel
theorem dX4_leaveTry_107 : decode cX4_leaveTry 107 = .ok (.getfield 159, 3) := by decide +kernel
theorem dX4_leaveTry_110 : decode cX4_leaveTry 110 = .ok (.iconst 3, 1) := by decide +kernel
theorem dX4_leaveTry_111 : decode cX4_leaveTry 111 = .ok (.iadd, 1) := by decide +kernel
theorem dX4_leaveTry_112 : decode cX4_leaveTry 112 = .ok (.invokevirtual 148, 3) := by decide +kernel
theorem dX4_leaveTry_115 : decode cX4_leaveTry 115 = .ok (.invokevirtual 335, 3) := by decide +kernel
theorem dX4_leaveTry_118 : decode cX4_leaveTry 118 = .ok (.return_, 1) := by decide +kernel
def wX4_leaveTry_b118 (a0 : Nat) (a1 : Nat)  (Sn : kp_S) (post : kp_S → Prop) : Prop :=
  post Sn
def wX4_leaveTry_b92 (a0 : Nat) (a1 : Nat)  (Sn : kp_S) (post : kp_S → Prop) : Prop :=
  wX4_beginAlways a0 a1 Sn (fun y2002 T2001 =>
  ((¬ y2002 = 0 →
  wX4_leaveTry_b118 a0 a1   T2001 post) ∧ (y2002 = 0 →
  ∃ b2003 : Nat, kp_R T2001 809 a0 = some b2003 ∧
  wX0_get b2003 ((kp_I T2001 1202 a1) + 3) T2001 (fun y2005 T2004 =>
  wX4_leave a0 a1 y2005 T2004 (fun T2006 =>
  wX4_leaveTry_b118 a0 a1   T2006 post)))))
def wX4_leaveTry_b61 (a0 : Nat) (a1 : Nat)  (Sn : kp_S) (post : kp_S → Prop) : Prop :=
  ((¬ (kp_I Sn 1201 a1) = 2 →
  (((kp_I Sn 1201 a1) = 0 →
  wX4_leaveTry_b92 a0 a1   Sn post) ∧ (¬ (kp_I Sn 1201 a1) = 0 →
  wX4_takeWayBack a0 a1 Sn (fun T3001 =>
  wX4_leaveTry_b92 a0 a1   T3001 post)))) ∧ ((kp_I Sn 1201 a1) = 2 →
  ∀ T3003 : kp_S, T3003 = kp_sI Sn 812 a0 (kp_I Sn 1207 a1) →
  wX4_leaveTry_b92 a0 a1   T3003 post))
def wX4_leaveTry (a0 : Nat) (a1 : Nat) (S : kp_S) (post : kp_S → Prop) : Prop :=
  ∃ b1 : Nat, kp_R S 809 a0 = some b1 ∧
  wX0_get b1 ((kp_I S 1202 a1) + 2) S (fun y3 T2 =>
  ((¬ (kp_I T2 1201 a1) = 0 →
  wX4_leaveTry_b61 a0 a1   T2 post) ∧ ((kp_I T2 1201 a1) = 0 →
  ∃ b4 : Nat, kp_R T2 808 a0 = some b4 ∧
  ((¬ (kp_I T2 2000 b4) = 4 →
  wX4_leaveTry_b61 a0 a1   T2 post) ∧ ((kp_I T2 2000 b4) = 4 →
  ((y3 = 0 →
  wX4_leaveTry_b61 a0 a1   T2 post) ∧ (¬ y3 = 0 →
  ∃ b5 : Nat, kp_R T2 809 a0 = some b5 ∧
  wX0_get b5 ((kp_I T2 1202 a1) + 1) T2 (fun y7 T6 =>
  ∀ T8 : kp_S, T8 = kp_sI T6 811 a0 y7 →
  wX4_keepWay a0 a1 1 y3 T8 (fun T9 =>
  post T9)))))))))
set_option maxHeartbeats 4000000 in
set_option maxRecDepth 100000 in
theorem c_X4_leaveTry (l : Launch) (D : va_G) (cy : Nat → ClassId) (ad : (Nat → Nat) × (Nat → Nat)) (S : kp_S) (a0 : Nat) (a1 : Nat) (post : kp_S → Prop) (hS : kp_ok S) (f_a0 : kp_is S a0 4) (f_a1 : kp_is S a1 6) (hw : wX4_leaveTry a0 a1 S post) : kp_M l yX4_leaveTry cX4_leaveTry 3 none { frames := 3, cells := 0, slots := 0, locals := 67 } D cy ad S [.ref a0, .ref a1] 0 0 (fun A => kp_Qv D cy A S post) := by
  refine kp_start (own := RX4) (by decide) rfl (Nat.le_of_ble_eq_true rfl) hS ?_
  intro p e s m below meth c A ls X hr hlocks hname h hl
  have hle : kp_le S S := kp_le.rf
  have hl : lv_has ls 3 [(0, .ref a0), (1, .ref a1)] := hl
  have j118 : ∀  (Sn : kp_S) (H : Heap) (locs : List Loc) (ls : Array Slot), lv_has ls 3 [] → kp_H D cy A Sn s.heap H locs → kp_le S Sn → kp_is Sn a0 4 → kp_is Sn a1 6 → wX4_leaveTry_b118 a0 a1   Sn post → W p l e { frames := 3, cells := 0, slots := 0, locals := 67 } s m ([.ref a0, .ref a1] : List Value).toArray below meth c H locs 0 0 (MQ below (kp_Qv D cy A S post) ([.ref a0, .ref a1] : List Value).toArray s 0 0 A) (F0 m 118 ls []) := by
    intro  Sn H locs ls hl h hle f_a0 f_a1 hw
    unfold wX4_leaveTry_b118 at hw
    exact kp_retv X hr hlocks h hle hw dX4_leaveTry_118
  have j92 : ∀  (Sn : kp_S) (H : Heap) (locs : List Loc) (ls : Array Slot), lv_has ls 3 [(0, .ref a0), (1, .ref a1)] → kp_H D cy A Sn s.heap H locs → kp_le S Sn → kp_is Sn a0 4 → kp_is Sn a1 6 → wX4_leaveTry_b92 a0 a1   Sn post → W p l e { frames := 3, cells := 0, slots := 0, locals := 67 } s m ([.ref a0, .ref a1] : List Value).toArray below meth c H locs 0 0 (MQ below (kp_Qv D cy A S post) ([.ref a0, .ref a1] : List Value).toArray s 0 0 A) (F0 m 92 ls []) := by
    intro  Sn H locs ls hl h hle f_a0 f_a1 hw
    unfold wX4_leaveTry_b92 at hw
    refine lv_aload_n X.1 X.2.1 dX4_leaveTry_92 rfl (lv_at hl 0 rfl) ?_
    refine lv_aload_n X.1 X.2.1 dX4_leaveTry_93 rfl (lv_at hl 1 rfl) ?_
    refine kp_calli X h (kp_runV (rm := { frames := 2, cells := 0, slots := 0, locals := 45 }) (mc := 0) (ms := 0) (rest := []) (Qc := fun A => kp_Qi D cy A Sn _) X h (c_X4_beginAlways l D cy ad Sn a0 a1 _ h.2.2.2 f_a0 f_a1 hw) f_a0 cv_4_342 ⟨by decide, by decide, rfl, rfl, by decide, by decide⟩ rfl hl.1 rfl (Nat.le_of_ble_eq_true rfl) dX4_leaveTry_94) (fun y2002 T2001 hw l_T2001 H locs h => ?_)
    have f_a0 := l_T2001.is f_a0
    have f_a1 := l_T2001.is f_a1
    have hle := hle.tr l_T2001
    refine lv_if_ne (tgt := 118) X.1 X.2.1 dX4_leaveTry_97 (by decide) (fun c2007 => ?_) (fun c2007 => ?_)
    · have hw := hw.1 c2007
      exact j118  T2001 H locs ls (lv_sub hl [] rfl) h hle f_a0 f_a1 hw
    · have hw := hw.2 c2007
      refine lv_aload_n X.1 X.2.1 dX4_leaveTry_100 rfl (lv_at hl 0 rfl) ?_
      refine lv_aload_n X.1 X.2.1 dX4_leaveTry_101 rfl (lv_at hl 1 rfl) ?_
      refine lv_aload_n X.1 X.2.1 dX4_leaveTry_102 rfl (lv_at hl 0 rfl) ?_
      obtain ⟨b2003, e_b2003, hw⟩ := hw
      have f_b2003 := h.2.2.2.rf (c := 4) (k := 9) f_a0 (by decide) (by decide) e_b2003 (t := 0) rfl
      refine kp_get X h f_a0 fp_4_42.l (v := .ref b2003) (congrArg va_rf e_b2003) dX4_leaveTry_103 ?_
      refine lv_aload_n X.1 X.2.1 dX4_leaveTry_106 rfl (lv_at hl 1 rfl) ?_
      refine kp_get X h f_a1 fp_4_159.l (v := .int (kp_I T2001 1202 a1)) rfl dX4_leaveTry_107 ?_
      refine lv_iconst (v := 3) X.1 X.2.1 dX4_leaveTry_110 (by decide) ?_
      refine lv_iadd X.1 X.2.1 dX4_leaveTry_111 ?_
      refine kp_calli X h (kp_runV (rm := { frames := 0, cells := 0, slots := 0, locals := 0 }) (mc := 0) (ms := 0) (rest := [.ref a1, .ref a0]) (Qc := fun A => kp_Qi D cy A T2001 _) X h (c_X0_get l D cy ad T2001 b2003 ((kp_I T2001 1202 a1) + 3) _ h.2.2.2 f_b2003 hw) f_b2003 cv_4_148 ⟨by decide, by decide, rfl, rfl, by decide, by decide⟩ rfl hl.1 rfl (Nat.le_of_ble_eq_true rfl) dX4_leaveTry_112) (fun y2005 T2004 hw l_T2004 H locs h => ?_)
      have f_a0 := l_T2004.is f_a0
      have f_a1 := l_T2004.is f_a1
      have f_b2003 := l_T2004.is f_b2003
      have hle := hle.tr l_T2004
      refine kp_callv X h (kp_runV (rm := { frames := 1, cells := 0, slots := 0, locals := 22 }) (mc := 0) (ms := 0) (rest := []) (Qc := fun A => kp_Qv D cy A T2004 _) X h (c_X4_leave l D cy ad T2004 a0 a1 y2005 _ h.2.2.2 f_a0 f_a1 hw) f_a0 cv_4_335 ⟨by decide, by decide, rfl, rfl, by decide, by decide⟩ rfl hl.1 rfl (Nat.le_of_ble_eq_true rfl) dX4_leaveTry_115) (fun T2006 hw l_T2006 H locs h => ?_)
      have f_a0 := l_T2006.is f_a0
      have f_a1 := l_T2006.is f_a1
      have f_b2003 := l_T2006.is f_b2003
      have hle := hle.tr l_T2006
      exact j118  T2006 H locs ls (lv_sub hl [] rfl) h hle f_a0 f_a1 hw
  have j61 : ∀  (Sn : kp_S) (H : Heap) (locs : List Loc) (ls : Array Slot), lv_has ls 3 [(0, .ref a0), (1, .ref a1)] → kp_H D cy A Sn s.heap H locs → kp_le S Sn → kp_is Sn a0 4 → kp_is Sn a1 6 → wX4_leaveTry_b61 a0 a1   Sn post → W p l e { frames := 3, cells := 0, slots := 0, locals := 67 } s m ([.ref a0, .ref a1] : List Value).toArray below meth c H locs 0 0 (MQ below (kp_Qv D cy A S post) ([.ref a0, .ref a1] : List Value).toArray s 0 0 A) (F0 m 61 ls []) := by
    intro  Sn H locs ls hl h hle f_a0 f_a1 hw
    unfold wX4_leaveTry_b61 at hw
    refine lv_aload_n X.1 X.2.1 dX4_leaveTry_61 rfl (lv_at hl 1 rfl) ?_
    refine kp_get X h f_a1 fp_4_156.l (v := .int (kp_I Sn 1201 a1)) rfl dX4_leaveTry_62 ?_
    refine lv_iconst (v := 2) X.1 X.2.1 dX4_leaveTry_65 (by decide) ?_
    refine lv_icmp_ne (tgt := 80) X.1 X.2.1 dX4_leaveTry_66 (by decide) (fun c3004 => ?_) (fun c3004 => ?_)
    · have hw := hw.1 c3004
      refine lv_aload_n X.1 X.2.1 dX4_leaveTry_80 rfl (lv_at hl 1 rfl) ?_
      refine kp_get X h f_a1 fp_4_156.l (v := .int (kp_I Sn 1201 a1)) rfl dX4_leaveTry_81 ?_
      refine lv_if_eq (tgt := 92) X.1 X.2.1 dX4_leaveTry_84 (by decide) (fun c3002 => ?_) (fun c3002 => ?_)
      · have hw := hw.1 c3002
        exact j92  Sn H locs ls (lv_sub hl [0, 1] rfl) h hle f_a0 f_a1 hw
      · have hw := hw.2 c3002
        refine lv_aload_n X.1 X.2.1 dX4_leaveTry_87 rfl (lv_at hl 0 rfl) ?_
        refine lv_aload_n X.1 X.2.1 dX4_leaveTry_88 rfl (lv_at hl 1 rfl) ?_
        refine kp_callv X h (kp_runV (rm := { frames := 1, cells := 0, slots := 0, locals := 23 }) (mc := 0) (ms := 0) (rest := []) (Qc := fun A => kp_Qv D cy A Sn _) X h (c_X4_takeWayBack l D cy ad Sn a0 a1 _ h.2.2.2 f_a0 f_a1 hw) f_a0 cv_4_346 ⟨by decide, by decide, rfl, rfl, by decide, by decide⟩ rfl hl.1 rfl (Nat.le_of_ble_eq_true rfl) dX4_leaveTry_89) (fun T3001 hw l_T3001 H locs h => ?_)
        have f_a0 := l_T3001.is f_a0
        have f_a1 := l_T3001.is f_a1
        have hle := hle.tr l_T3001
        exact j92  T3001 H locs ls (lv_sub hl [0, 1] rfl) h hle f_a0 f_a1 hw
    · have hw := hw.2 c3004
      refine lv_aload_n X.1 X.2.1 dX4_leaveTry_69 rfl (lv_at hl 0 rfl) ?_
      refine lv_aload_n X.1 X.2.1 dX4_leaveTry_70 rfl (lv_at hl 1 rfl) ?_
      refine kp_get X h f_a1 fp_4_163.l (v := .int (kp_I Sn 1207 a1)) rfl dX4_leaveTry_71 ?_
      refine kp_putI X h f_a0 fp_4_63 rfl ⟨rfl, rfl⟩ dX4_leaveTry_74 (fun T3003 e_T3003 l_T3003 H locs h => ?_)
      have hw := hw T3003 e_T3003
      have f_a0 := l_T3003.is f_a0
      have f_a1 := l_T3003.is f_a1
      have hle := hle.tr l_T3003
      refine lv_goto (tgt := 92) X.1 X.2.1 dX4_leaveTry_77 (by decide) ?_
      exact j92  T3003 H locs ls (lv_sub hl [0, 1] rfl) h hle f_a0 f_a1 hw
  unfold wX4_leaveTry at hw
  have h : kp_H D cy A S s.heap s.heap [] := h
  revert h
  intro h
  refine lv_aload_n X.1 X.2.1 dX4_leaveTry_0 rfl (lv_at hl 0 rfl) ?_
  obtain ⟨b1, e_b1, hw⟩ := hw
  have f_b1 := h.2.2.2.rf (c := 4) (k := 9) f_a0 (by decide) (by decide) e_b1 (t := 0) rfl
  refine kp_get X h f_a0 fp_4_42.l (v := .ref b1) (congrArg va_rf e_b1) dX4_leaveTry_1 ?_
  refine lv_aload_n X.1 X.2.1 dX4_leaveTry_4 rfl (lv_at hl 1 rfl) ?_
  refine kp_get X h f_a1 fp_4_159.l (v := .int (kp_I S 1202 a1)) rfl dX4_leaveTry_5 ?_
  refine lv_iconst (v := 2) X.1 X.2.1 dX4_leaveTry_8 (by decide) ?_
  refine lv_iadd X.1 X.2.1 dX4_leaveTry_9 ?_
  refine kp_calli X h (kp_runV (rm := { frames := 0, cells := 0, slots := 0, locals := 0 }) (mc := 0) (ms := 0) (rest := []) (Qc := fun A => kp_Qi D cy A S _) X h (c_X0_get l D cy ad S b1 ((kp_I S 1202 a1) + 2) _ h.2.2.2 f_b1 hw) f_b1 cv_4_148 ⟨by decide, by decide, rfl, rfl, by decide, by decide⟩ rfl hl.1 rfl (Nat.le_of_ble_eq_true rfl) dX4_leaveTry_10) (fun y3 T2 hw l_T2 H locs h => ?_)
  have f_a0 := l_T2.is f_a0
  have f_a1 := l_T2.is f_a1
  have f_b1 := l_T2.is f_b1
  have hle := hle.tr l_T2
  refine lv_istore_n (lv' := [(2, .int y3), (0, .ref a0), (1, .ref a1)]) X.1 X.2.1 dX4_leaveTry_13 rfl hl (by decide) rfl (fun ls hl => ?_)
  refine lv_aload_n X.1 X.2.1 dX4_leaveTry_14 rfl (lv_at hl 2 rfl) ?_
  refine kp_get X h f_a1 fp_4_156.l (v := .int (kp_I T2 1201 a1)) rfl dX4_leaveTry_15 ?_
  refine lv_if_ne (tgt := 61) X.1 X.2.1 dX4_leaveTry_18 (by decide) (fun c12 => ?_) (fun c12 => ?_)
  · have hw := hw.1 c12
    exact j61  T2 _ _ ls (lv_sub hl [1, 2] rfl) h hle f_a0 f_a1 hw
  · have hw := hw.2 c12
    refine lv_aload_n X.1 X.2.1 dX4_leaveTry_21 rfl (lv_at hl 1 rfl) ?_
    obtain ⟨b4, e_b4, hw⟩ := hw
    have f_b4 := h.2.2.2.rf (c := 4) (k := 8) f_a0 (by decide) (by decide) e_b4 (t := 10) rfl
    refine kp_get X h f_a0 ff_4_30.l (v := .ref b4) (congrArg va_rf e_b4) dX4_leaveTry_22 ?_
    refine kp_get X h f_b4 fp_4_93.l (v := .int (kp_I T2 2000 b4)) rfl dX4_leaveTry_25 ?_
    refine lv_iconst (v := 4) X.1 X.2.1 dX4_leaveTry_28 (by decide) ?_
    refine lv_icmp_ne (tgt := 61) X.1 X.2.1 dX4_leaveTry_29 (by decide) (fun c11 => ?_) (fun c11 => ?_)
    · have hw := hw.1 c11
      exact j61  T2 _ _ ls (lv_sub hl [1, 2] rfl) h hle f_a0 f_a1 hw
    · have hw := hw.2 c11
      refine lv_iload_n X.1 X.2.1 dX4_leaveTry_32 rfl (lv_at hl 0 rfl) ?_
      refine lv_if_eq (tgt := 61) X.1 X.2.1 dX4_leaveTry_33 (by decide) (fun c10 => ?_) (fun c10 => ?_)
      · have hw := hw.1 c10
        exact j61  T2 _ _ ls (lv_sub hl [1, 2] rfl) h hle f_a0 f_a1 hw
      · have hw := hw.2 c10
        refine lv_aload_n X.1 X.2.1 dX4_leaveTry_36 rfl (lv_at hl 1 rfl) ?_
        refine lv_aload_n X.1 X.2.1 dX4_leaveTry_37 rfl (lv_at hl 1 rfl) ?_
        obtain ⟨b5, e_b5, hw⟩ := hw
        have f_b5 := h.2.2.2.rf (c := 4) (k := 9) f_a0 (by decide) (by decide) e_b5 (t := 0) rfl
        refine kp_get X h f_a0 fp_4_42.l (v := .ref b5) (congrArg va_rf e_b5) dX4_leaveTry_38 ?_
        refine lv_aload_n X.1 X.2.1 dX4_leaveTry_41 rfl (lv_at hl 2 rfl) ?_
        refine kp_get X h f_a1 fp_4_159.l (v := .int (kp_I T2 1202 a1)) rfl dX4_leaveTry_42 ?_
        refine lv_iconst (v := 1) X.1 X.2.1 dX4_leaveTry_45 (by decide) ?_
        refine lv_iadd X.1 X.2.1 dX4_leaveTry_46 ?_
        refine kp_calli X h (kp_runV (rm := { frames := 0, cells := 0, slots := 0, locals := 0 }) (mc := 0) (ms := 0) (rest := [.ref a0]) (Qc := fun A => kp_Qi D cy A T2 _) X h (c_X0_get l D cy ad T2 b5 ((kp_I T2 1202 a1) + 1) _ h.2.2.2 f_b5 hw) f_b5 cv_4_148 ⟨by decide, by decide, rfl, rfl, by decide, by decide⟩ rfl hl.1 rfl (Nat.le_of_ble_eq_true rfl) dX4_leaveTry_47) (fun y7 T6 hw l_T6 H locs h => ?_)
        have f_a0 := l_T6.is f_a0
        have f_a1 := l_T6.is f_a1
        have f_b1 := l_T6.is f_b1
        have f_b4 := l_T6.is f_b4
        have f_b5 := l_T6.is f_b5
        have hle := hle.tr l_T6
        refine kp_putI X h f_a0 fp_4_66 rfl ⟨rfl, rfl⟩ dX4_leaveTry_50 (fun T8 e_T8 l_T8 H locs h => ?_)
        have hw := hw T8 e_T8
        have f_a0 := l_T8.is f_a0
        have f_a1 := l_T8.is f_a1
        have f_b1 := l_T8.is f_b1
        have f_b4 := l_T8.is f_b4
        have f_b5 := l_T8.is f_b5
        have hle := hle.tr l_T8
        refine lv_aload_n X.1 X.2.1 dX4_leaveTry_53 rfl (lv_at hl 1 rfl) ?_
        refine lv_aload_n X.1 X.2.1 dX4_leaveTry_54 rfl (lv_at hl 2 rfl) ?_
        refine lv_iconst (v := 1) X.1 X.2.1 dX4_leaveTry_55 (by decide) ?_
        refine lv_iload_n X.1 X.2.1 dX4_leaveTry_56 rfl (lv_at hl 0 rfl) ?_
        refine kp_callv X h (kp_runV (rm := { frames := 1, cells := 0, slots := 0, locals := 22 }) (mc := 0) (ms := 0) (rest := []) (Qc := fun A => kp_Qv D cy A T8 _) X h (c_X4_keepWay l D cy ad T8 a0 a1 1 y3 _ h.2.2.2 f_a0 f_a1 hw) f_a0 cv_4_338 ⟨by decide, by decide, rfl, rfl, by decide, by decide⟩ rfl hl.1 rfl (Nat.le_of_ble_eq_true rfl) dX4_leaveTry_57) (fun T9 hw l_T9 H locs h => ?_)
        have f_a0 := l_T9.is f_a0
        have f_a1 := l_T9.is f_a1
        have f_b1 := l_T9.is f_b1
        have f_b4 := l_T9.is f_b4
        have f_b5 := l_T9.is f_b5
        have hle := hle.tr l_T9
        exact kp_retv X hr hlocks h hle hw dX4_leaveTry_60
theorem dX4_leaveEnsure_0 : decode cX4_leaveEnsure 0 = .ok (.aload_n 1, 1) := by decide +kernel
theorem dX4_leaveEnsure_1 : decode cX4_leaveEnsure 1 = .ok (.getfield 156, 3) := by decide +kernel
theorem dX4_leaveEnsure_4 : decode cX4_leaveEnsure 4 = .ok (.iconst 1, 1) := by decide +kernel
theorem dX4_leaveEnsure_5 : decode cX4_leaveEnsure 5 = .ok (.if_icmp .ne 29, 3) := by decide +kernel
theorem dX4_leaveEnsure_8 : decode cX4_leaveEnsure 8 = .ok (.aload_n 0, 1) := by decide +kernel
theorem dX4_leaveEnsure_9 : decode cX4_leaveEnsure 9 = .ok (.aload_n 1, 1) := by decide +kernel
theorem dX4_leaveEnsure_10 : decode cX4_leaveEnsure 10 = .ok (.invokevirtual 346, 3) := by decide +kernel
theorem dX4_leaveEnsure_13 : decode cX4_leaveEnsure 13 = .ok (.aload_n 0, 1) := by decide +kernel
theorem dX4_leaveEnsure_14 : decode cX4_leaveEnsure 14 = .ok (.aload_n 1, 1) := by decide +kernel
theorem dX4_leaveEnsure_15 : decode cX4_leaveEnsure 15 = .ok (.aload_n 0, 1) := by decide +kernel
theorem dX4_leaveEnsure_16 : decode cX4_leaveEnsure 16 = .ok (.getfield 42, 3) := by decide +kernel
theorem dX4_leaveEnsure_19 : decode cX4_leaveEnsure 19 = .ok (.aload_n 1, 1) := by decide +kernel
theorem dX4_leaveEnsure_20 : decode cX4_leaveEnsure 20 = .ok (.getfield 159, 3) := by decide +kernel
theorem dX4_leaveEnsure_23 : decode cX4_leaveEnsure 23 = .ok (.iconst 3, 1) := by decide +kernel
theorem dX4_leaveEnsure_24 : decode cX4_leaveEnsure 24 = .ok (.iadd, 1) := by decide +kernel
theorem dX4_leaveEnsure_25 : decode cX4_leaveEnsure 25 = .ok (.invokevirtual 148, 3) := by decide +kernel
theorem dX4_leaveEnsure_28 : decode cX4_leaveEnsure 28 = .ok (.invokevirtual 335, 3) := by decide +kernel
theorem dX4_leaveEnsure_31 : decode cX4_leaveEnsure 31 = .ok (.goto 39, 3) := by decide +kernel
theorem dX4_leaveEnsure_34 : decode cX4_leaveEnsure 34 = .ok (.aload_n 0, 1) := by decide +kernel
theorem dX4_leaveEnsure_35 : decode cX4_leaveEnsure 35 = .ok (.invokevirtual 229, 3) := by decide +kernel
theorem dX4_leaveEnsure_38 : decode cX4_leaveEnsure 38 = .ok (.ifCond .eq 32, 3) := by decide +kernel
theorem dX4_leaveEnsure_41 : decode cX4_leaveEnsure 41 = .ok (.aload_n 0, 1) := by decide +kernel
theorem dX4_leaveEnsure_42 : decode cX4_leaveEnsure 42 = .ok (.aload_n 0, 1) := by decide +kernel
theorem dX4_leaveEnsure_43 : decode cX4_leaveEnsure 43 = .ok (.getfield 42, 3) := by decide +kernel
theorem dX4_leaveEnsure_46 : decode cX4_leaveEnsure 46 = .ok (.aload_n 1, 1) := by decide +kernel
theorem dX4_leaveEnsure_47 : decode cX4_leaveEnsure 47 = .ok (.getfield 159, 3) := by decide +kernel
theorem dX4_leaveEnsure_50 : decode cX4_leaveEnsure 50 = .ok (.iconst 1, 1) := by decide +kernel
theorem dX4_leaveEnsure_51 : decode cX4_leaveEnsure 51 = .ok (.iadd, 1) := by decide +kernel
theorem dX4_leaveEnsure_52 : decode cX4_leaveEnsure 52 = .ok (.invokevirtual 148, 3) := by decide +kernel
theorem dX4_leaveEnsure_55 : decode cX4_leaveEnsure 55 = .ok (.putfield 66, 3) := by decide +kernel
theorem dX4_leaveEnsure_58 : decode cX4_leaveEnsure 58 = .ok (.aload_n 0, 1) := by decide +kernel
theorem dX4_leaveEnsure_59 : decode cX4_leaveEnsure 59 = .ok (.aload_n 1, 1) := by decide +kernel
theorem dX4_leaveEnsure_60 : decode cX4_leaveEnsure 60 = .ok (.iconst 1, 1) := by decide +kernel
theorem dX4_leaveEnsure_61 : decode cX4_leaveEnsure 61 = .ok (.aload_n 1, 1) := by decide +kernel
theorem dX4_leaveEnsure_62 : decode cX4_leaveEnsure 62 = .ok (.getfield 159, 3) := by decide +kernel
theorem dX4_leaveEnsure_65 : decode cX4_leaveEnsure 65 = .ok (.iconst 5, 1) := by decide +kernel
theorem dX4_leaveEnsure_66 : decode cX4_leaveEnsure 66 = .ok (.iadd, 1) := by decide +kernel
theorem dX4_leaveEnsure_67 : decode cX4_leaveEnsure 67 = .ok (.invokevirtual 338, 3) := by decide +kernel
theorem dX4_leaveEnsure_70 : decode cX4_leaveEnsure 70 = .ok (.return_, 1) := by decide +kernel
def wX4_leaveEnsure_b70 (a0 : Nat) (a1 : Nat)  (Sn : kp_S) (post : kp_S → Prop) : Prop :=
  post Sn
def wX4_leaveEnsure (a0 : Nat) (a1 : Nat) (S : kp_S) (post : kp_S → Prop) : Prop :=
  ((¬ (kp_I S 1201 a1) = 1 →
  wX4_spend a0 S (fun y2 T1 =>
  ((y2 = 0 →
  wX4_leaveEnsure_b70 a0 a1   T1 post) ∧ (¬ y2 = 0 →
  ∃ b3 : Nat, kp_R T1 809 a0 = some b3 ∧
  wX0_get b3 ((kp_I T1 1202 a1) + 1) T1 (fun y5 T4 =>
  ∀ T6 : kp_S, T6 = kp_sI T4 811 a0 y5 →
  wX4_keepWay a0 a1 1 ((kp_I T6 1202 a1) + 5) T6 (fun T7 =>
  wX4_leaveEnsure_b70 a0 a1   T7 post)))))) ∧ ((kp_I S 1201 a1) = 1 →
  wX4_takeWayBack a0 a1 S (fun T9 =>
  ∃ b10 : Nat, kp_R T9 809 a0 = some b10 ∧
  wX0_get b10 ((kp_I T9 1202 a1) + 3) T9 (fun y12 T11 =>
  wX4_leave a0 a1 y12 T11 (fun T13 =>
  wX4_leaveEnsure_b70 a0 a1   T13 post)))))
set_option maxHeartbeats 4000000 in
set_option maxRecDepth 100000 in
theorem c_X4_leaveEnsure (l : Launch) (D : va_G) (cy : Nat → ClassId) (ad : (Nat → Nat) × (Nat → Nat)) (S : kp_S) (a0 : Nat) (a1 : Nat) (post : kp_S → Prop) (hS : kp_ok S) (f_a0 : kp_is S a0 4) (f_a1 : kp_is S a1 6) (hw : wX4_leaveEnsure a0 a1 S post) : kp_M l yX4_leaveEnsure cX4_leaveEnsure 2 none { frames := 2, cells := 0, slots := 0, locals := 45 } D cy ad S [.ref a0, .ref a1] 0 0 (fun A => kp_Qv D cy A S post) := by
  refine kp_start (own := RX4) (by decide) rfl (Nat.le_of_ble_eq_true rfl) hS ?_
  intro p e s m below meth c A ls X hr hlocks hname h hl
  have hle : kp_le S S := kp_le.rf
  have hl : lv_has ls 2 [(0, .ref a0), (1, .ref a1)] := hl
  have j70 : ∀  (Sn : kp_S) (H : Heap) (locs : List Loc) (ls : Array Slot), lv_has ls 2 [] → kp_H D cy A Sn s.heap H locs → kp_le S Sn → kp_is Sn a0 4 → kp_is Sn a1 6 → wX4_leaveEnsure_b70 a0 a1   Sn post → W p l e { frames := 2, cells := 0, slots := 0, locals := 45 } s m ([.ref a0, .ref a1] : List Value).toArray below meth c H locs 0 0 (MQ below (kp_Qv D cy A S post) ([.ref a0, .ref a1] : List Value).toArray s 0 0 A) (F0 m 70 ls []) := by
    intro  Sn H locs ls hl h hle f_a0 f_a1 hw
    unfold wX4_leaveEnsure_b70 at hw
    exact kp_retv X hr hlocks h hle hw dX4_leaveEnsure_70
  unfold wX4_leaveEnsure at hw
  have h : kp_H D cy A S s.heap s.heap [] := h
  revert h
  intro h
  refine lv_aload_n X.1 X.2.1 dX4_leaveEnsure_0 rfl (lv_at hl 1 rfl) ?_
  refine kp_get X h f_a1 fp_4_156.l (v := .int (kp_I S 1201 a1)) rfl dX4_leaveEnsure_1 ?_
  refine lv_iconst (v := 1) X.1 X.2.1 dX4_leaveEnsure_4 (by decide) ?_
  refine lv_icmp_ne (tgt := 34) X.1 X.2.1 dX4_leaveEnsure_5 (by decide) (fun c14 => ?_) (fun c14 => ?_)
  · have hw := hw.1 c14
    refine lv_aload_n X.1 X.2.1 dX4_leaveEnsure_34 rfl (lv_at hl 0 rfl) ?_
    refine kp_calli X h (kp_runV (rm := { frames := 0, cells := 0, slots := 0, locals := 0 }) (mc := 0) (ms := 0) (rest := []) (Qc := fun A => kp_Qi D cy A S _) X h (c_X4_spend l D cy ad S a0 _ h.2.2.2 f_a0 hw) f_a0 cv_4_229 ⟨by decide, by decide, rfl, rfl, by decide, by decide⟩ rfl hl.1 rfl (Nat.le_of_ble_eq_true rfl) dX4_leaveEnsure_35) (fun y2 T1 hw l_T1 H locs h => ?_)
    have f_a0 := l_T1.is f_a0
    have f_a1 := l_T1.is f_a1
    have hle := hle.tr l_T1
    refine lv_if_eq (tgt := 70) X.1 X.2.1 dX4_leaveEnsure_38 (by decide) (fun c8 => ?_) (fun c8 => ?_)
    · have hw := hw.1 c8
      exact j70  T1 _ _ ls (lv_sub hl [] rfl) h hle f_a0 f_a1 hw
    · have hw := hw.2 c8
      refine lv_aload_n X.1 X.2.1 dX4_leaveEnsure_41 rfl (lv_at hl 0 rfl) ?_
      refine lv_aload_n X.1 X.2.1 dX4_leaveEnsure_42 rfl (lv_at hl 0 rfl) ?_
      obtain ⟨b3, e_b3, hw⟩ := hw
      have f_b3 := h.2.2.2.rf (c := 4) (k := 9) f_a0 (by decide) (by decide) e_b3 (t := 0) rfl
      refine kp_get X h f_a0 fp_4_42.l (v := .ref b3) (congrArg va_rf e_b3) dX4_leaveEnsure_43 ?_
      refine lv_aload_n X.1 X.2.1 dX4_leaveEnsure_46 rfl (lv_at hl 1 rfl) ?_
      refine kp_get X h f_a1 fp_4_159.l (v := .int (kp_I T1 1202 a1)) rfl dX4_leaveEnsure_47 ?_
      refine lv_iconst (v := 1) X.1 X.2.1 dX4_leaveEnsure_50 (by decide) ?_
      refine lv_iadd X.1 X.2.1 dX4_leaveEnsure_51 ?_
      refine kp_calli X h (kp_runV (rm := { frames := 0, cells := 0, slots := 0, locals := 0 }) (mc := 0) (ms := 0) (rest := [.ref a0]) (Qc := fun A => kp_Qi D cy A T1 _) X h (c_X0_get l D cy ad T1 b3 ((kp_I T1 1202 a1) + 1) _ h.2.2.2 f_b3 hw) f_b3 cv_4_148 ⟨by decide, by decide, rfl, rfl, by decide, by decide⟩ rfl hl.1 rfl (Nat.le_of_ble_eq_true rfl) dX4_leaveEnsure_52) (fun y5 T4 hw l_T4 H locs h => ?_)
      have f_a0 := l_T4.is f_a0
      have f_a1 := l_T4.is f_a1
      have f_b3 := l_T4.is f_b3
      have hle := hle.tr l_T4
      refine kp_putI X h f_a0 fp_4_66 rfl ⟨rfl, rfl⟩ dX4_leaveEnsure_55 (fun T6 e_T6 l_T6 H locs h => ?_)
      have hw := hw T6 e_T6
      have f_a0 := l_T6.is f_a0
      have f_a1 := l_T6.is f_a1
      have f_b3 := l_T6.is f_b3
      have hle := hle.tr l_T6
      refine lv_aload_n X.1 X.2.1 dX4_leaveEnsure_58 rfl (lv_at hl 0 rfl) ?_
      refine lv_aload_n X.1 X.2.1 dX4_leaveEnsure_59 rfl (lv_at hl 1 rfl) ?_
      refine lv_iconst (v := 1) X.1 X.2.1 dX4_leaveEnsure_60 (by decide) ?_
      refine lv_aload_n X.1 X.2.1 dX4_leaveEnsure_61 rfl (lv_at hl 1 rfl) ?_
      refine kp_get X h f_a1 fp_4_159.l (v := .int (kp_I T6 1202 a1)) rfl dX4_leaveEnsure_62 ?_
      refine lv_iconst (v := 5) X.1 X.2.1 dX4_leaveEnsure_65 (by decide) ?_
      refine lv_iadd X.1 X.2.1 dX4_leaveEnsure_66 ?_
      refine kp_callv X h (kp_runV (rm := { frames := 1, cells := 0, slots := 0, locals := 22 }) (mc := 0) (ms := 0) (rest := []) (Qc := fun A => kp_Qv D cy A T6 _) X h (c_X4_keepWay l D cy ad T6 a0 a1 1 ((kp_I T6 1202 a1) + 5) _ h.2.2.2 f_a0 f_a1 hw) f_a0 cv_4_338 ⟨by decide, by decide, rfl, rfl, by decide, by decide⟩ rfl hl.1 rfl (Nat.le_of_ble_eq_true rfl) dX4_leaveEnsure_67) (fun T7 hw l_T7 H locs h => ?_)
      have f_a0 := l_T7.is f_a0
      have f_a1 := l_T7.is f_a1
      have f_b3 := l_T7.is f_b3
      have hle := hle.tr l_T7
      exact j70  T7 _ _ ls (lv_sub hl [] rfl) h hle f_a0 f_a1 hw
  · have hw := hw.2 c14
    refine lv_aload_n X.1 X.2.1 dX4_leaveEnsure_8 rfl (lv_at hl 0 rfl) ?_
    refine lv_aload_n X.1 X.2.1 dX4_leaveEnsure_9 rfl (lv_at hl 1 rfl) ?_
    refine kp_callv X h (kp_runV (rm := { frames := 1, cells := 0, slots := 0, locals := 23 }) (mc := 0) (ms := 0) (rest := []) (Qc := fun A => kp_Qv D cy A S _) X h (c_X4_takeWayBack l D cy ad S a0 a1 _ h.2.2.2 f_a0 f_a1 hw) f_a0 cv_4_346 ⟨by decide, by decide, rfl, rfl, by decide, by decide⟩ rfl hl.1 rfl (Nat.le_of_ble_eq_true rfl) dX4_leaveEnsure_10) (fun T9 hw l_T9 H locs h => ?_)
    have f_a0 := l_T9.is f_a0
    have f_a1 := l_T9.is f_a1
    have hle := hle.tr l_T9
    refine lv_aload_n X.1 X.2.1 dX4_leaveEnsure_13 rfl (lv_at hl 0 rfl) ?_
    refine lv_aload_n X.1 X.2.1 dX4_leaveEnsure_14 rfl (lv_at hl 1 rfl) ?_
    refine lv_aload_n X.1 X.2.1 dX4_leaveEnsure_15 rfl (lv_at hl 0 rfl) ?_
    obtain ⟨b10, e_b10, hw⟩ := hw
    have f_b10 := h.2.2.2.rf (c := 4) (k := 9) f_a0 (by decide) (by decide) e_b10 (t := 0) rfl
    refine kp_get X h f_a0 fp_4_42.l (v := .ref b10) (congrArg va_rf e_b10) dX4_leaveEnsure_16 ?_
    refine lv_aload_n X.1 X.2.1 dX4_leaveEnsure_19 rfl (lv_at hl 1 rfl) ?_
    refine kp_get X h f_a1 fp_4_159.l (v := .int (kp_I T9 1202 a1)) rfl dX4_leaveEnsure_20 ?_
    refine lv_iconst (v := 3) X.1 X.2.1 dX4_leaveEnsure_23 (by decide) ?_
    refine lv_iadd X.1 X.2.1 dX4_leaveEnsure_24 ?_
    refine kp_calli X h (kp_runV (rm := { frames := 0, cells := 0, slots := 0, locals := 0 }) (mc := 0) (ms := 0) (rest := [.ref a1, .ref a0]) (Qc := fun A => kp_Qi D cy A T9 _) X h (c_X0_get l D cy ad T9 b10 ((kp_I T9 1202 a1) + 3) _ h.2.2.2 f_b10 hw) f_b10 cv_4_148 ⟨by decide, by decide, rfl, rfl, by decide, by decide⟩ rfl hl.1 rfl (Nat.le_of_ble_eq_true rfl) dX4_leaveEnsure_25) (fun y12 T11 hw l_T11 H locs h => ?_)
    have f_a0 := l_T11.is f_a0
    have f_a1 := l_T11.is f_a1
    have f_b10 := l_T11.is f_b10
    have hle := hle.tr l_T11
    refine kp_callv X h (kp_runV (rm := { frames := 1, cells := 0, slots := 0, locals := 22 }) (mc := 0) (ms := 0) (rest := []) (Qc := fun A => kp_Qv D cy A T11 _) X h (c_X4_leave l D cy ad T11 a0 a1 y12 _ h.2.2.2 f_a0 f_a1 hw) f_a0 cv_4_335 ⟨by decide, by decide, rfl, rfl, by decide, by decide⟩ rfl hl.1 rfl (Nat.le_of_ble_eq_true rfl) dX4_leaveEnsure_28) (fun T13 hw l_T13 H locs h => ?_)
    have f_a0 := l_T13.is f_a0
    have f_a1 := l_T13.is f_a1
    have f_b10 := l_T13.is f_b10
    have hle := hle.tr l_T13
    refine lv_goto (tgt := 70) X.1 X.2.1 dX4_leaveEnsure_31 (by decide) ?_
    exact j70  T13 _ _ ls (lv_sub hl [] rfl) h hle f_a0 f_a1 hw
theorem dX4_endCall_0 : decode cX4_endCall 0 = .ok (.aload_n 0, 1) := by decide +kernel
theorem dX4_endCall_1 : decode cX4_endCall 1 = .ok (.dup, 1) := by decide +kernel
theorem dX4_endCall_2 : decode cX4_endCall 2 = .ok (.getfield 60, 3) := by decide +kernel
theorem dX4_endCall_5 : decode cX4_endCall 5 = .ok (.iconst 1, 1) := by decide +kernel
theorem dX4_endCall_6 : decode cX4_endCall 6 = .ok (.isub, 1) := by decide +kernel
theorem dX4_endCall_7 : decode cX4_endCall 7 = .ok (.putfield 60, 3) := by decide +kernel
theorem dX4_endCall_10 : decode cX4_endCall 10 = .ok (.aload_n 0, 1) := by decide +kernel
theorem dX4_endCall_11 : decode cX4_endCall 11 = .ok (.dup, 1) := by decide +kernel
theorem dX4_endCall_12 : decode cX4_endCall 12 = .ok (.getfield 57, 3) := by decide +kernel
theorem dX4_endCall_15 : decode cX4_endCall 15 = .ok (.iconst 1, 1) := by decide +kernel
theorem dX4_endCall_16 : decode cX4_endCall 16 = .ok (.isub, 1) := by decide +kernel
theorem dX4_endCall_17 : decode cX4_endCall 17 = .ok (.putfield 57, 3) := by decide +kernel
theorem dX4_endCall_20 : decode cX4_endCall 20 = .ok (.aload_n 0, 1) := by decide +kernel
theorem dX4_endCall_21 : decode cX4_endCall 21 = .ok (.getfield 30, 3) := by decide +kernel
theorem dX4_endCall_24 : decode cX4_endCall 24 = .ok (.getfield 93, 3) := by decide +kernel
theorem dX4_endCall_27 : decode cX4_endCall 27 = .ok (.iconst 4, 1) := by decide +kernel
theorem dX4_endCall_28 : decode cX4_endCall 28 = .ok (.if_icmp .ne 7, 3) := by decide +kernel
theorem dX4_endCall_31 : decode cX4_endCall 31 = .ok (.iconst 1, 1) := by decide +kernel
theorem dX4_endCall_32 : decode cX4_endCall 32 = .ok (.goto 4, 3) := by decide +kernel
theorem dX4_endCall_35 : decode cX4_endCall 35 = .ok (.iconst 0, 1) := by decide +kernel
theorem dX4_endCall_36 : decode cX4_endCall 36 = .ok (.istore_n 2, 1) := by decide +kernel
theorem dX4_endCall_37 : decode cX4_endCall 37 = .ok (.aload_n 0, 1) := by decide +kernel
theorem dX4_endCall_38 : decode cX4_endCall 38 = .ok (.getfield 60, 3) := by decide +kernel
theorem dX4_endCall_41 : decode cX4_endCall 41 = .ok (.ifCond .gt 19, 3) := by decide +kernel
theorem dX4_endCall_44 : decode cX4_endCall 44 = .ok (.aload_n 0, 1) := by decide +kernel
theorem dX4_endCall_45 : decode cX4_endCall 45 = .ok (.iload_n 2, 1) := by decide +kernel
theorem dX4_endCall_46 : decode cX4_endCall 46 = .ok (.ifCond .eq 7, 3) := by decide +kernel
theorem dX4_endCall_49 : decode cX4_endCall 49 = .ok (.iconst 3, 1) := by decide +kernel
theorem dX4_endCall_50 : decode cX4_endCall 50 = .ok (.goto 4, 3) := by decide +kernel
theorem dX4_endCall_53 : decode cX4_endCall 53 = .ok (.iconst 0, 1) := by decide +kernel
theorem dX4_endCall_54 : decode cX4_endCall 54 = .ok (.putfield 72, 3) := by decide +kernel
theorem dX4_endCall_57 : decode cX4_endCall 57 = .ok (.goto 52, 3) := by decide +kernel
theorem dX4_endCall_60 : decode cX4_endCall 60 = .ok (.iload_n 2, 1) := by decide +kernel
theorem dX4_endCall_61 : decode cX4_endCall 61 = .ok (.ifCond .ne 48, 3) := by decide +kernel
theorem dX4_endCall_64 : decode cX4_endCall 64 = .ok (.aload_n 0, 1) := by decide +kernel
theorem dX4_endCall_65 : decode cX4_endCall 65 = .ok (.getfield 30, 3) := by decide +kernel
theorem dX4_endCall_68 : decode cX4_endCall 68 = .ok (.getfield 93, 3) := by decide +kernel
theorem dX4_endCall_71 : decode cX4_endCall 71 = .ok (.iconst 2, 1) := by decide +kernel
theorem dX4_endCall_72 : decode cX4_endCall 72 = .ok (.if_icmp .ne 13, 3) := by decide +kernel
theorem dX4_endCall_75 : decode cX4_endCall 75 = .ok (.aload_n 0, 1) := by decide +kernel
theorem dX4_endCall_76 : decode cX4_endCall 76 = .ok (.getfield 30, 3) := by decide +kernel
theorem dX4_endCall_79 : decode cX4_endCall 79 = .ok (.getfield 111, 3) := by decide +kernel
theorem dX4_endCall_82 : decode cX4_endCall 82 = .ok (.goto 4, 3) := by decide +kernel
theorem dX4_endCall_85 : decode cX4_endCall 85 = .ok (.iconst 0, 1) := by decide +kernel
theorem dX4_endCall_86 : decode cX4_endCall 86 = .ok (.istore_n 3, 1) := by decide +kernel
theorem dX4_endCall_87 : decode cX4_endCall 87 = .ok (.aload_n 0, 1) := by decide +kernel
theorem dX4_endCall_88 : decode cX4_endCall 88 = .ok (.aload_n 1, 1) := by decide +kernel
theorem dX4_endCall_89 : decode cX4_endCall 89 = .ok (.aload_n 1, 1) := by decide +kernel
theorem dX4_endCall_90 : decode cX4_endCall 90 = .ok (.getfield 303, 3) := by decide +kernel
theorem dX4_endCall_93 : decode cX4_endCall 93 = .ok (.invokevirtual 331, 3) := by decide +kernel
theorem dX4_endCall_96 : decode cX4_endCall 96 = .ok (.aload_n 0, 1) := by decide +kernel
theorem dX4_endCall_97 : decode cX4_endCall 97 = .ok (.aload_n 1, 1) := by decide +kernel
theorem dX4_endCall_98 : decode cX4_endCall 98 = .ok (.getfield 306, 3) := by decide +kernel
theorem dX4_endCall_101 : decode cX4_endCall 101 = .ok (.putfield 66, 3) := by decide +kernel
theorem dX4_endCall_104 : decode cX4_endCall 104 = .ok (.aload_n 0, 1) := by decide +kernel
theorem dX4_endCall_105 : decode cX4_endCall 105 = .ok (.iload_n 3, 1) := by decide +kernel
theorem dX4_endCall_106 : decode cX4_endCall 106 = .ok (.invokevirtual 85, 3) := by decide +kernel
theorem dX4_endCall_109 : decode cX4_endCall 109 = .ok (.return_, 1) := by decide +kernel
def wX4_endCall_b109 (a0 : Nat) (a1 : Nat)  (Sn : kp_S) (post : kp_S → Prop) : Prop :=
  post Sn
def wX4_endCall_b86 (a0 : Nat) (a1 : Nat) (xt0 : Int32)  (Sn : kp_S) (post : kp_S → Prop) : Prop :=
  wX4_goOn a0 a1 (kp_I Sn 1205 a1) Sn (fun T2001 =>
  ∀ T2002 : kp_S, T2002 = kp_sI T2001 811 a0 (kp_I T2001 1206 a1) →
  wX4_push a0 xt0 T2002 (fun T2003 =>
  wX4_endCall_b109 a0 a1   T2003 post))
def wX4_endCall_b54 (a0 : Nat) (a1 : Nat) (xt0 : Int32) (at1 : Nat)  (Sn : kp_S) (post : kp_S → Prop) : Prop :=
  ∀ T3001 : kp_S, T3001 = kp_sI Sn 814 at1 xt0 →
  wX4_endCall_b109 a0 a1   T3001 post
def wX4_endCall_b36 (a0 : Nat) (a1 : Nat) (xt0 : Int32)  (Sn : kp_S) (post : kp_S → Prop) : Prop :=
  ((0 < (kp_I Sn 807 a0) →
  ((¬ xt0 = 0 →
  wX4_endCall_b109 a0 a1   Sn post) ∧ (xt0 = 0 →
  ∃ b4001 : Nat, kp_R Sn 808 a0 = some b4001 ∧
  ((¬ (kp_I Sn 2000 b4001) = 2 →
  wX4_endCall_b86 a0 a1 0  Sn post) ∧ ((kp_I Sn 2000 b4001) = 2 →
  wX4_endCall_b86 a0 a1 (kp_I Sn 2001 b4001)  Sn post))))) ∧ (¬ 0 < (kp_I Sn 807 a0) →
  ((xt0 = 0 →
  wX4_endCall_b54 a0 a1 0 a0  Sn post) ∧ (¬ xt0 = 0 →
  wX4_endCall_b54 a0 a1 3 a0  Sn post))))
def wX4_endCall (a0 : Nat) (a1 : Nat) (S : kp_S) (post : kp_S → Prop) : Prop :=
  ∀ T1 : kp_S, T1 = kp_sI S 807 a0 ((kp_I S 807 a0) - 1) →
  ∀ T2 : kp_S, T2 = kp_sI T1 805 a0 ((kp_I T1 805 a0) - 1) →
  ∃ b3 : Nat, kp_R T2 808 a0 = some b3 ∧
  ((¬ (kp_I T2 2000 b3) = 4 →
  wX4_endCall_b36 a0 a1 0  T2 post) ∧ ((kp_I T2 2000 b3) = 4 →
  wX4_endCall_b36 a0 a1 1  T2 post))
set_option maxHeartbeats 4000000 in
set_option maxRecDepth 100000 in
theorem c_X4_endCall (l : Launch) (D : va_G) (cy : Nat → ClassId) (ad : (Nat → Nat) × (Nat → Nat)) (S : kp_S) (a0 : Nat) (a1 : Nat) (post : kp_S → Prop) (hS : kp_ok S) (f_a0 : kp_is S a0 4) (f_a1 : kp_is S a1 6) (hw : wX4_endCall a0 a1 S post) : kp_M l yX4_endCall cX4_endCall 4 none { frames := 1, cells := 0, slots := 0, locals := 22 } D cy ad S [.ref a0, .ref a1] 0 0 (fun A => kp_Qv D cy A S post) := by
  refine kp_start (own := RX4) (by decide) rfl (Nat.le_of_ble_eq_true rfl) hS ?_
  intro p e s m below meth c A ls X hr hlocks hname h hl
  have hle : kp_le S S := kp_le.rf
  have hl : lv_has ls 4 [(0, .ref a0), (1, .ref a1)] := hl
  have j109 : ∀  (Sn : kp_S) (H : Heap) (locs : List Loc) (ls : Array Slot), lv_has ls 4 [] → kp_H D cy A Sn s.heap H locs → kp_le S Sn → kp_is Sn a0 4 → kp_is Sn a1 6 → wX4_endCall_b109 a0 a1   Sn post → W p l e { frames := 1, cells := 0, slots := 0, locals := 22 } s m ([.ref a0, .ref a1] : List Value).toArray below meth c H locs 0 0 (MQ below (kp_Qv D cy A S post) ([.ref a0, .ref a1] : List Value).toArray s 0 0 A) (F0 m 109 ls []) := by
    intro  Sn H locs ls hl h hle f_a0 f_a1 hw
    unfold wX4_endCall_b109 at hw
    exact kp_retv X hr hlocks h hle hw dX4_endCall_109
  have j86 : ∀ (xt0 : Int32) (Sn : kp_S) (H : Heap) (locs : List Loc) (ls : Array Slot), lv_has ls 4 [(0, .ref a0), (1, .ref a1)] → kp_H D cy A Sn s.heap H locs → kp_le S Sn → kp_is Sn a0 4 → kp_is Sn a1 6 → wX4_endCall_b86 a0 a1 xt0  Sn post → W p l e { frames := 1, cells := 0, slots := 0, locals := 22 } s m ([.ref a0, .ref a1] : List Value).toArray below meth c H locs 0 0 (MQ below (kp_Qv D cy A S post) ([.ref a0, .ref a1] : List Value).toArray s 0 0 A) (F0 m 86 ls [.int xt0]) := by
    intro xt0 Sn H locs ls hl h hle f_a0 f_a1 hw
    unfold wX4_endCall_b86 at hw
    refine lv_istore_n (lv' := [(3, .int xt0), (0, .ref a0), (1, .ref a1)]) X.1 X.2.1 dX4_endCall_86 rfl hl (by decide) rfl (fun ls hl => ?_)
    refine lv_aload_n X.1 X.2.1 dX4_endCall_87 rfl (lv_at hl 1 rfl) ?_
    refine lv_aload_n X.1 X.2.1 dX4_endCall_88 rfl (lv_at hl 2 rfl) ?_
    refine lv_aload_n X.1 X.2.1 dX4_endCall_89 rfl (lv_at hl 2 rfl) ?_
    refine kp_get X h f_a1 fp_4_303.l (v := .int (kp_I Sn 1205 a1)) rfl dX4_endCall_90 ?_
    refine kp_callv X h (kp_runV (rm := { frames := 0, cells := 0, slots := 0, locals := 0 }) (mc := 0) (ms := 0) (rest := []) (Qc := fun A => kp_Qv D cy A Sn _) X h (c_X4_goOn l D cy ad Sn a0 a1 (kp_I Sn 1205 a1) _ h.2.2.2 f_a0 f_a1 hw) f_a0 cv_4_331 ⟨by decide, by decide, rfl, rfl, by decide, by decide⟩ rfl hl.1 rfl (Nat.le_of_ble_eq_true rfl) dX4_endCall_93) (fun T2001 hw l_T2001 H locs h => ?_)
    have f_a0 := l_T2001.is f_a0
    have f_a1 := l_T2001.is f_a1
    have hle := hle.tr l_T2001
    refine lv_aload_n X.1 X.2.1 dX4_endCall_96 rfl (lv_at hl 1 rfl) ?_
    refine lv_aload_n X.1 X.2.1 dX4_endCall_97 rfl (lv_at hl 2 rfl) ?_
    refine kp_get X h f_a1 fp_4_306.l (v := .int (kp_I T2001 1206 a1)) rfl dX4_endCall_98 ?_
    refine kp_putI X h f_a0 fp_4_66 rfl ⟨rfl, rfl⟩ dX4_endCall_101 (fun T2002 e_T2002 l_T2002 H locs h => ?_)
    have hw := hw T2002 e_T2002
    have f_a0 := l_T2002.is f_a0
    have f_a1 := l_T2002.is f_a1
    have hle := hle.tr l_T2002
    refine lv_aload_n X.1 X.2.1 dX4_endCall_104 rfl (lv_at hl 1 rfl) ?_
    refine lv_iload_n X.1 X.2.1 dX4_endCall_105 rfl (lv_at hl 0 rfl) ?_
    refine kp_callv X h (kp_runV (rm := { frames := 0, cells := 0, slots := 0, locals := 0 }) (mc := 0) (ms := 0) (rest := []) (Qc := fun A => kp_Qv D cy A T2002 _) X h (c_X4_push l D cy ad T2002 a0 xt0 _ h.2.2.2 f_a0 hw) f_a0 cv_4_85 ⟨by decide, by decide, rfl, rfl, by decide, by decide⟩ rfl hl.1 rfl (Nat.le_of_ble_eq_true rfl) dX4_endCall_106) (fun T2003 hw l_T2003 H locs h => ?_)
    have f_a0 := l_T2003.is f_a0
    have f_a1 := l_T2003.is f_a1
    have hle := hle.tr l_T2003
    exact j109  T2003 H locs ls (lv_sub hl [] rfl) h hle f_a0 f_a1 hw
  have j54 : ∀ (xt0 : Int32) (at1 : Nat) (Sn : kp_S) (H : Heap) (locs : List Loc) (ls : Array Slot), lv_has ls 4 [] → kp_H D cy A Sn s.heap H locs → kp_le S Sn → kp_is Sn at1 4 → kp_is Sn a0 4 → kp_is Sn a1 6 → wX4_endCall_b54 a0 a1 xt0 at1  Sn post → W p l e { frames := 1, cells := 0, slots := 0, locals := 22 } s m ([.ref a0, .ref a1] : List Value).toArray below meth c H locs 0 0 (MQ below (kp_Qv D cy A S post) ([.ref a0, .ref a1] : List Value).toArray s 0 0 A) (F0 m 54 ls [.int xt0, .ref at1]) := by
    intro xt0 at1 Sn H locs ls hl h hle f_at1 f_a0 f_a1 hw
    unfold wX4_endCall_b54 at hw
    refine kp_putI X h f_at1 fp_4_72 rfl ⟨rfl, rfl⟩ dX4_endCall_54 (fun T3001 e_T3001 l_T3001 H locs h => ?_)
    have hw := hw T3001 e_T3001
    have f_at1 := l_T3001.is f_at1
    have f_a0 := l_T3001.is f_a0
    have f_a1 := l_T3001.is f_a1
    have hle := hle.tr l_T3001
    refine lv_goto (tgt := 109) X.1 X.2.1 dX4_endCall_57 (by decide) ?_
    exact j109  T3001 H locs ls (lv_sub hl [] rfl) h hle f_a0 f_a1 hw
  have j36 : ∀ (xt0 : Int32) (Sn : kp_S) (H : Heap) (locs : List Loc) (ls : Array Slot), lv_has ls 4 [(0, .ref a0), (1, .ref a1)] → kp_H D cy A Sn s.heap H locs → kp_le S Sn → kp_is Sn a0 4 → kp_is Sn a1 6 → wX4_endCall_b36 a0 a1 xt0  Sn post → W p l e { frames := 1, cells := 0, slots := 0, locals := 22 } s m ([.ref a0, .ref a1] : List Value).toArray below meth c H locs 0 0 (MQ below (kp_Qv D cy A S post) ([.ref a0, .ref a1] : List Value).toArray s 0 0 A) (F0 m 36 ls [.int xt0]) := by
    intro xt0 Sn H locs ls hl h hle f_a0 f_a1 hw
    unfold wX4_endCall_b36 at hw
    refine lv_istore_n (lv' := [(2, .int xt0), (0, .ref a0), (1, .ref a1)]) X.1 X.2.1 dX4_endCall_36 rfl hl (by decide) rfl (fun ls hl => ?_)
    refine lv_aload_n X.1 X.2.1 dX4_endCall_37 rfl (lv_at hl 1 rfl) ?_
    refine kp_get X h f_a0 fp_4_60.l (v := .int (kp_I Sn 807 a0)) rfl dX4_endCall_38 ?_
    refine lv_if_gt (tgt := 60) X.1 X.2.1 dX4_endCall_41 (by decide) (fun c4005 => ?_) (fun c4005 => ?_)
    · have hw := hw.1 c4005
      refine lv_iload_n X.1 X.2.1 dX4_endCall_60 rfl (lv_at hl 0 rfl) ?_
      refine lv_if_ne (tgt := 109) X.1 X.2.1 dX4_endCall_61 (by decide) (fun c4003 => ?_) (fun c4003 => ?_)
      · have hw := hw.1 c4003
        exact j109  Sn H locs ls (lv_sub hl [] rfl) h hle f_a0 f_a1 hw
      · have hw := hw.2 c4003
        refine lv_aload_n X.1 X.2.1 dX4_endCall_64 rfl (lv_at hl 1 rfl) ?_
        obtain ⟨b4001, e_b4001, hw⟩ := hw
        have f_b4001 := h.2.2.2.rf (c := 4) (k := 8) f_a0 (by decide) (by decide) e_b4001 (t := 10) rfl
        refine kp_get X h f_a0 ff_4_30.l (v := .ref b4001) (congrArg va_rf e_b4001) dX4_endCall_65 ?_
        refine kp_get X h f_b4001 fp_4_93.l (v := .int (kp_I Sn 2000 b4001)) rfl dX4_endCall_68 ?_
        refine lv_iconst (v := 2) X.1 X.2.1 dX4_endCall_71 (by decide) ?_
        refine lv_icmp_ne (tgt := 85) X.1 X.2.1 dX4_endCall_72 (by decide) (fun c4002 => ?_) (fun c4002 => ?_)
        · have hw := hw.1 c4002
          refine lv_iconst (v := 0) X.1 X.2.1 dX4_endCall_85 (by decide) ?_
          exact j86 0 Sn H locs ls (lv_sub hl [1, 2] rfl) h hle f_a0 f_a1 hw
        · have hw := hw.2 c4002
          refine lv_aload_n X.1 X.2.1 dX4_endCall_75 rfl (lv_at hl 1 rfl) ?_
          refine kp_get X h f_a0 ff_4_30.l (v := .ref b4001) (congrArg va_rf e_b4001) dX4_endCall_76 ?_
          refine kp_get X h f_b4001 fp_4_111.l (v := .int (kp_I Sn 2001 b4001)) rfl dX4_endCall_79 ?_
          refine lv_goto (tgt := 86) X.1 X.2.1 dX4_endCall_82 (by decide) ?_
          exact j86 (kp_I Sn 2001 b4001) Sn H locs ls (lv_sub hl [1, 2] rfl) h hle f_a0 f_a1 hw
    · have hw := hw.2 c4005
      refine lv_aload_n X.1 X.2.1 dX4_endCall_44 rfl (lv_at hl 1 rfl) ?_
      refine lv_iload_n X.1 X.2.1 dX4_endCall_45 rfl (lv_at hl 0 rfl) ?_
      refine lv_if_eq (tgt := 53) X.1 X.2.1 dX4_endCall_46 (by decide) (fun c4004 => ?_) (fun c4004 => ?_)
      · have hw := hw.1 c4004
        refine lv_iconst (v := 0) X.1 X.2.1 dX4_endCall_53 (by decide) ?_
        exact j54 0 a0 Sn H locs ls (lv_sub hl [] rfl) h hle f_a0 f_a0 f_a1 hw
      · have hw := hw.2 c4004
        refine lv_iconst (v := 3) X.1 X.2.1 dX4_endCall_49 (by decide) ?_
        refine lv_goto (tgt := 54) X.1 X.2.1 dX4_endCall_50 (by decide) ?_
        exact j54 3 a0 Sn H locs ls (lv_sub hl [] rfl) h hle f_a0 f_a0 f_a1 hw
  unfold wX4_endCall at hw
  have h : kp_H D cy A S s.heap s.heap [] := h
  revert h
  intro h
  refine lv_aload_n X.1 X.2.1 dX4_endCall_0 rfl (lv_at hl 0 rfl) ?_
  refine lv_dup X.1 X.2.1 dX4_endCall_1 rfl ?_
  refine kp_get X h f_a0 fp_4_60.l (v := .int (kp_I S 807 a0)) rfl dX4_endCall_2 ?_
  refine lv_iconst (v := 1) X.1 X.2.1 dX4_endCall_5 (by decide) ?_
  refine lv_isub X.1 X.2.1 dX4_endCall_6 ?_
  refine kp_putI X h f_a0 fp_4_60 rfl ⟨rfl, rfl⟩ dX4_endCall_7 (fun T1 e_T1 l_T1 H locs h => ?_)
  have hw := hw T1 e_T1
  have f_a0 := l_T1.is f_a0
  have f_a1 := l_T1.is f_a1
  have hle := hle.tr l_T1
  refine lv_aload_n X.1 X.2.1 dX4_endCall_10 rfl (lv_at hl 0 rfl) ?_
  refine lv_dup X.1 X.2.1 dX4_endCall_11 rfl ?_
  refine kp_get X h f_a0 fp_4_57.l (v := .int (kp_I T1 805 a0)) rfl dX4_endCall_12 ?_
  refine lv_iconst (v := 1) X.1 X.2.1 dX4_endCall_15 (by decide) ?_
  refine lv_isub X.1 X.2.1 dX4_endCall_16 ?_
  refine kp_putI X h f_a0 fp_4_57 rfl ⟨rfl, rfl⟩ dX4_endCall_17 (fun T2 e_T2 l_T2 H locs h => ?_)
  have hw := hw T2 e_T2
  have f_a0 := l_T2.is f_a0
  have f_a1 := l_T2.is f_a1
  have hle := hle.tr l_T2
  refine lv_aload_n X.1 X.2.1 dX4_endCall_20 rfl (lv_at hl 0 rfl) ?_
  obtain ⟨b3, e_b3, hw⟩ := hw
  have f_b3 := h.2.2.2.rf (c := 4) (k := 8) f_a0 (by decide) (by decide) e_b3 (t := 10) rfl
  refine kp_get X h f_a0 ff_4_30.l (v := .ref b3) (congrArg va_rf e_b3) dX4_endCall_21 ?_
  refine kp_get X h f_b3 fp_4_93.l (v := .int (kp_I T2 2000 b3)) rfl dX4_endCall_24 ?_
  refine lv_iconst (v := 4) X.1 X.2.1 dX4_endCall_27 (by decide) ?_
  refine lv_icmp_ne (tgt := 35) X.1 X.2.1 dX4_endCall_28 (by decide) (fun c4 => ?_) (fun c4 => ?_)
  · have hw := hw.1 c4
    refine lv_iconst (v := 0) X.1 X.2.1 dX4_endCall_35 (by decide) ?_
    exact j36 0 T2 _ _ ls (lv_sub hl [0, 1] rfl) h hle f_a0 f_a1 hw
  · have hw := hw.2 c4
    refine lv_iconst (v := 1) X.1 X.2.1 dX4_endCall_31 (by decide) ?_
    refine lv_goto (tgt := 36) X.1 X.2.1 dX4_endCall_32 (by decide) ?_
    exact j36 1 T2 _ _ ls (lv_sub hl [0, 1] rfl) h hle f_a0 f_a1 hw
theorem dX4_leaveCall_0 : decode cX4_leaveCall 0 = .ok (.aload_n 1, 1) := by decide +kernel
theorem dX4_leaveCall_1 : decode cX4_leaveCall 1 = .ok (.getfield 156, 3) := by decide +kernel
theorem dX4_leaveCall_4 : decode cX4_leaveCall 4 = .ok (.iconst 3, 1) := by decide +kernel
theorem dX4_leaveCall_5 : decode cX4_leaveCall 5 = .ok (.if_icmp .ne 8, 3) := by decide +kernel
theorem dX4_leaveCall_8 : decode cX4_leaveCall 8 = .ok (.aload_n 0, 1) := by decide +kernel
theorem dX4_leaveCall_9 : decode cX4_leaveCall 9 = .ok (.aload_n 1, 1) := by decide +kernel
theorem dX4_leaveCall_10 : decode cX4_leaveCall 10 = .ok (.invokevirtual 346, 3) := by decide +kernel
theorem dX4_leaveCall_13 : decode cX4_leaveCall 13 = .ok (.aload_n 0, 1) := by decide +kernel
theorem dX4_leaveCall_14 : decode cX4_leaveCall 14 = .ok (.invokevirtual 172, 3) := by decide +kernel
theorem dX4_leaveCall_17 : decode cX4_leaveCall 17 = .ok (.invokevirtual 349, 3) := by decide +kernel
theorem dX4_leaveCall_20 : decode cX4_leaveCall 20 = .ok (.ifCond .eq 51, 3) := by decide +kernel
theorem dX4_leaveCall_23 : decode cX4_leaveCall 23 = .ok (.aload_n 0, 1) := by decide +kernel
theorem dX4_leaveCall_24 : decode cX4_leaveCall 24 = .ok (.invokevirtual 172, 3) := by decide +kernel
theorem dX4_leaveCall_27 : decode cX4_leaveCall 27 = .ok (.invokevirtual 352, 3) := by decide +kernel
theorem dX4_leaveCall_30 : decode cX4_leaveCall 30 = .ok (.istore_n 2, 1) := by decide +kernel
theorem dX4_leaveCall_31 : decode cX4_leaveCall 31 = .ok (.aload_n 0, 1) := by decide +kernel
theorem dX4_leaveCall_32 : decode cX4_leaveCall 32 = .ok (.getfield 38, 3) := by decide +kernel
theorem dX4_leaveCall_35 : decode cX4_leaveCall 35 = .ok (.bipush 11, 2) := by decide +kernel
theorem dX4_leaveCall_37 : decode cX4_leaveCall 37 = .ok (.invokevirtual 166, 3) := by decide +kernel
theorem dX4_leaveCall_40 : decode cX4_leaveCall 40 = .ok (.aload_n 0, 1) := by decide +kernel
theorem dX4_leaveCall_41 : decode cX4_leaveCall 41 = .ok (.getfield 38, 3) := by decide +kernel
theorem dX4_leaveCall_44 : decode cX4_leaveCall 44 = .ok (.bipush 10, 2) := by decide +kernel
theorem dX4_leaveCall_46 : decode cX4_leaveCall 46 = .ok (.aload_n 0, 1) := by decide +kernel
theorem dX4_leaveCall_47 : decode cX4_leaveCall 47 = .ok (.getfield 42, 3) := by decide +kernel
theorem dX4_leaveCall_50 : decode cX4_leaveCall 50 = .ok (.iload_n 2, 1) := by decide +kernel
theorem dX4_leaveCall_51 : decode cX4_leaveCall 51 = .ok (.iconst 1, 1) := by decide +kernel
theorem dX4_leaveCall_52 : decode cX4_leaveCall 52 = .ok (.iadd, 1) := by decide +kernel
theorem dX4_leaveCall_53 : decode cX4_leaveCall 53 = .ok (.invokevirtual 148, 3) := by decide +kernel
theorem dX4_leaveCall_56 : decode cX4_leaveCall 56 = .ok (.invokevirtual 169, 3) := by decide +kernel
theorem dX4_leaveCall_59 : decode cX4_leaveCall 59 = .ok (.aload_n 0, 1) := by decide +kernel
theorem dX4_leaveCall_60 : decode cX4_leaveCall 60 = .ok (.aload_n 1, 1) := by decide +kernel
theorem dX4_leaveCall_61 : decode cX4_leaveCall 61 = .ok (.iconst 3, 1) := by decide +kernel
theorem dX4_leaveCall_62 : decode cX4_leaveCall 62 = .ok (.iload_n 2, 1) := by decide +kernel
theorem dX4_leaveCall_63 : decode cX4_leaveCall 63 = .ok (.iconst 5, 1) := by decide +kernel
theorem dX4_leaveCall_64 : decode cX4_leaveCall 64 = .ok (.iadd, 1) := by decide +kernel
theorem dX4_leaveCall_65 : decode cX4_leaveCall 65 = .ok (.invokevirtual 338, 3) := by decide +kernel
theorem dX4_leaveCall_68 : decode cX4_leaveCall 68 = .ok (.goto 8, 3) := by decide +kernel
theorem dX4_leaveCall_71 : decode cX4_leaveCall 71 = .ok (.aload_n 0, 1) := by decide +kernel
theorem dX4_leaveCall_72 : decode cX4_leaveCall 72 = .ok (.aload_n 1, 1) := by decide +kernel
theorem dX4_leaveCall_73 : decode cX4_leaveCall 73 = .ok (.invokevirtual 355, 3) := by decide +kernel
theorem dX4_leaveCall_76 : decode cX4_leaveCall 76 = .ok (.return_, 1) := by decide +kernel
def wX4_leaveCall_b76 (a0 : Nat) (a1 : Nat)  (Sn : kp_S) (post : kp_S → Prop) : Prop :=
  post Sn
def wX4_leaveCall_b13 (a0 : Nat) (a1 : Nat)  (Sn : kp_S) (post : kp_S → Prop) : Prop :=
  wX4_frame a0 Sn (fun b2002 T2001 =>
  wX3_hasLater b2002 T2001 (fun y2004 T2003 =>
  ((y2004 = 0 →
  wX4_endCall a0 a1 T2003 (fun T2005 =>
  wX4_leaveCall_b76 a0 a1   T2005 post)) ∧ (¬ y2004 = 0 →
  wX4_frame a0 T2003 (fun b2007 T2006 =>
  wX3_takeLater b2007 T2006 (fun y2009 T2008 =>
  ∃ b2010 : Nat, kp_R T2008 801 a0 = some b2010 ∧
  wX7_count b2010 11 T2008 (fun T2011 =>
  ∃ b2012 : Nat, kp_R T2011 801 a0 = some b2012 ∧
  ∃ b2013 : Nat, kp_R T2011 809 a0 = some b2013 ∧
  wX0_get b2013 (y2009 + 1) T2011 (fun y2015 T2014 =>
  wX7_write b2012 10 y2015 T2014 (fun T2016 =>
  wX4_keepWay a0 a1 3 (y2009 + 5) T2016 (fun T2017 =>
  wX4_leaveCall_b76 a0 a1   T2017 post))))))))))
def wX4_leaveCall (a0 : Nat) (a1 : Nat) (S : kp_S) (post : kp_S → Prop) : Prop :=
  ((¬ (kp_I S 1201 a1) = 3 →
  wX4_leaveCall_b13 a0 a1   S post) ∧ ((kp_I S 1201 a1) = 3 →
  wX4_takeWayBack a0 a1 S (fun T1 =>
  wX4_leaveCall_b13 a0 a1   T1 post)))
set_option maxHeartbeats 4000000 in
set_option maxRecDepth 100000 in
theorem c_X4_leaveCall (l : Launch) (D : va_G) (cy : Nat → ClassId) (ad : (Nat → Nat) × (Nat → Nat)) (S : kp_S) (a0 : Nat) (a1 : Nat) (post : kp_S → Prop) (hS : kp_ok S) (f_a0 : kp_is S a0 4) (f_a1 : kp_is S a1 6) (hw : wX4_leaveCall a0 a1 S post) : kp_M l yX4_leaveCall cX4_leaveCall 3 none { frames := 2, cells := 0, slots := 0, locals := 45 } D cy ad S [.ref a0, .ref a1] 0 0 (fun A => kp_Qv D cy A S post) := by
  refine kp_start (own := RX4) (by decide) rfl (Nat.le_of_ble_eq_true rfl) hS ?_
  intro p e s m below meth c A ls X hr hlocks hname h hl
  have hle : kp_le S S := kp_le.rf
  have hl : lv_has ls 3 [(0, .ref a0), (1, .ref a1)] := hl
  have j76 : ∀  (Sn : kp_S) (H : Heap) (locs : List Loc) (ls : Array Slot), lv_has ls 3 [] → kp_H D cy A Sn s.heap H locs → kp_le S Sn → kp_is Sn a0 4 → kp_is Sn a1 6 → wX4_leaveCall_b76 a0 a1   Sn post → W p l e { frames := 2, cells := 0, slots := 0, locals := 45 } s m ([.ref a0, .ref a1] : List Value).toArray below meth c H locs 0 0 (MQ below (kp_Qv D cy A S post) ([.ref a0, .ref a1] : List Value).toArray s 0 0 A) (F0 m 76 ls []) := by
    intro  Sn H locs ls hl h hle f_a0 f_a1 hw
    unfold wX4_leaveCall_b76 at hw
    exact kp_retv X hr hlocks h hle hw dX4_leaveCall_76
  have j13 : ∀  (Sn : kp_S) (H : Heap) (locs : List Loc) (ls : Array Slot), lv_has ls 3 [(0, .ref a0), (1, .ref a1)] → kp_H D cy A Sn s.heap H locs → kp_le S Sn → kp_is Sn a0 4 → kp_is Sn a1 6 → wX4_leaveCall_b13 a0 a1   Sn post → W p l e { frames := 2, cells := 0, slots := 0, locals := 45 } s m ([.ref a0, .ref a1] : List Value).toArray below meth c H locs 0 0 (MQ below (kp_Qv D cy A S post) ([.ref a0, .ref a1] : List Value).toArray s 0 0 A) (F0 m 13 ls []) := by
    intro  Sn H locs ls hl h hle f_a0 f_a1 hw
    unfold wX4_leaveCall_b13 at hw
    refine lv_aload_n X.1 X.2.1 dX4_leaveCall_13 rfl (lv_at hl 0 rfl) ?_
    refine kp_callr X h (kp_runV (rm := { frames := 0, cells := 0, slots := 0, locals := 0 }) (mc := 0) (ms := 0) (rest := []) (Qc := fun A => kp_Qr D cy A Sn 3 _) X h (c_X4_frame l D cy ad Sn a0 _ h.2.2.2 f_a0 hw) f_a0 cv_4_172 ⟨by decide, by decide, rfl, rfl, by decide, by decide⟩ rfl hl.1 rfl (Nat.le_of_ble_eq_true rfl) dX4_leaveCall_14) (fun b2002 T2001 hw l_T2001 f_b2002 H locs h => ?_)
    have f_a0 := l_T2001.is f_a0
    have f_a1 := l_T2001.is f_a1
    have hle := hle.tr l_T2001
    refine kp_calli X h (kp_runV (rm := { frames := 0, cells := 0, slots := 0, locals := 0 }) (mc := 0) (ms := 0) (rest := []) (Qc := fun A => kp_Qi D cy A T2001 _) X h (c_X3_hasLater l D cy ad T2001 b2002 _ h.2.2.2 f_b2002 hw) f_b2002 cv_4_349 ⟨by decide, by decide, rfl, rfl, by decide, by decide⟩ rfl hl.1 rfl (Nat.le_of_ble_eq_true rfl) dX4_leaveCall_17) (fun y2004 T2003 hw l_T2003 H locs h => ?_)
    have f_a0 := l_T2003.is f_a0
    have f_a1 := l_T2003.is f_a1
    have f_b2002 := l_T2003.is f_b2002
    have hle := hle.tr l_T2003
    refine lv_if_eq (tgt := 71) X.1 X.2.1 dX4_leaveCall_20 (by decide) (fun c2018 => ?_) (fun c2018 => ?_)
    · have hw := hw.1 c2018
      refine lv_aload_n X.1 X.2.1 dX4_leaveCall_71 rfl (lv_at hl 0 rfl) ?_
      refine lv_aload_n X.1 X.2.1 dX4_leaveCall_72 rfl (lv_at hl 1 rfl) ?_
      refine kp_callv X h (kp_runV (rm := { frames := 1, cells := 0, slots := 0, locals := 22 }) (mc := 0) (ms := 0) (rest := []) (Qc := fun A => kp_Qv D cy A T2003 _) X h (c_X4_endCall l D cy ad T2003 a0 a1 _ h.2.2.2 f_a0 f_a1 hw) f_a0 cv_4_355 ⟨by decide, by decide, rfl, rfl, by decide, by decide⟩ rfl hl.1 rfl (Nat.le_of_ble_eq_true rfl) dX4_leaveCall_73) (fun T2005 hw l_T2005 H locs h => ?_)
      have f_a0 := l_T2005.is f_a0
      have f_a1 := l_T2005.is f_a1
      have f_b2002 := l_T2005.is f_b2002
      have hle := hle.tr l_T2005
      exact j76  T2005 H locs ls (lv_sub hl [] rfl) h hle f_a0 f_a1 hw
    · have hw := hw.2 c2018
      refine lv_aload_n X.1 X.2.1 dX4_leaveCall_23 rfl (lv_at hl 0 rfl) ?_
      refine kp_callr X h (kp_runV (rm := { frames := 0, cells := 0, slots := 0, locals := 0 }) (mc := 0) (ms := 0) (rest := []) (Qc := fun A => kp_Qr D cy A T2003 3 _) X h (c_X4_frame l D cy ad T2003 a0 _ h.2.2.2 f_a0 hw) f_a0 cv_4_172 ⟨by decide, by decide, rfl, rfl, by decide, by decide⟩ rfl hl.1 rfl (Nat.le_of_ble_eq_true rfl) dX4_leaveCall_24) (fun b2007 T2006 hw l_T2006 f_b2007 H locs h => ?_)
      have f_a0 := l_T2006.is f_a0
      have f_a1 := l_T2006.is f_a1
      have f_b2002 := l_T2006.is f_b2002
      have hle := hle.tr l_T2006
      refine kp_calli X h (kp_runV (rm := { frames := 1, cells := 0, slots := 0, locals := 20 }) (mc := 0) (ms := 0) (rest := []) (Qc := fun A => kp_Qi D cy A T2006 _) X h (c_X3_takeLater l D cy ad T2006 b2007 _ h.2.2.2 f_b2007 hw) f_b2007 cv_4_352 ⟨by decide, by decide, rfl, rfl, by decide, by decide⟩ rfl hl.1 rfl (Nat.le_of_ble_eq_true rfl) dX4_leaveCall_27) (fun y2009 T2008 hw l_T2008 H locs h => ?_)
      have f_a0 := l_T2008.is f_a0
      have f_a1 := l_T2008.is f_a1
      have f_b2002 := l_T2008.is f_b2002
      have f_b2007 := l_T2008.is f_b2007
      have hle := hle.tr l_T2008
      refine lv_istore_n (lv' := [(2, .int y2009), (0, .ref a0), (1, .ref a1)]) X.1 X.2.1 dX4_leaveCall_30 rfl hl (by decide) rfl (fun ls hl => ?_)
      refine lv_aload_n X.1 X.2.1 dX4_leaveCall_31 rfl (lv_at hl 1 rfl) ?_
      obtain ⟨b2010, e_b2010, hw⟩ := hw
      have f_b2010 := h.2.2.2.rf (c := 4) (k := 1) f_a0 (by decide) (by decide) e_b2010 (t := 7) rfl
      refine kp_get X h f_a0 ff_4_38.l (v := .ref b2010) (congrArg va_rf e_b2010) dX4_leaveCall_32 ?_
      refine lv_bipush (v := 11) X.1 X.2.1 dX4_leaveCall_35 (by decide) ?_
      refine kp_callv X h (kp_runV (rm := { frames := 0, cells := 0, slots := 0, locals := 0 }) (mc := 0) (ms := 0) (rest := []) (Qc := fun A => kp_Qv D cy A T2008 _) X h (c_X7_count l D cy ad T2008 b2010 11 _ h.2.2.2 f_b2010 hw) f_b2010 cv_4_166 ⟨by decide, by decide, rfl, rfl, by decide, by decide⟩ rfl hl.1 rfl (Nat.le_of_ble_eq_true rfl) dX4_leaveCall_37) (fun T2011 hw l_T2011 H locs h => ?_)
      have f_a0 := l_T2011.is f_a0
      have f_a1 := l_T2011.is f_a1
      have f_b2002 := l_T2011.is f_b2002
      have f_b2007 := l_T2011.is f_b2007
      have f_b2010 := l_T2011.is f_b2010
      have hle := hle.tr l_T2011
      refine lv_aload_n X.1 X.2.1 dX4_leaveCall_40 rfl (lv_at hl 1 rfl) ?_
      obtain ⟨b2012, e_b2012, hw⟩ := hw
      have f_b2012 := h.2.2.2.rf (c := 4) (k := 1) f_a0 (by decide) (by decide) e_b2012 (t := 7) rfl
      refine kp_get X h f_a0 ff_4_38.l (v := .ref b2012) (congrArg va_rf e_b2012) dX4_leaveCall_41 ?_
      refine lv_bipush (v := 10) X.1 X.2.1 dX4_leaveCall_44 (by decide) ?_
      refine lv_aload_n X.1 X.2.1 dX4_leaveCall_46 rfl (lv_at hl 1 rfl) ?_
      obtain ⟨b2013, e_b2013, hw⟩ := hw
      have f_b2013 := h.2.2.2.rf (c := 4) (k := 9) f_a0 (by decide) (by decide) e_b2013 (t := 0) rfl
      refine kp_get X h f_a0 fp_4_42.l (v := .ref b2013) (congrArg va_rf e_b2013) dX4_leaveCall_47 ?_
      refine lv_iload_n X.1 X.2.1 dX4_leaveCall_50 rfl (lv_at hl 0 rfl) ?_
      refine lv_iconst (v := 1) X.1 X.2.1 dX4_leaveCall_51 (by decide) ?_
      refine lv_iadd X.1 X.2.1 dX4_leaveCall_52 ?_
      refine kp_calli X h (kp_runV (rm := { frames := 0, cells := 0, slots := 0, locals := 0 }) (mc := 0) (ms := 0) (rest := [.int 10, .ref b2012]) (Qc := fun A => kp_Qi D cy A T2011 _) X h (c_X0_get l D cy ad T2011 b2013 (y2009 + 1) _ h.2.2.2 f_b2013 hw) f_b2013 cv_4_148 ⟨by decide, by decide, rfl, rfl, by decide, by decide⟩ rfl hl.1 rfl (Nat.le_of_ble_eq_true rfl) dX4_leaveCall_53) (fun y2015 T2014 hw l_T2014 H locs h => ?_)
      have f_a0 := l_T2014.is f_a0
      have f_a1 := l_T2014.is f_a1
      have f_b2002 := l_T2014.is f_b2002
      have f_b2007 := l_T2014.is f_b2007
      have f_b2010 := l_T2014.is f_b2010
      have f_b2012 := l_T2014.is f_b2012
      have f_b2013 := l_T2014.is f_b2013
      have hle := hle.tr l_T2014
      refine kp_callv X h (kp_runV (rm := { frames := 0, cells := 0, slots := 0, locals := 0 }) (mc := 0) (ms := 0) (rest := []) (Qc := fun A => kp_Qv D cy A T2014 _) X h (c_X7_write l D cy ad T2014 b2012 10 y2015 _ h.2.2.2 f_b2012 hw) f_b2012 cv_4_169 ⟨by decide, by decide, rfl, rfl, by decide, by decide⟩ rfl hl.1 rfl (Nat.le_of_ble_eq_true rfl) dX4_leaveCall_56) (fun T2016 hw l_T2016 H locs h => ?_)
      have f_a0 := l_T2016.is f_a0
      have f_a1 := l_T2016.is f_a1
      have f_b2002 := l_T2016.is f_b2002
      have f_b2007 := l_T2016.is f_b2007
      have f_b2010 := l_T2016.is f_b2010
      have f_b2012 := l_T2016.is f_b2012
      have f_b2013 := l_T2016.is f_b2013
      have hle := hle.tr l_T2016
      refine lv_aload_n X.1 X.2.1 dX4_leaveCall_59 rfl (lv_at hl 1 rfl) ?_
      refine lv_aload_n X.1 X.2.1 dX4_leaveCall_60 rfl (lv_at hl 2 rfl) ?_
      refine lv_iconst (v := 3) X.1 X.2.1 dX4_leaveCall_61 (by decide) ?_
      refine lv_iload_n X.1 X.2.1 dX4_leaveCall_62 rfl (lv_at hl 0 rfl) ?_
      refine lv_iconst (v := 5) X.1 X.2.1 dX4_leaveCall_63 (by decide) ?_
      refine lv_iadd X.1 X.2.1 dX4_leaveCall_64 ?_
      refine kp_callv X h (kp_runV (rm := { frames := 1, cells := 0, slots := 0, locals := 22 }) (mc := 0) (ms := 0) (rest := []) (Qc := fun A => kp_Qv D cy A T2016 _) X h (c_X4_keepWay l D cy ad T2016 a0 a1 3 (y2009 + 5) _ h.2.2.2 f_a0 f_a1 hw) f_a0 cv_4_338 ⟨by decide, by decide, rfl, rfl, by decide, by decide⟩ rfl hl.1 rfl (Nat.le_of_ble_eq_true rfl) dX4_leaveCall_65) (fun T2017 hw l_T2017 H locs h => ?_)
      have f_a0 := l_T2017.is f_a0
      have f_a1 := l_T2017.is f_a1
      have f_b2002 := l_T2017.is f_b2002
      have f_b2007 := l_T2017.is f_b2007
      have f_b2010 := l_T2017.is f_b2010
      have f_b2012 := l_T2017.is f_b2012
      have f_b2013 := l_T2017.is f_b2013
      have hle := hle.tr l_T2017
      refine lv_goto (tgt := 76) X.1 X.2.1 dX4_leaveCall_68 (by decide) ?_
      exact j76  T2017 H locs ls (lv_sub hl [] rfl) h hle f_a0 f_a1 hw
  unfold wX4_leaveCall at hw
  have h : kp_H D cy A S s.heap s.heap [] := h
  revert h
  intro h
  refine lv_aload_n X.1 X.2.1 dX4_leaveCall_0 rfl (lv_at hl 1 rfl) ?_
  refine kp_get X h f_a1 fp_4_156.l (v := .int (kp_I S 1201 a1)) rfl dX4_leaveCall_1 ?_
  refine lv_iconst (v := 3) X.1 X.2.1 dX4_leaveCall_4 (by decide) ?_
  refine lv_icmp_ne (tgt := 13) X.1 X.2.1 dX4_leaveCall_5 (by decide) (fun c2 => ?_) (fun c2 => ?_)
  · have hw := hw.1 c2
    exact j13  S _ _ ls (lv_sub hl [0, 1] rfl) h hle f_a0 f_a1 hw
  · have hw := hw.2 c2
    refine lv_aload_n X.1 X.2.1 dX4_leaveCall_8 rfl (lv_at hl 0 rfl) ?_
    refine lv_aload_n X.1 X.2.1 dX4_leaveCall_9 rfl (lv_at hl 1 rfl) ?_
    refine kp_callv X h (kp_runV (rm := { frames := 1, cells := 0, slots := 0, locals := 23 }) (mc := 0) (ms := 0) (rest := []) (Qc := fun A => kp_Qv D cy A S _) X h (c_X4_takeWayBack l D cy ad S a0 a1 _ h.2.2.2 f_a0 f_a1 hw) f_a0 cv_4_346 ⟨by decide, by decide, rfl, rfl, by decide, by decide⟩ rfl hl.1 rfl (Nat.le_of_ble_eq_true rfl) dX4_leaveCall_10) (fun T1 hw l_T1 H locs h => ?_)
    have f_a0 := l_T1.is f_a0
    have f_a1 := l_T1.is f_a1
    have hle := hle.tr l_T1
    exact j13  T1 _ _ ls (lv_sub hl [0, 1] rfl) h hle f_a0 f_a1 hw
theorem dX4_leaveTop_0 : decode cX4_leaveTop 0 = .ok (.aload_n 0, 1) := by decide +kernel
theorem dX4_leaveTop_1 : decode cX4_leaveTop 1 = .ok (.invokevirtual 149, 3) := by decide +kernel
theorem dX4_leaveTop_4 : decode cX4_leaveTop 4 = .ok (.astore_n 1, 1) := by decide +kernel
theorem dX4_leaveTop_5 : decode cX4_leaveTop 5 = .ok (.aload_n 1, 1) := by decide +kernel
theorem dX4_leaveTop_6 : decode cX4_leaveTop 6 = .ok (.getfield 153, 3) := by decide +kernel
theorem dX4_leaveTop_9 : decode cX4_leaveTop 9 = .ok (.tableswitch 71 45 50 #[39, 47, 55, 71, 71, 63], 39) := by decide +kernel
theorem dX4_leaveTop_48 : decode cX4_leaveTop 48 = .ok (.aload_n 0, 1) := by decide +kernel
theorem dX4_leaveTop_49 : decode cX4_leaveTop 49 = .ok (.aload_n 1, 1) := by decide +kernel
theorem dX4_leaveTop_50 : decode cX4_leaveTop 50 = .ok (.invokevirtual 312, 3) := by decide +kernel
theorem dX4_leaveTop_53 : decode cX4_leaveTop 53 = .ok (.goto 32, 3) := by decide +kernel
theorem dX4_leaveTop_56 : decode cX4_leaveTop 56 = .ok (.aload_n 0, 1) := by decide +kernel
theorem dX4_leaveTop_57 : decode cX4_leaveTop 57 = .ok (.aload_n 1, 1) := by decide +kernel
theorem dX4_leaveTop_58 : decode cX4_leaveTop 58 = .ok (.invokevirtual 315, 3) := by decide +kernel
theorem dX4_leaveTop_61 : decode cX4_leaveTop 61 = .ok (.goto 24, 3) := by decide +kernel
theorem dX4_leaveTop_64 : decode cX4_leaveTop 64 = .ok (.aload_n 0, 1) := by decide +kernel
theorem dX4_leaveTop_65 : decode cX4_leaveTop 65 = .ok (.aload_n 1, 1) := by decide +kernel
theorem dX4_leaveTop_66 : decode cX4_leaveTop 66 = .ok (.invokevirtual 318, 3) := by decide +kernel
theorem dX4_leaveTop_69 : decode cX4_leaveTop 69 = .ok (.goto 16, 3) := by decide +kernel
theorem dX4_leaveTop_72 : decode cX4_leaveTop 72 = .ok (.aload_n 0, 1) := by decide +kernel
theorem dX4_leaveTop_73 : decode cX4_leaveTop 73 = .ok (.aload_n 1, 1) := by decide +kernel
theorem dX4_leaveTop_74 : decode cX4_leaveTop 74 = .ok (.invokevirtual 321, 3) := by decide +kernel
theorem dX4_leaveTop_77 : decode cX4_leaveTop 77 = .ok (.goto 8, 3) := by decide +kernel
theorem dX4_leaveTop_80 : decode cX4_leaveTop 80 = .ok (.aload_n 0, 1) := by decide +kernel
theorem dX4_leaveTop_81 : decode cX4_leaveTop 81 = .ok (.aload_n 1, 1) := by decide +kernel
theorem dX4_leaveTop_82 : decode cX4_leaveTop 82 = .ok (.invokevirtual 324, 3) := by decide +kernel
theorem dX4_leaveTop_85 : decode cX4_leaveTop 85 = .ok (.return_, 1) := by decide +kernel
def wX4_leaveTop_b85 (a0 : Nat)  (Sn : kp_S) (post : kp_S → Prop) : Prop :=
  post Sn
def wX4_leaveTop_b80 (a0 : Nat) (an1 : Nat)  (Sn : kp_S) (post : kp_S → Prop) : Prop :=
  wX4_leaveCall a0 an1 Sn (fun T2001 =>
  wX4_leaveTop_b85 a0   T2001 post)
def wX4_leaveTop (a0 : Nat) (S : kp_S) (post : kp_S → Prop) : Prop :=
  wX4_top a0 S (fun b2 T1 =>
  ∀ y3 : Int32, y3 = (kp_I T1 1200 b2) →
  ((y3 = 45 →
  wX4_leaveHold a0 b2 T1 (fun T5 =>
  wX4_leaveTop_b85 a0   T5 post)) ∧ (¬ y3 = 45 →
  ((y3 = 46 →
  wX4_leaveRound a0 b2 T1 (fun T7 =>
  wX4_leaveTop_b85 a0   T7 post)) ∧ (¬ y3 = 46 →
  ((y3 = 47 →
  wX4_leaveTry a0 b2 T1 (fun T9 =>
  wX4_leaveTop_b85 a0   T9 post)) ∧ (¬ y3 = 47 →
  ((y3 = 48 →
  wX4_leaveTop_b80 a0 b2  T1 post) ∧ (¬ y3 = 48 →
  ((y3 = 49 →
  wX4_leaveTop_b80 a0 b2  T1 post) ∧ (¬ y3 = 49 →
  ((y3 = 50 →
  wX4_leaveEnsure a0 b2 T1 (fun T13 =>
  wX4_leaveTop_b85 a0   T13 post)) ∧ (¬ y3 = 50 →
  wX4_leaveTop_b80 a0 b2  T1 post)))))))))))))
set_option maxHeartbeats 4000000 in
set_option maxRecDepth 100000 in
theorem c_X4_leaveTop (l : Launch) (D : va_G) (cy : Nat → ClassId) (ad : (Nat → Nat) × (Nat → Nat)) (S : kp_S) (a0 : Nat) (post : kp_S → Prop) (hS : kp_ok S) (f_a0 : kp_is S a0 4) (hw : wX4_leaveTop a0 S post) : kp_M l yX4_leaveTop cX4_leaveTop 2 none { frames := 4, cells := 0, slots := 0, locals := 89 } D cy ad S [.ref a0] 0 0 (fun A => kp_Qv D cy A S post) := by
  refine kp_start (own := RX4) (by decide) rfl (Nat.le_of_ble_eq_true rfl) hS ?_
  intro p e s m below meth c A ls X hr hlocks hname h hl
  have hle : kp_le S S := kp_le.rf
  have hl : lv_has ls 2 [(0, .ref a0)] := hl
  have j85 : ∀  (Sn : kp_S) (H : Heap) (locs : List Loc) (ls : Array Slot), lv_has ls 2 [] → kp_H D cy A Sn s.heap H locs → kp_le S Sn → kp_is Sn a0 4 → wX4_leaveTop_b85 a0   Sn post → W p l e { frames := 4, cells := 0, slots := 0, locals := 89 } s m ([.ref a0] : List Value).toArray below meth c H locs 0 0 (MQ below (kp_Qv D cy A S post) ([.ref a0] : List Value).toArray s 0 0 A) (F0 m 85 ls []) := by
    intro  Sn H locs ls hl h hle f_a0 hw
    unfold wX4_leaveTop_b85 at hw
    exact kp_retv X hr hlocks h hle hw dX4_leaveTop_85
  have j80 : ∀ (an1 : Nat) (Sn : kp_S) (H : Heap) (locs : List Loc) (ls : Array Slot), lv_has ls 2 [(0, .ref a0), (1, .ref an1)] → kp_H D cy A Sn s.heap H locs → kp_le S Sn → kp_is Sn a0 4 → kp_is Sn an1 6 → wX4_leaveTop_b80 a0 an1  Sn post → W p l e { frames := 4, cells := 0, slots := 0, locals := 89 } s m ([.ref a0] : List Value).toArray below meth c H locs 0 0 (MQ below (kp_Qv D cy A S post) ([.ref a0] : List Value).toArray s 0 0 A) (F0 m 80 ls []) := by
    intro an1 Sn H locs ls hl h hle f_a0 f_an1 hw
    unfold wX4_leaveTop_b80 at hw
    refine lv_aload_n X.1 X.2.1 dX4_leaveTop_80 rfl (lv_at hl 0 rfl) ?_
    refine lv_aload_n X.1 X.2.1 dX4_leaveTop_81 rfl (lv_at hl 1 rfl) ?_
    refine kp_callv X h (kp_runV (rm := { frames := 2, cells := 0, slots := 0, locals := 45 }) (mc := 0) (ms := 0) (rest := []) (Qc := fun A => kp_Qv D cy A Sn _) X h (c_X4_leaveCall l D cy ad Sn a0 an1 _ h.2.2.2 f_a0 f_an1 hw) f_a0 cv_4_324 ⟨by decide, by decide, rfl, rfl, by decide, by decide⟩ rfl hl.1 rfl (Nat.le_of_ble_eq_true rfl) dX4_leaveTop_82) (fun T2001 hw l_T2001 H locs h => ?_)
    have f_a0 := l_T2001.is f_a0
    have f_an1 := l_T2001.is f_an1
    have hle := hle.tr l_T2001
    exact j85  T2001 H locs ls (lv_sub hl [] rfl) h hle f_a0 hw
  unfold wX4_leaveTop at hw
  have h : kp_H D cy A S s.heap s.heap [] := h
  revert h
  intro h
  refine lv_aload_n X.1 X.2.1 dX4_leaveTop_0 rfl (lv_at hl 0 rfl) ?_
  refine kp_callr X h (kp_runV (rm := { frames := 0, cells := 0, slots := 0, locals := 0 }) (mc := 0) (ms := 0) (rest := []) (Qc := fun A => kp_Qr D cy A S 6 _) X h (c_X4_top l D cy ad S a0 _ h.2.2.2 f_a0 hw) f_a0 cv_4_149 ⟨by decide, by decide, rfl, rfl, by decide, by decide⟩ rfl hl.1 rfl (Nat.le_of_ble_eq_true rfl) dX4_leaveTop_1) (fun b2 T1 hw l_T1 f_b2 H locs h => ?_)
  have f_a0 := l_T1.is f_a0
  have hle := hle.tr l_T1
  refine lv_astore_n (lv' := [(1, .ref b2), (0, .ref a0)]) X.1 X.2.1 dX4_leaveTop_4 rfl hl (by decide) rfl (fun ls hl => ?_)
  refine lv_aload_n X.1 X.2.1 dX4_leaveTop_5 rfl (lv_at hl 0 rfl) ?_
  refine kp_get X h f_b2 fp_4_153.l (v := .int (kp_I T1 1200 b2)) rfl dX4_leaveTop_6 ?_
  refine lv_topi (fun y3 e_y3 => ?_)
  have hw := hw y3 e_y3
  by_cases c4 : y3 = 45
  · have hw := hw.1 c4
    refine lv_tableIn (off := 39) (tgt := 48) X.1 X.2.1 dX4_leaveTop_9 (by rw [c4]; decide) (by rw [c4]; decide) (by rw [c4]; decide) (by decide) ?_
    refine lv_aload_n X.1 X.2.1 dX4_leaveTop_48 rfl (lv_at hl 1 rfl) ?_
    refine lv_aload_n X.1 X.2.1 dX4_leaveTop_49 rfl (lv_at hl 0 rfl) ?_
    refine kp_callv X h (kp_runV (rm := { frames := 2, cells := 0, slots := 0, locals := 44 }) (mc := 0) (ms := 0) (rest := []) (Qc := fun A => kp_Qv D cy A T1 _) X h (c_X4_leaveHold l D cy ad T1 a0 b2 _ h.2.2.2 f_a0 f_b2 hw) f_a0 cv_4_312 ⟨by decide, by decide, rfl, rfl, by decide, by decide⟩ rfl hl.1 rfl (Nat.le_of_ble_eq_true rfl) dX4_leaveTop_50) (fun T5 hw l_T5 H locs h => ?_)
    have f_a0 := l_T5.is f_a0
    have f_b2 := l_T5.is f_b2
    have hle := hle.tr l_T5
    refine lv_goto (tgt := 85) X.1 X.2.1 dX4_leaveTop_53 (by decide) ?_
    exact j85  T5 _ _ ls (lv_sub hl [] rfl) h hle f_a0 hw
  have hw := hw.2 c4
  by_cases c6 : y3 = 46
  · have hw := hw.1 c6
    refine lv_tableIn (off := 47) (tgt := 56) X.1 X.2.1 dX4_leaveTop_9 (by rw [c6]; decide) (by rw [c6]; decide) (by rw [c6]; decide) (by decide) ?_
    refine lv_aload_n X.1 X.2.1 dX4_leaveTop_56 rfl (lv_at hl 1 rfl) ?_
    refine lv_aload_n X.1 X.2.1 dX4_leaveTop_57 rfl (lv_at hl 0 rfl) ?_
    refine kp_callv X h (kp_runV (rm := { frames := 3, cells := 0, slots := 0, locals := 67 }) (mc := 0) (ms := 0) (rest := []) (Qc := fun A => kp_Qv D cy A T1 _) X h (c_X4_leaveRound l D cy ad T1 a0 b2 _ h.2.2.2 f_a0 f_b2 hw) f_a0 cv_4_315 ⟨by decide, by decide, rfl, rfl, by decide, by decide⟩ rfl hl.1 rfl (Nat.le_of_ble_eq_true rfl) dX4_leaveTop_58) (fun T7 hw l_T7 H locs h => ?_)
    have f_a0 := l_T7.is f_a0
    have f_b2 := l_T7.is f_b2
    have hle := hle.tr l_T7
    refine lv_goto (tgt := 85) X.1 X.2.1 dX4_leaveTop_61 (by decide) ?_
    exact j85  T7 _ _ ls (lv_sub hl [] rfl) h hle f_a0 hw
  have hw := hw.2 c6
  by_cases c8 : y3 = 47
  · have hw := hw.1 c8
    refine lv_tableIn (off := 55) (tgt := 64) X.1 X.2.1 dX4_leaveTop_9 (by rw [c8]; decide) (by rw [c8]; decide) (by rw [c8]; decide) (by decide) ?_
    refine lv_aload_n X.1 X.2.1 dX4_leaveTop_64 rfl (lv_at hl 1 rfl) ?_
    refine lv_aload_n X.1 X.2.1 dX4_leaveTop_65 rfl (lv_at hl 0 rfl) ?_
    refine kp_callv X h (kp_runV (rm := { frames := 3, cells := 0, slots := 0, locals := 67 }) (mc := 0) (ms := 0) (rest := []) (Qc := fun A => kp_Qv D cy A T1 _) X h (c_X4_leaveTry l D cy ad T1 a0 b2 _ h.2.2.2 f_a0 f_b2 hw) f_a0 cv_4_318 ⟨by decide, by decide, rfl, rfl, by decide, by decide⟩ rfl hl.1 rfl (Nat.le_of_ble_eq_true rfl) dX4_leaveTop_66) (fun T9 hw l_T9 H locs h => ?_)
    have f_a0 := l_T9.is f_a0
    have f_b2 := l_T9.is f_b2
    have hle := hle.tr l_T9
    refine lv_goto (tgt := 85) X.1 X.2.1 dX4_leaveTop_69 (by decide) ?_
    exact j85  T9 _ _ ls (lv_sub hl [] rfl) h hle f_a0 hw
  have hw := hw.2 c8
  by_cases c10 : y3 = 48
  · have hw := hw.1 c10
    refine lv_tableIn (off := 71) (tgt := 80) X.1 X.2.1 dX4_leaveTop_9 (by rw [c10]; decide) (by rw [c10]; decide) (by rw [c10]; decide) (by decide) ?_
    exact j80 b2 T1 _ _ ls (lv_sub hl [1, 0] rfl) h hle f_a0 f_b2 hw
  have hw := hw.2 c10
  by_cases c11 : y3 = 49
  · have hw := hw.1 c11
    refine lv_tableIn (off := 71) (tgt := 80) X.1 X.2.1 dX4_leaveTop_9 (by rw [c11]; decide) (by rw [c11]; decide) (by rw [c11]; decide) (by decide) ?_
    exact j80 b2 T1 _ _ ls (lv_sub hl [1, 0] rfl) h hle f_a0 f_b2 hw
  have hw := hw.2 c11
  by_cases c12 : y3 = 50
  · have hw := hw.1 c12
    refine lv_tableIn (off := 63) (tgt := 72) X.1 X.2.1 dX4_leaveTop_9 (by rw [c12]; decide) (by rw [c12]; decide) (by rw [c12]; decide) (by decide) ?_
    refine lv_aload_n X.1 X.2.1 dX4_leaveTop_72 rfl (lv_at hl 1 rfl) ?_
    refine lv_aload_n X.1 X.2.1 dX4_leaveTop_73 rfl (lv_at hl 0 rfl) ?_
    refine kp_callv X h (kp_runV (rm := { frames := 2, cells := 0, slots := 0, locals := 45 }) (mc := 0) (ms := 0) (rest := []) (Qc := fun A => kp_Qv D cy A T1 _) X h (c_X4_leaveEnsure l D cy ad T1 a0 b2 _ h.2.2.2 f_a0 f_b2 hw) f_a0 cv_4_321 ⟨by decide, by decide, rfl, rfl, by decide, by decide⟩ rfl hl.1 rfl (Nat.le_of_ble_eq_true rfl) dX4_leaveTop_74) (fun T13 hw l_T13 H locs h => ?_)
    have f_a0 := l_T13.is f_a0
    have f_b2 := l_T13.is f_b2
    have hle := hle.tr l_T13
    refine lv_goto (tgt := 85) X.1 X.2.1 dX4_leaveTop_77 (by decide) ?_
    exact j85  T13 _ _ ls (lv_sub hl [] rfl) h hle f_a0 hw
  have hw := hw.2 c12
  have t_c4 := lv_neT (a := 45) c4 (by decide)
  have t_c6 := lv_neT (a := 46) c6 (by decide)
  have t_c8 := lv_neT (a := 47) c8 (by decide)
  have t_c10 := lv_neT (a := 48) c10 (by decide)
  have t_c11 := lv_neT (a := 49) c11 (by decide)
  have t_c12 := lv_neT (a := 50) c12 (by decide)
  refine lv_tableOut (tgt := 80) X.1 X.2.1 dX4_leaveTop_9 (by omega) (by decide) ?_
  exact j80 b2 T1 _ _ ls (lv_sub hl [1, 0] rfl) h hle f_a0 f_b2 hw
theorem dX4_step_0 : decode cX4_step 0 = .ok (.aload_n 0, 1) := by decide +kernel
theorem dX4_step_1 : decode cX4_step 1 = .ok (.invokevirtual 123, 3) := by decide +kernel
theorem dX4_step_4 : decode cX4_step 4 = .ok (.istore_n 1, 1) := by decide +kernel
theorem dX4_step_5 : decode cX4_step 5 = .ok (.iload_n 1, 1) := by decide +kernel
theorem dX4_step_6 : decode cX4_step 6 = .ok (.bipush 7, 2) := by decide +kernel
theorem dX4_step_8 : decode cX4_step 8 = .ok (.if_icmp .gt 11, 3) := by decide +kernel
theorem dX4_step_11 : decode cX4_step 11 = .ok (.aload_n 0, 1) := by decide +kernel
theorem dX4_step_12 : decode cX4_step 12 = .ok (.iload_n 1, 1) := by decide +kernel
theorem dX4_step_13 : decode cX4_step 13 = .ok (.invokevirtual 127, 3) := by decide +kernel
theorem dX4_step_16 : decode cX4_step 16 = .ok (.goto 64, 3) := by decide +kernel
theorem dX4_step_19 : decode cX4_step 19 = .ok (.iload_n 1, 1) := by decide +kernel
theorem dX4_step_20 : decode cX4_step 20 = .ok (.bipush 16, 2) := by decide +kernel
theorem dX4_step_22 : decode cX4_step 22 = .ok (.if_icmp .gt 11, 3) := by decide +kernel
theorem dX4_step_25 : decode cX4_step 25 = .ok (.aload_n 0, 1) := by decide +kernel
theorem dX4_step_26 : decode cX4_step 26 = .ok (.iload_n 1, 1) := by decide +kernel
theorem dX4_step_27 : decode cX4_step 27 = .ok (.invokevirtual 130, 3) := by decide +kernel
theorem dX4_step_30 : decode cX4_step 30 = .ok (.goto 50, 3) := by decide +kernel
theorem dX4_step_33 : decode cX4_step 33 = .ok (.iload_n 1, 1) := by decide +kernel
theorem dX4_step_34 : decode cX4_step 34 = .ok (.bipush 21, 2) := by decide +kernel
theorem dX4_step_36 : decode cX4_step 36 = .ok (.if_icmp .gt 11, 3) := by decide +kernel
theorem dX4_step_39 : decode cX4_step 39 = .ok (.aload_n 0, 1) := by decide +kernel
theorem dX4_step_40 : decode cX4_step 40 = .ok (.iload_n 1, 1) := by decide +kernel
theorem dX4_step_41 : decode cX4_step 41 = .ok (.invokevirtual 133, 3) := by decide +kernel
theorem dX4_step_44 : decode cX4_step 44 = .ok (.goto 36, 3) := by decide +kernel
theorem dX4_step_47 : decode cX4_step 47 = .ok (.iload_n 1, 1) := by decide +kernel
theorem dX4_step_48 : decode cX4_step 48 = .ok (.bipush 34, 2) := by decide +kernel
theorem dX4_step_50 : decode cX4_step 50 = .ok (.if_icmp .gt 11, 3) := by decide +kernel
theorem dX4_step_53 : decode cX4_step 53 = .ok (.aload_n 0, 1) := by decide +kernel
theorem dX4_step_54 : decode cX4_step 54 = .ok (.iload_n 1, 1) := by decide +kernel
theorem dX4_step_55 : decode cX4_step 55 = .ok (.invokevirtual 136, 3) := by decide +kernel
theorem dX4_step_58 : decode cX4_step 58 = .ok (.goto 22, 3) := by decide +kernel
theorem dX4_step_61 : decode cX4_step 61 = .ok (.iload_n 1, 1) := by decide +kernel
theorem dX4_step_62 : decode cX4_step 62 = .ok (.bipush 44, 2) := by decide +kernel
theorem dX4_step_64 : decode cX4_step 64 = .ok (.if_icmp .gt 11, 3) := by decide +kernel
theorem dX4_step_67 : decode cX4_step 67 = .ok (.aload_n 0, 1) := by decide +kernel
theorem dX4_step_68 : decode cX4_step 68 = .ok (.iload_n 1, 1) := by decide +kernel
theorem dX4_step_69 : decode cX4_step 69 = .ok (.invokevirtual 139, 3) := by decide +kernel
theorem dX4_step_72 : decode cX4_step 72 = .ok (.goto 8, 3) := by decide +kernel
theorem dX4_step_75 : decode cX4_step 75 = .ok (.aload_n 0, 1) := by decide +kernel
theorem dX4_step_76 : decode cX4_step 76 = .ok (.iload_n 1, 1) := by decide +kernel
theorem dX4_step_77 : decode cX4_step 77 = .ok (.invokevirtual 142, 3) := by decide +kernel
theorem dX4_step_80 : decode cX4_step 80 = .ok (.return_, 1) := by decide +kernel
def wX4_step_b80 (a0 : Nat)  (Sn : kp_S) (post : kp_S → Prop) : Prop :=
  post Sn
def wX4_step (a0 : Nat) (S : kp_S) (post : kp_S → Prop) : Prop :=
  wX4_take a0 S (fun y2 T1 =>
  ((7 < y2 →
  ((16 < y2 →
  ((21 < y2 →
  ((34 < y2 →
  ((44 < y2 →
  wX4_beginOrEnd a0 y2 T1 (fun T3 =>
  wX4_step_b80 a0   T3 post)) ∧ (¬ 44 < y2 →
  wX4_order a0 y2 T1 (fun T4 =>
  wX4_step_b80 a0   T4 post)))) ∧ (¬ 34 < y2 →
  wX4_flow a0 y2 T1 (fun T6 =>
  wX4_step_b80 a0   T6 post)))) ∧ (¬ 21 < y2 →
  wX4_workQuery a0 y2 T1 (fun T8 =>
  wX4_step_b80 a0   T8 post)))) ∧ (¬ 16 < y2 →
  wX4_workPair a0 y2 T1 (fun T10 =>
  wX4_step_b80 a0   T10 post)))) ∧ (¬ 7 < y2 →
  wX4_workSingle a0 y2 T1 (fun T12 =>
  wX4_step_b80 a0   T12 post))))
set_option maxHeartbeats 4000000 in
set_option maxRecDepth 100000 in
theorem c_X4_step (l : Launch) (D : va_G) (cy : Nat → ClassId) (ad : (Nat → Nat) × (Nat → Nat)) (S : kp_S) (a0 : Nat) (post : kp_S → Prop) (hS : kp_ok S) (f_a0 : kp_is S a0 4) (hw : wX4_step a0 S post) : kp_M l yX4_step cX4_step 2 none { frames := 5, cells := 0, slots := 0, locals := 116 } D cy ad S [.ref a0] 0 0 (fun A => kp_Qv D cy A S post) := by
  refine kp_start (own := RX4) (by decide) rfl (Nat.le_of_ble_eq_true rfl) hS ?_
  intro p e s m below meth c A ls X hr hlocks hname h hl
  have hle : kp_le S S := kp_le.rf
  have hl : lv_has ls 2 [(0, .ref a0)] := hl
  have j80 : ∀  (Sn : kp_S) (H : Heap) (locs : List Loc) (ls : Array Slot), lv_has ls 2 [] → kp_H D cy A Sn s.heap H locs → kp_le S Sn → kp_is Sn a0 4 → wX4_step_b80 a0   Sn post → W p l e { frames := 5, cells := 0, slots := 0, locals := 116 } s m ([.ref a0] : List Value).toArray below meth c H locs 0 0 (MQ below (kp_Qv D cy A S post) ([.ref a0] : List Value).toArray s 0 0 A) (F0 m 80 ls []) := by
    intro  Sn H locs ls hl h hle f_a0 hw
    unfold wX4_step_b80 at hw
    exact kp_retv X hr hlocks h hle hw dX4_step_80
  unfold wX4_step at hw
  have h : kp_H D cy A S s.heap s.heap [] := h
  revert h
  intro h
  refine lv_aload_n X.1 X.2.1 dX4_step_0 rfl (lv_at hl 0 rfl) ?_
  refine kp_calli X h (kp_runV (rm := { frames := 1, cells := 0, slots := 0, locals := 21 }) (mc := 0) (ms := 0) (rest := []) (Qc := fun A => kp_Qi D cy A S _) X h (c_X4_take l D cy ad S a0 _ h.2.2.2 f_a0 hw) f_a0 cv_4_123 ⟨by decide, by decide, rfl, rfl, by decide, by decide⟩ rfl hl.1 rfl (Nat.le_of_ble_eq_true rfl) dX4_step_1) (fun y2 T1 hw l_T1 H locs h => ?_)
  have f_a0 := l_T1.is f_a0
  have hle := hle.tr l_T1
  refine lv_istore_n (lv' := [(1, .int y2), (0, .ref a0)]) X.1 X.2.1 dX4_step_4 rfl hl (by decide) rfl (fun ls hl => ?_)
  refine lv_iload_n X.1 X.2.1 dX4_step_5 rfl (lv_at hl 0 rfl) ?_
  refine lv_bipush (v := 7) X.1 X.2.1 dX4_step_6 (by decide) ?_
  refine lv_icmp_gt (tgt := 19) X.1 X.2.1 dX4_step_8 (by decide) (fun c13 => ?_) (fun c13 => ?_)
  · have hw := hw.1 c13
    refine lv_iload_n X.1 X.2.1 dX4_step_19 rfl (lv_at hl 0 rfl) ?_
    refine lv_bipush (v := 16) X.1 X.2.1 dX4_step_20 (by decide) ?_
    refine lv_icmp_gt (tgt := 33) X.1 X.2.1 dX4_step_22 (by decide) (fun c11 => ?_) (fun c11 => ?_)
    · have hw := hw.1 c11
      refine lv_iload_n X.1 X.2.1 dX4_step_33 rfl (lv_at hl 0 rfl) ?_
      refine lv_bipush (v := 21) X.1 X.2.1 dX4_step_34 (by decide) ?_
      refine lv_icmp_gt (tgt := 47) X.1 X.2.1 dX4_step_36 (by decide) (fun c9 => ?_) (fun c9 => ?_)
      · have hw := hw.1 c9
        refine lv_iload_n X.1 X.2.1 dX4_step_47 rfl (lv_at hl 0 rfl) ?_
        refine lv_bipush (v := 34) X.1 X.2.1 dX4_step_48 (by decide) ?_
        refine lv_icmp_gt (tgt := 61) X.1 X.2.1 dX4_step_50 (by decide) (fun c7 => ?_) (fun c7 => ?_)
        · have hw := hw.1 c7
          refine lv_iload_n X.1 X.2.1 dX4_step_61 rfl (lv_at hl 0 rfl) ?_
          refine lv_bipush (v := 44) X.1 X.2.1 dX4_step_62 (by decide) ?_
          refine lv_icmp_gt (tgt := 75) X.1 X.2.1 dX4_step_64 (by decide) (fun c5 => ?_) (fun c5 => ?_)
          · have hw := hw.1 c5
            refine lv_aload_n X.1 X.2.1 dX4_step_75 rfl (lv_at hl 1 rfl) ?_
            refine lv_iload_n X.1 X.2.1 dX4_step_76 rfl (lv_at hl 0 rfl) ?_
            refine kp_callv X h (kp_runV (rm := { frames := 3, cells := 0, slots := 0, locals := 67 }) (mc := 0) (ms := 0) (rest := []) (Qc := fun A => kp_Qv D cy A T1 _) X h (c_X4_beginOrEnd l D cy ad T1 a0 y2 _ h.2.2.2 f_a0 hw) f_a0 cv_4_142 ⟨by decide, by decide, rfl, rfl, by decide, by decide⟩ rfl hl.1 rfl (Nat.le_of_ble_eq_true rfl) dX4_step_77) (fun T3 hw l_T3 H locs h => ?_)
            have f_a0 := l_T3.is f_a0
            have hle := hle.tr l_T3
            exact j80  T3 _ _ ls (lv_sub hl [] rfl) h hle f_a0 hw
          · have hw := hw.2 c5
            refine lv_aload_n X.1 X.2.1 dX4_step_67 rfl (lv_at hl 1 rfl) ?_
            refine lv_iload_n X.1 X.2.1 dX4_step_68 rfl (lv_at hl 0 rfl) ?_
            refine kp_callv X h (kp_runV (rm := { frames := 4, cells := 0, slots := 0, locals := 95 }) (mc := 0) (ms := 0) (rest := []) (Qc := fun A => kp_Qv D cy A T1 _) X h (c_X4_order l D cy ad T1 a0 y2 _ h.2.2.2 f_a0 hw) f_a0 cv_4_139 ⟨by decide, by decide, rfl, rfl, by decide, by decide⟩ rfl hl.1 rfl (Nat.le_of_ble_eq_true rfl) dX4_step_69) (fun T4 hw l_T4 H locs h => ?_)
            have f_a0 := l_T4.is f_a0
            have hle := hle.tr l_T4
            refine lv_goto (tgt := 80) X.1 X.2.1 dX4_step_72 (by decide) ?_
            exact j80  T4 _ _ ls (lv_sub hl [] rfl) h hle f_a0 hw
        · have hw := hw.2 c7
          refine lv_aload_n X.1 X.2.1 dX4_step_53 rfl (lv_at hl 1 rfl) ?_
          refine lv_iload_n X.1 X.2.1 dX4_step_54 rfl (lv_at hl 0 rfl) ?_
          refine kp_callv X h (kp_runV (rm := { frames := 2, cells := 0, slots := 0, locals := 45 }) (mc := 0) (ms := 0) (rest := []) (Qc := fun A => kp_Qv D cy A T1 _) X h (c_X4_flow l D cy ad T1 a0 y2 _ h.2.2.2 f_a0 hw) f_a0 cv_4_136 ⟨by decide, by decide, rfl, rfl, by decide, by decide⟩ rfl hl.1 rfl (Nat.le_of_ble_eq_true rfl) dX4_step_55) (fun T6 hw l_T6 H locs h => ?_)
          have f_a0 := l_T6.is f_a0
          have hle := hle.tr l_T6
          refine lv_goto (tgt := 80) X.1 X.2.1 dX4_step_58 (by decide) ?_
          exact j80  T6 _ _ ls (lv_sub hl [] rfl) h hle f_a0 hw
      · have hw := hw.2 c9
        refine lv_aload_n X.1 X.2.1 dX4_step_39 rfl (lv_at hl 1 rfl) ?_
        refine lv_iload_n X.1 X.2.1 dX4_step_40 rfl (lv_at hl 0 rfl) ?_
        refine kp_callv X h (kp_runV (rm := { frames := 2, cells := 0, slots := 0, locals := 44 }) (mc := 0) (ms := 0) (rest := []) (Qc := fun A => kp_Qv D cy A T1 _) X h (c_X4_workQuery l D cy ad T1 a0 y2 _ h.2.2.2 f_a0 hw) f_a0 cv_4_133 ⟨by decide, by decide, rfl, rfl, by decide, by decide⟩ rfl hl.1 rfl (Nat.le_of_ble_eq_true rfl) dX4_step_41) (fun T8 hw l_T8 H locs h => ?_)
        have f_a0 := l_T8.is f_a0
        have hle := hle.tr l_T8
        refine lv_goto (tgt := 80) X.1 X.2.1 dX4_step_44 (by decide) ?_
        exact j80  T8 _ _ ls (lv_sub hl [] rfl) h hle f_a0 hw
    · have hw := hw.2 c11
      refine lv_aload_n X.1 X.2.1 dX4_step_25 rfl (lv_at hl 1 rfl) ?_
      refine lv_iload_n X.1 X.2.1 dX4_step_26 rfl (lv_at hl 0 rfl) ?_
      refine kp_callv X h (kp_runV (rm := { frames := 3, cells := 0, slots := 0, locals := 67 }) (mc := 0) (ms := 0) (rest := []) (Qc := fun A => kp_Qv D cy A T1 _) X h (c_X4_workPair l D cy ad T1 a0 y2 _ h.2.2.2 f_a0 hw) f_a0 cv_4_130 ⟨by decide, by decide, rfl, rfl, by decide, by decide⟩ rfl hl.1 rfl (Nat.le_of_ble_eq_true rfl) dX4_step_27) (fun T10 hw l_T10 H locs h => ?_)
      have f_a0 := l_T10.is f_a0
      have hle := hle.tr l_T10
      refine lv_goto (tgt := 80) X.1 X.2.1 dX4_step_30 (by decide) ?_
      exact j80  T10 _ _ ls (lv_sub hl [] rfl) h hle f_a0 hw
  · have hw := hw.2 c13
    refine lv_aload_n X.1 X.2.1 dX4_step_11 rfl (lv_at hl 1 rfl) ?_
    refine lv_iload_n X.1 X.2.1 dX4_step_12 rfl (lv_at hl 0 rfl) ?_
    refine kp_callv X h (kp_runV (rm := { frames := 2, cells := 0, slots := 0, locals := 42 }) (mc := 0) (ms := 0) (rest := []) (Qc := fun A => kp_Qv D cy A T1 _) X h (c_X4_workSingle l D cy ad T1 a0 y2 _ h.2.2.2 f_a0 hw) f_a0 cv_4_127 ⟨by decide, by decide, rfl, rfl, by decide, by decide⟩ rfl hl.1 rfl (Nat.le_of_ble_eq_true rfl) dX4_step_13) (fun T12 hw l_T12 H locs h => ?_)
    have f_a0 := l_T12.is f_a0
    have hle := hle.tr l_T12
    refine lv_goto (tgt := 80) X.1 X.2.1 dX4_step_16 (by decide) ?_
    exact j80  T12 _ _ ls (lv_sub hl [] rfl) h hle f_a0 hw
theorem dX4_tellEnd_0 : decode cX4_tellEnd 0 = .ok (.aload_n 0, 1) := by decide +kernel
theorem dX4_tellEnd_1 : decode cX4_tellEnd 1 = .ok (.getfield 38, 3) := by decide +kernel
theorem dX4_tellEnd_4 : decode cX4_tellEnd 4 = .ok (.iconst 0, 1) := by decide +kernel
theorem dX4_tellEnd_5 : decode cX4_tellEnd 5 = .ok (.aload_n 0, 1) := by decide +kernel
theorem dX4_tellEnd_6 : decode cX4_tellEnd 6 = .ok (.getfield 72, 3) := by decide +kernel
theorem dX4_tellEnd_9 : decode cX4_tellEnd 9 = .ok (.invokevirtual 105, 3) := by decide +kernel
theorem dX4_tellEnd_12 : decode cX4_tellEnd 12 = .ok (.aload_n 0, 1) := by decide +kernel
theorem dX4_tellEnd_13 : decode cX4_tellEnd 13 = .ok (.getfield 38, 3) := by decide +kernel
theorem dX4_tellEnd_16 : decode cX4_tellEnd 16 = .ok (.iconst 5, 1) := by decide +kernel
theorem dX4_tellEnd_17 : decode cX4_tellEnd 17 = .ok (.aload_n 0, 1) := by decide +kernel
theorem dX4_tellEnd_18 : decode cX4_tellEnd 18 = .ok (.getfield 69, 3) := by decide +kernel
theorem dX4_tellEnd_21 : decode cX4_tellEnd 21 = .ok (.invokevirtual 105, 3) := by decide +kernel
theorem dX4_tellEnd_24 : decode cX4_tellEnd 24 = .ok (.aload_n 0, 1) := by decide +kernel
theorem dX4_tellEnd_25 : decode cX4_tellEnd 25 = .ok (.getfield 38, 3) := by decide +kernel
theorem dX4_tellEnd_28 : decode cX4_tellEnd 28 = .ok (.bipush 17, 2) := by decide +kernel
theorem dX4_tellEnd_30 : decode cX4_tellEnd 30 = .ok (.aload_n 0, 1) := by decide +kernel
theorem dX4_tellEnd_31 : decode cX4_tellEnd 31 = .ok (.getfield 38, 3) := by decide +kernel
theorem dX4_tellEnd_34 : decode cX4_tellEnd 34 = .ok (.bipush 17, 2) := by decide +kernel
theorem dX4_tellEnd_36 : decode cX4_tellEnd 36 = .ok (.invokevirtual 108, 3) := by decide +kernel
theorem dX4_tellEnd_39 : decode cX4_tellEnd 39 = .ok (.iload_n 1, 1) := by decide +kernel
theorem dX4_tellEnd_40 : decode cX4_tellEnd 40 = .ok (.iadd, 1) := by decide +kernel
theorem dX4_tellEnd_41 : decode cX4_tellEnd 41 = .ok (.aload_n 0, 1) := by decide +kernel
theorem dX4_tellEnd_42 : decode cX4_tellEnd 42 = .ok (.getfield 69, 3) := by decide +kernel
theorem dX4_tellEnd_45 : decode cX4_tellEnd 45 = .ok (.isub, 1) := by decide +kernel
theorem dX4_tellEnd_46 : decode cX4_tellEnd 46 = .ok (.invokevirtual 105, 3) := by decide +kernel
theorem dX4_tellEnd_49 : decode cX4_tellEnd 49 = .ok (.aload_n 0, 1) := by decide +kernel
theorem dX4_tellEnd_50 : decode cX4_tellEnd 50 = .ok (.getfield 72, 3) := by decide +kernel
theorem dX4_tellEnd_53 : decode cX4_tellEnd 53 = .ok (.ifCond .ne 52, 3) := by decide +kernel
theorem dX4_tellEnd_56 : decode cX4_tellEnd 56 = .ok (.aload_n 0, 1) := by decide +kernel
theorem dX4_tellEnd_57 : decode cX4_tellEnd 57 = .ok (.getfield 38, 3) := by decide +kernel
theorem dX4_tellEnd_60 : decode cX4_tellEnd 60 = .ok (.iconst 1, 1) := by decide +kernel
theorem dX4_tellEnd_61 : decode cX4_tellEnd 61 = .ok (.aload_n 0, 1) := by decide +kernel
theorem dX4_tellEnd_62 : decode cX4_tellEnd 62 = .ok (.getfield 30, 3) := by decide +kernel
theorem dX4_tellEnd_65 : decode cX4_tellEnd 65 = .ok (.getfield 93, 3) := by decide +kernel
theorem dX4_tellEnd_68 : decode cX4_tellEnd 68 = .ok (.iconst 2, 1) := by decide +kernel
theorem dX4_tellEnd_69 : decode cX4_tellEnd 69 = .ok (.if_icmp .ne 13, 3) := by decide +kernel
theorem dX4_tellEnd_72 : decode cX4_tellEnd 72 = .ok (.aload_n 0, 1) := by decide +kernel
theorem dX4_tellEnd_73 : decode cX4_tellEnd 73 = .ok (.getfield 30, 3) := by decide +kernel
theorem dX4_tellEnd_76 : decode cX4_tellEnd 76 = .ok (.getfield 111, 3) := by decide +kernel
theorem dX4_tellEnd_79 : decode cX4_tellEnd 79 = .ok (.goto 4, 3) := by decide +kernel
theorem dX4_tellEnd_82 : decode cX4_tellEnd 82 = .ok (.iconst 0, 1) := by decide +kernel
theorem dX4_tellEnd_83 : decode cX4_tellEnd 83 = .ok (.invokevirtual 105, 3) := by decide +kernel
theorem dX4_tellEnd_86 : decode cX4_tellEnd 86 = .ok (.aload_n 0, 1) := by decide +kernel
theorem dX4_tellEnd_87 : decode cX4_tellEnd 87 = .ok (.getfield 38, 3) := by decide +kernel
theorem dX4_tellEnd_90 : decode cX4_tellEnd 90 = .ok (.bipush 18, 2) := by decide +kernel
theorem dX4_tellEnd_92 : decode cX4_tellEnd 92 = .ok (.aload_n 0, 1) := by decide +kernel
theorem dX4_tellEnd_93 : decode cX4_tellEnd 93 = .ok (.getfield 30, 3) := by decide +kernel
theorem dX4_tellEnd_96 : decode cX4_tellEnd 96 = .ok (.getfield 93, 3) := by decide +kernel
theorem dX4_tellEnd_99 : decode cX4_tellEnd 99 = .ok (.invokevirtual 105, 3) := by decide +kernel
theorem dX4_tellEnd_102 : decode cX4_tellEnd 102 = .ok (.goto 82, 3) := by decide +kernel
theorem dX4_tellEnd_105 : decode cX4_tellEnd 105 = .ok (.aload_n 0, 1) := by decide +kernel
theorem dX4_tellEnd_106 : decode cX4_tellEnd 106 = .ok (.getfield 72, 3) := by decide +kernel
theorem dX4_tellEnd_109 : decode cX4_tellEnd 109 = .ok (.iconst 3, 1) := by decide +kernel
theorem dX4_tellEnd_110 : decode cX4_tellEnd 110 = .ok (.if_icmp .ne 67, 3) := by decide +kernel
theorem dX4_tellEnd_113 : decode cX4_tellEnd 113 = .ok (.aload_n 0, 1) := by decide +kernel
theorem dX4_tellEnd_114 : decode cX4_tellEnd 114 = .ok (.getfield 38, 3) := by decide +kernel
theorem dX4_tellEnd_117 : decode cX4_tellEnd 117 = .ok (.iconst 2, 1) := by decide +kernel
theorem dX4_tellEnd_118 : decode cX4_tellEnd 118 = .ok (.aload_n 0, 1) := by decide +kernel
theorem dX4_tellEnd_119 : decode cX4_tellEnd 119 = .ok (.getfield 30, 3) := by decide +kernel
theorem dX4_tellEnd_122 : decode cX4_tellEnd 122 = .ok (.getfield 111, 3) := by decide +kernel
theorem dX4_tellEnd_125 : decode cX4_tellEnd 125 = .ok (.invokevirtual 105, 3) := by decide +kernel
theorem dX4_tellEnd_128 : decode cX4_tellEnd 128 = .ok (.aload_n 0, 1) := by decide +kernel
theorem dX4_tellEnd_129 : decode cX4_tellEnd 129 = .ok (.getfield 38, 3) := by decide +kernel
theorem dX4_tellEnd_132 : decode cX4_tellEnd 132 = .ok (.iconst 3, 1) := by decide +kernel
theorem dX4_tellEnd_133 : decode cX4_tellEnd 133 = .ok (.aload_n 0, 1) := by decide +kernel
theorem dX4_tellEnd_134 : decode cX4_tellEnd 134 = .ok (.getfield 30, 3) := by decide +kernel
theorem dX4_tellEnd_137 : decode cX4_tellEnd 137 = .ok (.getfield 114, 3) := by decide +kernel
theorem dX4_tellEnd_140 : decode cX4_tellEnd 140 = .ok (.invokevirtual 105, 3) := by decide +kernel
theorem dX4_tellEnd_143 : decode cX4_tellEnd 143 = .ok (.aload_n 0, 1) := by decide +kernel
theorem dX4_tellEnd_144 : decode cX4_tellEnd 144 = .ok (.getfield 38, 3) := by decide +kernel
theorem dX4_tellEnd_147 : decode cX4_tellEnd 147 = .ok (.iconst 4, 1) := by decide +kernel
theorem dX4_tellEnd_148 : decode cX4_tellEnd 148 = .ok (.aload_n 0, 1) := by decide +kernel
theorem dX4_tellEnd_149 : decode cX4_tellEnd 149 = .ok (.getfield 30, 3) := by decide +kernel
theorem dX4_tellEnd_152 : decode cX4_tellEnd 152 = .ok (.getfield 117, 3) := by decide +kernel
theorem dX4_tellEnd_155 : decode cX4_tellEnd 155 = .ok (.invokevirtual 105, 3) := by decide +kernel
theorem dX4_tellEnd_158 : decode cX4_tellEnd 158 = .ok (.aload_n 0, 1) := by decide +kernel
theorem dX4_tellEnd_159 : decode cX4_tellEnd 159 = .ok (.getfield 38, 3) := by decide +kernel
theorem dX4_tellEnd_162 : decode cX4_tellEnd 162 = .ok (.bipush 18, 2) := by decide +kernel
theorem dX4_tellEnd_164 : decode cX4_tellEnd 164 = .ok (.aload_n 0, 1) := by decide +kernel
theorem dX4_tellEnd_165 : decode cX4_tellEnd 165 = .ok (.getfield 30, 3) := by decide +kernel
theorem dX4_tellEnd_168 : decode cX4_tellEnd 168 = .ok (.getfield 93, 3) := by decide +kernel
theorem dX4_tellEnd_171 : decode cX4_tellEnd 171 = .ok (.invokevirtual 105, 3) := by decide +kernel
theorem dX4_tellEnd_174 : decode cX4_tellEnd 174 = .ok (.goto 10, 3) := by decide +kernel
theorem dX4_tellEnd_177 : decode cX4_tellEnd 177 = .ok (.aload_n 0, 1) := by decide +kernel
theorem dX4_tellEnd_178 : decode cX4_tellEnd 178 = .ok (.getfield 34, 3) := by decide +kernel
theorem dX4_tellEnd_181 : decode cX4_tellEnd 181 = .ok (.invokevirtual 118, 3) := by decide +kernel
theorem dX4_tellEnd_184 : decode cX4_tellEnd 184 = .ok (.return_, 1) := by decide +kernel
def wX4_tellEnd_b184 (a0 : Nat) (x1 : Int32)  (Sn : kp_S) (post : kp_S → Prop) : Prop :=
  post Sn
def wX4_tellEnd_b83 (a0 : Nat) (x1 : Int32) (xt0 : Int32) (xt1 : Int32) (at2 : Nat)  (Sn : kp_S) (post : kp_S → Prop) : Prop :=
  wX7_set at2 xt1 xt0 Sn (fun T2001 =>
  ∃ b2002 : Nat, kp_R T2001 801 a0 = some b2002 ∧
  ∃ b2003 : Nat, kp_R T2001 808 a0 = some b2003 ∧
  wX7_set b2002 18 (kp_I T2001 2000 b2003) T2001 (fun T2004 =>
  wX4_tellEnd_b184 a0 x1   T2004 post))
def wX4_tellEnd (a0 : Nat) (x1 : Int32) (S : kp_S) (post : kp_S → Prop) : Prop :=
  ∃ b1 : Nat, kp_R S 801 a0 = some b1 ∧
  wX7_set b1 0 (kp_I S 814 a0) S (fun T2 =>
  ∃ b3 : Nat, kp_R T2 801 a0 = some b3 ∧
  wX7_set b3 5 (kp_I T2 813 a0) T2 (fun T4 =>
  ∃ b5 : Nat, kp_R T4 801 a0 = some b5 ∧
  wX7_get b5 17 T4 (fun y7 T6 =>
  wX7_set b5 17 ((y7 + x1) - (kp_I T6 813 a0)) T6 (fun T8 =>
  ((¬ (kp_I T8 814 a0) = 0 →
  ((¬ (kp_I T8 814 a0) = 3 →
  ∃ b9 : Nat, kp_R T8 800 a0 = some b9 ∧
  wX1_dropHolds b9 T8 (fun T10 =>
  wX4_tellEnd_b184 a0 x1   T10 post)) ∧ ((kp_I T8 814 a0) = 3 →
  ∃ b11 : Nat, kp_R T8 801 a0 = some b11 ∧
  ∃ b12 : Nat, kp_R T8 808 a0 = some b12 ∧
  wX7_set b11 2 (kp_I T8 2001 b12) T8 (fun T13 =>
  ∃ b14 : Nat, kp_R T13 801 a0 = some b14 ∧
  ∃ b15 : Nat, kp_R T13 808 a0 = some b15 ∧
  wX7_set b14 3 (kp_I T13 2002 b15) T13 (fun T16 =>
  ∃ b17 : Nat, kp_R T16 801 a0 = some b17 ∧
  ∃ b18 : Nat, kp_R T16 808 a0 = some b18 ∧
  wX7_set b17 4 (kp_I T16 2003 b18) T16 (fun T19 =>
  ∃ b20 : Nat, kp_R T19 801 a0 = some b20 ∧
  ∃ b21 : Nat, kp_R T19 808 a0 = some b21 ∧
  wX7_set b20 18 (kp_I T19 2000 b21) T19 (fun T22 =>
  wX4_tellEnd_b184 a0 x1   T22 post))))))) ∧ ((kp_I T8 814 a0) = 0 →
  ∃ b24 : Nat, kp_R T8 801 a0 = some b24 ∧
  ∃ b25 : Nat, kp_R T8 808 a0 = some b25 ∧
  ((¬ (kp_I T8 2000 b25) = 2 →
  wX4_tellEnd_b83 a0 x1 0 1 b24  T8 post) ∧ ((kp_I T8 2000 b25) = 2 →
  wX4_tellEnd_b83 a0 x1 (kp_I T8 2001 b25) 1 b24  T8 post))))))))
set_option maxHeartbeats 4000000 in
set_option maxRecDepth 100000 in
theorem c_X4_tellEnd (l : Launch) (D : va_G) (cy : Nat → ClassId) (ad : (Nat → Nat) × (Nat → Nat)) (S : kp_S) (a0 : Nat) (x1 : Int32) (post : kp_S → Prop) (hS : kp_ok S) (f_a0 : kp_is S a0 4) (hw : wX4_tellEnd a0 x1 S post) : kp_M l yX4_tellEnd cX4_tellEnd 2 none { frames := 1, cells := 0, slots := 0, locals := 22 } D cy ad S [.ref a0, .int x1] 0 0 (fun A => kp_Qv D cy A S post) := by
  refine kp_start (own := RX4) (by decide) rfl (Nat.le_of_ble_eq_true rfl) hS ?_
  intro p e s m below meth c A ls X hr hlocks hname h hl
  have hle : kp_le S S := kp_le.rf
  have hl : lv_has ls 2 [(0, .ref a0), (1, .int x1)] := hl
  have j184 : ∀  (Sn : kp_S) (H : Heap) (locs : List Loc) (ls : Array Slot), lv_has ls 2 [] → kp_H D cy A Sn s.heap H locs → kp_le S Sn → kp_is Sn a0 4 → wX4_tellEnd_b184 a0 x1   Sn post → W p l e { frames := 1, cells := 0, slots := 0, locals := 22 } s m ([.ref a0, .int x1] : List Value).toArray below meth c H locs 0 0 (MQ below (kp_Qv D cy A S post) ([.ref a0, .int x1] : List Value).toArray s 0 0 A) (F0 m 184 ls []) := by
    intro  Sn H locs ls hl h hle f_a0 hw
    unfold wX4_tellEnd_b184 at hw
    exact kp_retv X hr hlocks h hle hw dX4_tellEnd_184
  have j83 : ∀ (xt0 : Int32) (xt1 : Int32) (at2 : Nat) (Sn : kp_S) (H : Heap) (locs : List Loc) (ls : Array Slot), lv_has ls 2 [(0, .ref a0)] → kp_H D cy A Sn s.heap H locs → kp_le S Sn → kp_is Sn a0 4 → kp_is Sn at2 7 → wX4_tellEnd_b83 a0 x1 xt0 xt1 at2  Sn post → W p l e { frames := 1, cells := 0, slots := 0, locals := 22 } s m ([.ref a0, .int x1] : List Value).toArray below meth c H locs 0 0 (MQ below (kp_Qv D cy A S post) ([.ref a0, .int x1] : List Value).toArray s 0 0 A) (F0 m 83 ls [.int xt0, .int xt1, .ref at2]) := by
    intro xt0 xt1 at2 Sn H locs ls hl h hle f_a0 f_at2 hw
    unfold wX4_tellEnd_b83 at hw
    refine kp_callv X h (kp_runV (rm := { frames := 0, cells := 0, slots := 0, locals := 0 }) (mc := 0) (ms := 0) (rest := []) (Qc := fun A => kp_Qv D cy A Sn _) X h (c_X7_set l D cy ad Sn at2 xt1 xt0 _ h.2.2.2 f_at2 hw) f_at2 cv_4_105 ⟨by decide, by decide, rfl, rfl, by decide, by decide⟩ rfl hl.1 rfl (Nat.le_of_ble_eq_true rfl) dX4_tellEnd_83) (fun T2001 hw l_T2001 H locs h => ?_)
    have f_a0 := l_T2001.is f_a0
    have f_at2 := l_T2001.is f_at2
    have hle := hle.tr l_T2001
    refine lv_aload_n X.1 X.2.1 dX4_tellEnd_86 rfl (lv_at hl 0 rfl) ?_
    obtain ⟨b2002, e_b2002, hw⟩ := hw
    have f_b2002 := h.2.2.2.rf (c := 4) (k := 1) f_a0 (by decide) (by decide) e_b2002 (t := 7) rfl
    refine kp_get X h f_a0 ff_4_38.l (v := .ref b2002) (congrArg va_rf e_b2002) dX4_tellEnd_87 ?_
    refine lv_bipush (v := 18) X.1 X.2.1 dX4_tellEnd_90 (by decide) ?_
    refine lv_aload_n X.1 X.2.1 dX4_tellEnd_92 rfl (lv_at hl 0 rfl) ?_
    obtain ⟨b2003, e_b2003, hw⟩ := hw
    have f_b2003 := h.2.2.2.rf (c := 4) (k := 8) f_a0 (by decide) (by decide) e_b2003 (t := 10) rfl
    refine kp_get X h f_a0 ff_4_30.l (v := .ref b2003) (congrArg va_rf e_b2003) dX4_tellEnd_93 ?_
    refine kp_get X h f_b2003 fp_4_93.l (v := .int (kp_I T2001 2000 b2003)) rfl dX4_tellEnd_96 ?_
    refine kp_callv X h (kp_runV (rm := { frames := 0, cells := 0, slots := 0, locals := 0 }) (mc := 0) (ms := 0) (rest := []) (Qc := fun A => kp_Qv D cy A T2001 _) X h (c_X7_set l D cy ad T2001 b2002 18 (kp_I T2001 2000 b2003) _ h.2.2.2 f_b2002 hw) f_b2002 cv_4_105 ⟨by decide, by decide, rfl, rfl, by decide, by decide⟩ rfl hl.1 rfl (Nat.le_of_ble_eq_true rfl) dX4_tellEnd_99) (fun T2004 hw l_T2004 H locs h => ?_)
    have f_a0 := l_T2004.is f_a0
    have f_at2 := l_T2004.is f_at2
    have f_b2002 := l_T2004.is f_b2002
    have f_b2003 := l_T2004.is f_b2003
    have hle := hle.tr l_T2004
    refine lv_goto (tgt := 184) X.1 X.2.1 dX4_tellEnd_102 (by decide) ?_
    exact j184  T2004 H locs ls (lv_sub hl [] rfl) h hle f_a0 hw
  unfold wX4_tellEnd at hw
  have h : kp_H D cy A S s.heap s.heap [] := h
  revert h
  intro h
  refine lv_aload_n X.1 X.2.1 dX4_tellEnd_0 rfl (lv_at hl 0 rfl) ?_
  obtain ⟨b1, e_b1, hw⟩ := hw
  have f_b1 := h.2.2.2.rf (c := 4) (k := 1) f_a0 (by decide) (by decide) e_b1 (t := 7) rfl
  refine kp_get X h f_a0 ff_4_38.l (v := .ref b1) (congrArg va_rf e_b1) dX4_tellEnd_1 ?_
  refine lv_iconst (v := 0) X.1 X.2.1 dX4_tellEnd_4 (by decide) ?_
  refine lv_aload_n X.1 X.2.1 dX4_tellEnd_5 rfl (lv_at hl 0 rfl) ?_
  refine kp_get X h f_a0 fp_4_72.l (v := .int (kp_I S 814 a0)) rfl dX4_tellEnd_6 ?_
  refine kp_callv X h (kp_runV (rm := { frames := 0, cells := 0, slots := 0, locals := 0 }) (mc := 0) (ms := 0) (rest := []) (Qc := fun A => kp_Qv D cy A S _) X h (c_X7_set l D cy ad S b1 0 (kp_I S 814 a0) _ h.2.2.2 f_b1 hw) f_b1 cv_4_105 ⟨by decide, by decide, rfl, rfl, by decide, by decide⟩ rfl hl.1 rfl (Nat.le_of_ble_eq_true rfl) dX4_tellEnd_9) (fun T2 hw l_T2 H locs h => ?_)
  have f_a0 := l_T2.is f_a0
  have f_b1 := l_T2.is f_b1
  have hle := hle.tr l_T2
  refine lv_aload_n X.1 X.2.1 dX4_tellEnd_12 rfl (lv_at hl 0 rfl) ?_
  obtain ⟨b3, e_b3, hw⟩ := hw
  have f_b3 := h.2.2.2.rf (c := 4) (k := 1) f_a0 (by decide) (by decide) e_b3 (t := 7) rfl
  refine kp_get X h f_a0 ff_4_38.l (v := .ref b3) (congrArg va_rf e_b3) dX4_tellEnd_13 ?_
  refine lv_iconst (v := 5) X.1 X.2.1 dX4_tellEnd_16 (by decide) ?_
  refine lv_aload_n X.1 X.2.1 dX4_tellEnd_17 rfl (lv_at hl 0 rfl) ?_
  refine kp_get X h f_a0 fp_4_69.l (v := .int (kp_I T2 813 a0)) rfl dX4_tellEnd_18 ?_
  refine kp_callv X h (kp_runV (rm := { frames := 0, cells := 0, slots := 0, locals := 0 }) (mc := 0) (ms := 0) (rest := []) (Qc := fun A => kp_Qv D cy A T2 _) X h (c_X7_set l D cy ad T2 b3 5 (kp_I T2 813 a0) _ h.2.2.2 f_b3 hw) f_b3 cv_4_105 ⟨by decide, by decide, rfl, rfl, by decide, by decide⟩ rfl hl.1 rfl (Nat.le_of_ble_eq_true rfl) dX4_tellEnd_21) (fun T4 hw l_T4 H locs h => ?_)
  have f_a0 := l_T4.is f_a0
  have f_b1 := l_T4.is f_b1
  have f_b3 := l_T4.is f_b3
  have hle := hle.tr l_T4
  refine lv_aload_n X.1 X.2.1 dX4_tellEnd_24 rfl (lv_at hl 0 rfl) ?_
  obtain ⟨b5, e_b5, hw⟩ := hw
  have f_b5 := h.2.2.2.rf (c := 4) (k := 1) f_a0 (by decide) (by decide) e_b5 (t := 7) rfl
  refine kp_get X h f_a0 ff_4_38.l (v := .ref b5) (congrArg va_rf e_b5) dX4_tellEnd_25 ?_
  refine lv_bipush (v := 17) X.1 X.2.1 dX4_tellEnd_28 (by decide) ?_
  refine lv_aload_n X.1 X.2.1 dX4_tellEnd_30 rfl (lv_at hl 0 rfl) ?_
  refine kp_get X h f_a0 ff_4_38.l (v := .ref b5) (congrArg va_rf e_b5) dX4_tellEnd_31 ?_
  refine lv_bipush (v := 17) X.1 X.2.1 dX4_tellEnd_34 (by decide) ?_
  refine kp_calli X h (kp_runV (rm := { frames := 0, cells := 0, slots := 0, locals := 0 }) (mc := 0) (ms := 0) (rest := [.int 17, .ref b5]) (Qc := fun A => kp_Qi D cy A T4 _) X h (c_X7_get l D cy ad T4 b5 17 _ h.2.2.2 f_b5 hw) f_b5 cv_4_108 ⟨by decide, by decide, rfl, rfl, by decide, by decide⟩ rfl hl.1 rfl (Nat.le_of_ble_eq_true rfl) dX4_tellEnd_36) (fun y7 T6 hw l_T6 H locs h => ?_)
  have f_a0 := l_T6.is f_a0
  have f_b1 := l_T6.is f_b1
  have f_b3 := l_T6.is f_b3
  have f_b5 := l_T6.is f_b5
  have hle := hle.tr l_T6
  refine lv_iload_n X.1 X.2.1 dX4_tellEnd_39 rfl (lv_at hl 1 rfl) ?_
  refine lv_iadd X.1 X.2.1 dX4_tellEnd_40 ?_
  refine lv_aload_n X.1 X.2.1 dX4_tellEnd_41 rfl (lv_at hl 0 rfl) ?_
  refine kp_get X h f_a0 fp_4_69.l (v := .int (kp_I T6 813 a0)) rfl dX4_tellEnd_42 ?_
  refine lv_isub X.1 X.2.1 dX4_tellEnd_45 ?_
  refine kp_callv X h (kp_runV (rm := { frames := 0, cells := 0, slots := 0, locals := 0 }) (mc := 0) (ms := 0) (rest := []) (Qc := fun A => kp_Qv D cy A T6 _) X h (c_X7_set l D cy ad T6 b5 17 ((y7 + x1) - (kp_I T6 813 a0)) _ h.2.2.2 f_b5 hw) f_b5 cv_4_105 ⟨by decide, by decide, rfl, rfl, by decide, by decide⟩ rfl hl.1 rfl (Nat.le_of_ble_eq_true rfl) dX4_tellEnd_46) (fun T8 hw l_T8 H locs h => ?_)
  have f_a0 := l_T8.is f_a0
  have f_b1 := l_T8.is f_b1
  have f_b3 := l_T8.is f_b3
  have f_b5 := l_T8.is f_b5
  have hle := hle.tr l_T8
  refine lv_aload_n X.1 X.2.1 dX4_tellEnd_49 rfl (lv_at hl 0 rfl) ?_
  refine kp_get X h f_a0 fp_4_72.l (v := .int (kp_I T8 814 a0)) rfl dX4_tellEnd_50 ?_
  refine lv_if_ne (tgt := 105) X.1 X.2.1 dX4_tellEnd_53 (by decide) (fun c27 => ?_) (fun c27 => ?_)
  · have hw := hw.1 c27
    refine lv_aload_n X.1 X.2.1 dX4_tellEnd_105 rfl (lv_at hl 0 rfl) ?_
    refine kp_get X h f_a0 fp_4_72.l (v := .int (kp_I T8 814 a0)) rfl dX4_tellEnd_106 ?_
    refine lv_iconst (v := 3) X.1 X.2.1 dX4_tellEnd_109 (by decide) ?_
    refine lv_icmp_ne (tgt := 177) X.1 X.2.1 dX4_tellEnd_110 (by decide) (fun c23 => ?_) (fun c23 => ?_)
    · have hw := hw.1 c23
      refine lv_aload_n X.1 X.2.1 dX4_tellEnd_177 rfl (lv_at hl 0 rfl) ?_
      obtain ⟨b9, e_b9, hw⟩ := hw
      have f_b9 := h.2.2.2.rf (c := 4) (k := 0) f_a0 (by decide) (by decide) e_b9 (t := 1) rfl
      refine kp_get X h f_a0 ff_4_34.l (v := .ref b9) (congrArg va_rf e_b9) dX4_tellEnd_178 ?_
      refine kp_callv X h (kp_runV (rm := { frames := 0, cells := 0, slots := 0, locals := 0 }) (mc := 0) (ms := 0) (rest := []) (Qc := fun A => kp_Qv D cy A T8 _) X h (c_X1_dropHolds l D cy ad T8 b9 _ h.2.2.2 f_b9 hw) f_b9 cv_4_118 ⟨by decide, by decide, rfl, rfl, by decide, by decide⟩ rfl hl.1 rfl (Nat.le_of_ble_eq_true rfl) dX4_tellEnd_181) (fun T10 hw l_T10 H locs h => ?_)
      have f_a0 := l_T10.is f_a0
      have f_b1 := l_T10.is f_b1
      have f_b3 := l_T10.is f_b3
      have f_b5 := l_T10.is f_b5
      have f_b9 := l_T10.is f_b9
      have hle := hle.tr l_T10
      exact j184  T10 _ _ ls (lv_sub hl [] rfl) h hle f_a0 hw
    · have hw := hw.2 c23
      refine lv_aload_n X.1 X.2.1 dX4_tellEnd_113 rfl (lv_at hl 0 rfl) ?_
      obtain ⟨b11, e_b11, hw⟩ := hw
      have f_b11 := h.2.2.2.rf (c := 4) (k := 1) f_a0 (by decide) (by decide) e_b11 (t := 7) rfl
      refine kp_get X h f_a0 ff_4_38.l (v := .ref b11) (congrArg va_rf e_b11) dX4_tellEnd_114 ?_
      refine lv_iconst (v := 2) X.1 X.2.1 dX4_tellEnd_117 (by decide) ?_
      refine lv_aload_n X.1 X.2.1 dX4_tellEnd_118 rfl (lv_at hl 0 rfl) ?_
      obtain ⟨b12, e_b12, hw⟩ := hw
      have f_b12 := h.2.2.2.rf (c := 4) (k := 8) f_a0 (by decide) (by decide) e_b12 (t := 10) rfl
      refine kp_get X h f_a0 ff_4_30.l (v := .ref b12) (congrArg va_rf e_b12) dX4_tellEnd_119 ?_
      refine kp_get X h f_b12 fp_4_111.l (v := .int (kp_I T8 2001 b12)) rfl dX4_tellEnd_122 ?_
      refine kp_callv X h (kp_runV (rm := { frames := 0, cells := 0, slots := 0, locals := 0 }) (mc := 0) (ms := 0) (rest := []) (Qc := fun A => kp_Qv D cy A T8 _) X h (c_X7_set l D cy ad T8 b11 2 (kp_I T8 2001 b12) _ h.2.2.2 f_b11 hw) f_b11 cv_4_105 ⟨by decide, by decide, rfl, rfl, by decide, by decide⟩ rfl hl.1 rfl (Nat.le_of_ble_eq_true rfl) dX4_tellEnd_125) (fun T13 hw l_T13 H locs h => ?_)
      have f_a0 := l_T13.is f_a0
      have f_b1 := l_T13.is f_b1
      have f_b3 := l_T13.is f_b3
      have f_b5 := l_T13.is f_b5
      have f_b11 := l_T13.is f_b11
      have f_b12 := l_T13.is f_b12
      have hle := hle.tr l_T13
      refine lv_aload_n X.1 X.2.1 dX4_tellEnd_128 rfl (lv_at hl 0 rfl) ?_
      obtain ⟨b14, e_b14, hw⟩ := hw
      have f_b14 := h.2.2.2.rf (c := 4) (k := 1) f_a0 (by decide) (by decide) e_b14 (t := 7) rfl
      refine kp_get X h f_a0 ff_4_38.l (v := .ref b14) (congrArg va_rf e_b14) dX4_tellEnd_129 ?_
      refine lv_iconst (v := 3) X.1 X.2.1 dX4_tellEnd_132 (by decide) ?_
      refine lv_aload_n X.1 X.2.1 dX4_tellEnd_133 rfl (lv_at hl 0 rfl) ?_
      obtain ⟨b15, e_b15, hw⟩ := hw
      have f_b15 := h.2.2.2.rf (c := 4) (k := 8) f_a0 (by decide) (by decide) e_b15 (t := 10) rfl
      refine kp_get X h f_a0 ff_4_30.l (v := .ref b15) (congrArg va_rf e_b15) dX4_tellEnd_134 ?_
      refine kp_get X h f_b15 fp_4_114.l (v := .int (kp_I T13 2002 b15)) rfl dX4_tellEnd_137 ?_
      refine kp_callv X h (kp_runV (rm := { frames := 0, cells := 0, slots := 0, locals := 0 }) (mc := 0) (ms := 0) (rest := []) (Qc := fun A => kp_Qv D cy A T13 _) X h (c_X7_set l D cy ad T13 b14 3 (kp_I T13 2002 b15) _ h.2.2.2 f_b14 hw) f_b14 cv_4_105 ⟨by decide, by decide, rfl, rfl, by decide, by decide⟩ rfl hl.1 rfl (Nat.le_of_ble_eq_true rfl) dX4_tellEnd_140) (fun T16 hw l_T16 H locs h => ?_)
      have f_a0 := l_T16.is f_a0
      have f_b1 := l_T16.is f_b1
      have f_b3 := l_T16.is f_b3
      have f_b5 := l_T16.is f_b5
      have f_b11 := l_T16.is f_b11
      have f_b12 := l_T16.is f_b12
      have f_b14 := l_T16.is f_b14
      have f_b15 := l_T16.is f_b15
      have hle := hle.tr l_T16
      refine lv_aload_n X.1 X.2.1 dX4_tellEnd_143 rfl (lv_at hl 0 rfl) ?_
      obtain ⟨b17, e_b17, hw⟩ := hw
      have f_b17 := h.2.2.2.rf (c := 4) (k := 1) f_a0 (by decide) (by decide) e_b17 (t := 7) rfl
      refine kp_get X h f_a0 ff_4_38.l (v := .ref b17) (congrArg va_rf e_b17) dX4_tellEnd_144 ?_
      refine lv_iconst (v := 4) X.1 X.2.1 dX4_tellEnd_147 (by decide) ?_
      refine lv_aload_n X.1 X.2.1 dX4_tellEnd_148 rfl (lv_at hl 0 rfl) ?_
      obtain ⟨b18, e_b18, hw⟩ := hw
      have f_b18 := h.2.2.2.rf (c := 4) (k := 8) f_a0 (by decide) (by decide) e_b18 (t := 10) rfl
      refine kp_get X h f_a0 ff_4_30.l (v := .ref b18) (congrArg va_rf e_b18) dX4_tellEnd_149 ?_
      refine kp_get X h f_b18 fp_4_117.l (v := .int (kp_I T16 2003 b18)) rfl dX4_tellEnd_152 ?_
      refine kp_callv X h (kp_runV (rm := { frames := 0, cells := 0, slots := 0, locals := 0 }) (mc := 0) (ms := 0) (rest := []) (Qc := fun A => kp_Qv D cy A T16 _) X h (c_X7_set l D cy ad T16 b17 4 (kp_I T16 2003 b18) _ h.2.2.2 f_b17 hw) f_b17 cv_4_105 ⟨by decide, by decide, rfl, rfl, by decide, by decide⟩ rfl hl.1 rfl (Nat.le_of_ble_eq_true rfl) dX4_tellEnd_155) (fun T19 hw l_T19 H locs h => ?_)
      have f_a0 := l_T19.is f_a0
      have f_b1 := l_T19.is f_b1
      have f_b3 := l_T19.is f_b3
      have f_b5 := l_T19.is f_b5
      have f_b11 := l_T19.is f_b11
      have f_b12 := l_T19.is f_b12
      have f_b14 := l_T19.is f_b14
      have f_b15 := l_T19.is f_b15
      have f_b17 := l_T19.is f_b17
      have f_b18 := l_T19.is f_b18
      have hle := hle.tr l_T19
      refine lv_aload_n X.1 X.2.1 dX4_tellEnd_158 rfl (lv_at hl 0 rfl) ?_
      obtain ⟨b20, e_b20, hw⟩ := hw
      have f_b20 := h.2.2.2.rf (c := 4) (k := 1) f_a0 (by decide) (by decide) e_b20 (t := 7) rfl
      refine kp_get X h f_a0 ff_4_38.l (v := .ref b20) (congrArg va_rf e_b20) dX4_tellEnd_159 ?_
      refine lv_bipush (v := 18) X.1 X.2.1 dX4_tellEnd_162 (by decide) ?_
      refine lv_aload_n X.1 X.2.1 dX4_tellEnd_164 rfl (lv_at hl 0 rfl) ?_
      obtain ⟨b21, e_b21, hw⟩ := hw
      have f_b21 := h.2.2.2.rf (c := 4) (k := 8) f_a0 (by decide) (by decide) e_b21 (t := 10) rfl
      refine kp_get X h f_a0 ff_4_30.l (v := .ref b21) (congrArg va_rf e_b21) dX4_tellEnd_165 ?_
      refine kp_get X h f_b21 fp_4_93.l (v := .int (kp_I T19 2000 b21)) rfl dX4_tellEnd_168 ?_
      refine kp_callv X h (kp_runV (rm := { frames := 0, cells := 0, slots := 0, locals := 0 }) (mc := 0) (ms := 0) (rest := []) (Qc := fun A => kp_Qv D cy A T19 _) X h (c_X7_set l D cy ad T19 b20 18 (kp_I T19 2000 b21) _ h.2.2.2 f_b20 hw) f_b20 cv_4_105 ⟨by decide, by decide, rfl, rfl, by decide, by decide⟩ rfl hl.1 rfl (Nat.le_of_ble_eq_true rfl) dX4_tellEnd_171) (fun T22 hw l_T22 H locs h => ?_)
      have f_a0 := l_T22.is f_a0
      have f_b1 := l_T22.is f_b1
      have f_b3 := l_T22.is f_b3
      have f_b5 := l_T22.is f_b5
      have f_b11 := l_T22.is f_b11
      have f_b12 := l_T22.is f_b12
      have f_b14 := l_T22.is f_b14
      have f_b15 := l_T22.is f_b15
      have f_b17 := l_T22.is f_b17
      have f_b18 := l_T22.is f_b18
      have f_b20 := l_T22.is f_b20
      have f_b21 := l_T22.is f_b21
      have hle := hle.tr l_T22
      refine lv_goto (tgt := 184) X.1 X.2.1 dX4_tellEnd_174 (by decide) ?_
      exact j184  T22 _ _ ls (lv_sub hl [] rfl) h hle f_a0 hw
  · have hw := hw.2 c27
    refine lv_aload_n X.1 X.2.1 dX4_tellEnd_56 rfl (lv_at hl 0 rfl) ?_
    obtain ⟨b24, e_b24, hw⟩ := hw
    have f_b24 := h.2.2.2.rf (c := 4) (k := 1) f_a0 (by decide) (by decide) e_b24 (t := 7) rfl
    refine kp_get X h f_a0 ff_4_38.l (v := .ref b24) (congrArg va_rf e_b24) dX4_tellEnd_57 ?_
    refine lv_iconst (v := 1) X.1 X.2.1 dX4_tellEnd_60 (by decide) ?_
    refine lv_aload_n X.1 X.2.1 dX4_tellEnd_61 rfl (lv_at hl 0 rfl) ?_
    obtain ⟨b25, e_b25, hw⟩ := hw
    have f_b25 := h.2.2.2.rf (c := 4) (k := 8) f_a0 (by decide) (by decide) e_b25 (t := 10) rfl
    refine kp_get X h f_a0 ff_4_30.l (v := .ref b25) (congrArg va_rf e_b25) dX4_tellEnd_62 ?_
    refine kp_get X h f_b25 fp_4_93.l (v := .int (kp_I T8 2000 b25)) rfl dX4_tellEnd_65 ?_
    refine lv_iconst (v := 2) X.1 X.2.1 dX4_tellEnd_68 (by decide) ?_
    refine lv_icmp_ne (tgt := 82) X.1 X.2.1 dX4_tellEnd_69 (by decide) (fun c26 => ?_) (fun c26 => ?_)
    · have hw := hw.1 c26
      refine lv_iconst (v := 0) X.1 X.2.1 dX4_tellEnd_82 (by decide) ?_
      exact j83 0 1 b24 T8 _ _ ls (lv_sub hl [0] rfl) h hle f_a0 f_b24 hw
    · have hw := hw.2 c26
      refine lv_aload_n X.1 X.2.1 dX4_tellEnd_72 rfl (lv_at hl 0 rfl) ?_
      refine kp_get X h f_a0 ff_4_30.l (v := .ref b25) (congrArg va_rf e_b25) dX4_tellEnd_73 ?_
      refine kp_get X h f_b25 fp_4_111.l (v := .int (kp_I T8 2001 b25)) rfl dX4_tellEnd_76 ?_
      refine lv_goto (tgt := 83) X.1 X.2.1 dX4_tellEnd_79 (by decide) ?_
      exact j83 (kp_I T8 2001 b25) 1 b24 T8 _ _ ls (lv_sub hl [0] rfl) h hle f_a0 f_b24 hw
theorem dX4_perform_0 : decode cX4_perform 0 = .ok (.aload_n 0, 1) := by decide +kernel
theorem dX4_perform_1 : decode cX4_perform 1 = .ok (.aload_n 1, 1) := by decide +kernel
theorem dX4_perform_2 : decode cX4_perform 2 = .ok (.putfield 42, 3) := by decide +kernel
theorem dX4_perform_5 : decode cX4_perform 5 = .ok (.aload_n 0, 1) := by decide +kernel
theorem dX4_perform_6 : decode cX4_perform 6 = .ok (.getfield 38, 3) := by decide +kernel
theorem dX4_perform_9 : decode cX4_perform 9 = .ok (.invokevirtual 48, 3) := by decide +kernel
theorem dX4_perform_12 : decode cX4_perform 12 = .ok (.aload_n 0, 1) := by decide +kernel
theorem dX4_perform_13 : decode cX4_perform 13 = .ok (.iconst 0, 1) := by decide +kernel
theorem dX4_perform_14 : decode cX4_perform 14 = .ok (.putfield 53, 3) := by decide +kernel
theorem dX4_perform_17 : decode cX4_perform 17 = .ok (.aload_n 0, 1) := by decide +kernel
theorem dX4_perform_18 : decode cX4_perform 18 = .ok (.iconst 0, 1) := by decide +kernel
theorem dX4_perform_19 : decode cX4_perform 19 = .ok (.putfield 57, 3) := by decide +kernel
theorem dX4_perform_22 : decode cX4_perform 22 = .ok (.aload_n 0, 1) := by decide +kernel
theorem dX4_perform_23 : decode cX4_perform 23 = .ok (.iconst 0, 1) := by decide +kernel
theorem dX4_perform_24 : decode cX4_perform 24 = .ok (.putfield 60, 3) := by decide +kernel
theorem dX4_perform_27 : decode cX4_perform 27 = .ok (.aload_n 0, 1) := by decide +kernel
theorem dX4_perform_28 : decode cX4_perform 28 = .ok (.iconst 0, 1) := by decide +kernel
theorem dX4_perform_29 : decode cX4_perform 29 = .ok (.putfield 63, 3) := by decide +kernel
theorem dX4_perform_32 : decode cX4_perform 32 = .ok (.aload_n 0, 1) := by decide +kernel
theorem dX4_perform_33 : decode cX4_perform 33 = .ok (.iconst 0, 1) := by decide +kernel
theorem dX4_perform_34 : decode cX4_perform 34 = .ok (.putfield 66, 3) := by decide +kernel
theorem dX4_perform_37 : decode cX4_perform 37 = .ok (.aload_n 0, 1) := by decide +kernel
theorem dX4_perform_38 : decode cX4_perform 38 = .ok (.iload 5, 2) := by decide +kernel
theorem dX4_perform_40 : decode cX4_perform 40 = .ok (.putfield 69, 3) := by decide +kernel
theorem dX4_perform_43 : decode cX4_perform 43 = .ok (.aload_n 0, 1) := by decide +kernel
theorem dX4_perform_44 : decode cX4_perform 44 = .ok (.iconst (-1), 1) := by decide +kernel
theorem dX4_perform_45 : decode cX4_perform 45 = .ok (.putfield 72, 3) := by decide +kernel
theorem dX4_perform_48 : decode cX4_perform 48 = .ok (.aload_n 0, 1) := by decide +kernel
theorem dX4_perform_49 : decode cX4_perform 49 = .ok (.getfield 30, 3) := by decide +kernel
theorem dX4_perform_52 : decode cX4_perform 52 = .ok (.iconst 0, 1) := by decide +kernel
theorem dX4_perform_53 : decode cX4_perform 53 = .ok (.iconst 0, 1) := by decide +kernel
theorem dX4_perform_54 : decode cX4_perform 54 = .ok (.invokevirtual 75, 3) := by decide +kernel
theorem dX4_perform_57 : decode cX4_perform 57 = .ok (.iconst 0, 1) := by decide +kernel
theorem dX4_perform_58 : decode cX4_perform 58 = .ok (.istore 6, 2) := by decide +kernel
theorem dX4_perform_60 : decode cX4_perform 60 = .ok (.iload 6, 2) := by decide +kernel
theorem dX4_perform_62 : decode cX4_perform 62 = .ok (.aload_n 0, 1) := by decide +kernel
theorem dX4_perform_63 : decode cX4_perform 63 = .ok (.getfield 42, 3) := by decide +kernel
theorem dX4_perform_66 : decode cX4_perform 66 = .ok (.iload_n 2, 1) := by decide +kernel
theorem dX4_perform_67 : decode cX4_perform 67 = .ok (.invokevirtual 79, 3) := by decide +kernel
theorem dX4_perform_70 : decode cX4_perform 70 = .ok (.if_icmp .ge 34, 3) := by decide +kernel
theorem dX4_perform_73 : decode cX4_perform 73 = .ok (.aload_n 0, 1) := by decide +kernel
theorem dX4_perform_74 : decode cX4_perform 74 = .ok (.iload 6, 2) := by decide +kernel
theorem dX4_perform_76 : decode cX4_perform 76 = .ok (.ifCond .ne 7, 3) := by decide +kernel
theorem dX4_perform_79 : decode cX4_perform 79 = .ok (.iload_n 3, 1) := by decide +kernel
theorem dX4_perform_80 : decode cX4_perform 80 = .ok (.goto 15, 3) := by decide +kernel
theorem dX4_perform_83 : decode cX4_perform 83 = .ok (.iload 6, 2) := by decide +kernel
theorem dX4_perform_85 : decode cX4_perform 85 = .ok (.iconst 1, 1) := by decide +kernel
theorem dX4_perform_86 : decode cX4_perform 86 = .ok (.if_icmp .ne 8, 3) := by decide +kernel
theorem dX4_perform_89 : decode cX4_perform 89 = .ok (.iload 4, 2) := by decide +kernel
theorem dX4_perform_91 : decode cX4_perform 91 = .ok (.goto 4, 3) := by decide +kernel
theorem dX4_perform_94 : decode cX4_perform 94 = .ok (.iconst 0, 1) := by decide +kernel
theorem dX4_perform_95 : decode cX4_perform 95 = .ok (.invokevirtual 85, 3) := by decide +kernel
theorem dX4_perform_98 : decode cX4_perform 98 = .ok (.iinc 6 1, 3) := by decide +kernel
theorem dX4_perform_101 : decode cX4_perform 101 = .ok (.goto (-41), 3) := by decide +kernel
theorem dX4_perform_104 : decode cX4_perform 104 = .ok (.aload_n 0, 1) := by decide +kernel
theorem dX4_perform_105 : decode cX4_perform 105 = .ok (.iload_n 2, 1) := by decide +kernel
theorem dX4_perform_106 : decode cX4_perform 106 = .ok (.invokevirtual 89, 3) := by decide +kernel
theorem dX4_perform_109 : decode cX4_perform 109 = .ok (.iconst 0, 1) := by decide +kernel
theorem dX4_perform_110 : decode cX4_perform 110 = .ok (.istore 6, 2) := by decide +kernel
theorem dX4_perform_112 : decode cX4_perform 112 = .ok (.iload 6, 2) := by decide +kernel
theorem dX4_perform_114 : decode cX4_perform 114 = .ok (.ldc 92, 2) := by decide +kernel
theorem dX4_perform_116 : decode cX4_perform 116 = .ok (.if_icmp .ge 38, 3) := by decide +kernel
theorem dX4_perform_119 : decode cX4_perform 119 = .ok (.aload_n 0, 1) := by decide +kernel
theorem dX4_perform_120 : decode cX4_perform 120 = .ok (.getfield 72, 3) := by decide +kernel
theorem dX4_perform_123 : decode cX4_perform 123 = .ok (.iconst (-1), 1) := by decide +kernel
theorem dX4_perform_124 : decode cX4_perform 124 = .ok (.if_icmp .ne 30, 3) := by decide +kernel
theorem dX4_perform_127 : decode cX4_perform 127 = .ok (.aload_n 0, 1) := by decide +kernel
theorem dX4_perform_128 : decode cX4_perform 128 = .ok (.getfield 30, 3) := by decide +kernel
theorem dX4_perform_131 : decode cX4_perform 131 = .ok (.getfield 93, 3) := by decide +kernel
theorem dX4_perform_134 : decode cX4_perform 134 = .ok (.ifCond .ne 10, 3) := by decide +kernel
theorem dX4_perform_137 : decode cX4_perform 137 = .ok (.aload_n 0, 1) := by decide +kernel
theorem dX4_perform_138 : decode cX4_perform 138 = .ok (.invokevirtual 96, 3) := by decide +kernel
theorem dX4_perform_141 : decode cX4_perform 141 = .ok (.goto 7, 3) := by decide +kernel
theorem dX4_perform_144 : decode cX4_perform 144 = .ok (.aload_n 0, 1) := by decide +kernel
theorem dX4_perform_145 : decode cX4_perform 145 = .ok (.invokevirtual 99, 3) := by decide +kernel
theorem dX4_perform_148 : decode cX4_perform 148 = .ok (.iinc 6 1, 3) := by decide +kernel
theorem dX4_perform_151 : decode cX4_perform 151 = .ok (.goto (-39), 3) := by decide +kernel
theorem dX4_perform_154 : decode cX4_perform 154 = .ok (.aload_n 0, 1) := by decide +kernel
theorem dX4_perform_155 : decode cX4_perform 155 = .ok (.iload 5, 2) := by decide +kernel
theorem dX4_perform_157 : decode cX4_perform 157 = .ok (.invokevirtual 102, 3) := by decide +kernel
theorem dX4_perform_160 : decode cX4_perform 160 = .ok (.aload_n 0, 1) := by decide +kernel
theorem dX4_perform_161 : decode cX4_perform 161 = .ok (.getfield 72, 3) := by decide +kernel
theorem dX4_perform_164 : decode cX4_perform 164 = .ok (.ireturn, 1) := by decide +kernel
def wX4_perform_b154 (a0 : Nat) (a1 : Nat) (x2 : Int32) (x3 : Int32) (x4 : Int32) (x5 : Int32)  (Sn : kp_S) (post : Int32 → kp_S → Prop) : Prop :=
  wX4_tellEnd a0 x5 Sn (fun T1001 =>
  post (kp_I T1001 814 a0) T1001)
def wX4_perform_b148 (a0 : Nat) (a1 : Nat) (x2 : Int32) (x3 : Int32) (x4 : Int32) (x5 : Int32) (xn6 : Int32) (K112 : Int32 → kp_S → Prop) (Sn : kp_S) (post : Int32 → kp_S → Prop) : Prop :=
  ∀ y2001 : Int32, y2001 = xn6 + 1 →
  K112 y2001 Sn
def wX4_perform_L112 (a0 : Nat) (a1 : Nat) (x2 : Int32) (x3 : Int32) (x4 : Int32) (x5 : Int32)  (post : Int32 → kp_S → Prop) : Nat → Int32 → kp_S → Prop
  | 0, _, _ => False
  | n + 1, xn6, Sn =>
  ((1000000000 ≤ xn6 →
  wX4_perform_b154 a0 a1 x2 x3 x4 x5   Sn post) ∧ (¬ 1000000000 ≤ xn6 →
  ((¬ (kp_I Sn 814 a0) = (-1) →
  wX4_perform_b154 a0 a1 x2 x3 x4 x5   Sn post) ∧ ((kp_I Sn 814 a0) = (-1) →
  ∃ b3001 : Nat, kp_R Sn 808 a0 = some b3001 ∧
  ((¬ (kp_I Sn 2000 b3001) = 0 →
  wX4_leaveTop a0 Sn (fun T3002 =>
  wX4_perform_b148 a0 a1 x2 x3 x4 x5 xn6 (fun xn6_ S_ => wX4_perform_L112 a0 a1 x2 x3 x4 x5  post n xn6_ S_) T3002 post)) ∧ ((kp_I Sn 2000 b3001) = 0 →
  wX4_step a0 Sn (fun T3003 =>
  wX4_perform_b148 a0 a1 x2 x3 x4 x5 xn6 (fun xn6_ S_ => wX4_perform_L112 a0 a1 x2 x3 x4 x5  post n xn6_ S_) T3003 post)))))))
def wX4_perform_b95 (a0 : Nat) (a1 : Nat) (x2 : Int32) (x3 : Int32) (x4 : Int32) (x5 : Int32) (xn6 : Int32) (xt0 : Int32) (at1 : Nat) (K60 : Int32 → kp_S → Prop) (Sn : kp_S) (post : Int32 → kp_S → Prop) : Prop :=
  wX4_push at1 xt0 Sn (fun T4001 =>
  ∀ y4002 : Int32, y4002 = xn6 + 1 →
  K60 y4002 T4001)
def wX4_perform_L60 (a0 : Nat) (a1 : Nat) (x2 : Int32) (x3 : Int32) (x4 : Int32) (x5 : Int32)  (post : Int32 → kp_S → Prop) : Nat → Int32 → kp_S → Prop
  | 0, _, _ => False
  | n + 1, xn6, Sn =>
  ∃ b5001 : Nat, kp_R Sn 809 a0 = some b5001 ∧
  wX0_parameters b5001 x2 Sn (fun y5003 T5002 =>
  ((y5003 ≤ xn6 →
  wX4_call a0 x2 T5002 (fun T5004 =>
  ∃ n0 : Nat, wX4_perform_L112 a0 a1 x2 x3 x4 x5  post n0 0 T5004)) ∧ (¬ y5003 ≤ xn6 →
  ((¬ xn6 = 0 →
  ((¬ xn6 = 1 →
  wX4_perform_b95 a0 a1 x2 x3 x4 x5 xn6 0 a0 (fun xn6_ S_ => wX4_perform_L60 a0 a1 x2 x3 x4 x5  post n xn6_ S_) T5002 post) ∧ (xn6 = 1 →
  wX4_perform_b95 a0 a1 x2 x3 x4 x5 xn6 x4 a0 (fun xn6_ S_ => wX4_perform_L60 a0 a1 x2 x3 x4 x5  post n xn6_ S_) T5002 post))) ∧ (xn6 = 0 →
  wX4_perform_b95 a0 a1 x2 x3 x4 x5 xn6 x3 a0 (fun xn6_ S_ => wX4_perform_L60 a0 a1 x2 x3 x4 x5  post n xn6_ S_) T5002 post)))))
def wX4_perform (a0 : Nat) (a1 : Nat) (x2 : Int32) (x3 : Int32) (x4 : Int32) (x5 : Int32) (S : kp_S) (post : Int32 → kp_S → Prop) : Prop :=
  ∀ T1 : kp_S, T1 = kp_sR S 809 a0 a1 →
  ∃ b2 : Nat, kp_R T1 801 a0 = some b2 ∧
  wX7_clear b2 T1 (fun T3 =>
  ∀ T4 : kp_S, T4 = kp_sI T3 803 a0 0 →
  ∀ T5 : kp_S, T5 = kp_sI T4 805 a0 0 →
  ∀ T6 : kp_S, T6 = kp_sI T5 807 a0 0 →
  ∀ T7 : kp_S, T7 = kp_sI T6 812 a0 0 →
  ∀ T8 : kp_S, T8 = kp_sI T7 811 a0 0 →
  ∀ T9 : kp_S, T9 = kp_sI T8 813 a0 x5 →
  ∀ T10 : kp_S, T10 = kp_sI T9 814 a0 (-1) →
  ∃ b11 : Nat, kp_R T10 808 a0 = some b11 ∧
  wX10_become b11 0 0 T10 (fun T12 =>
  ∃ n0 : Nat, wX4_perform_L60 a0 a1 x2 x3 x4 x5  post n0 0 T12))
set_option maxHeartbeats 4000000 in
set_option maxRecDepth 100000 in
theorem c_X4_perform (l : Launch) (D : va_G) (cy : Nat → ClassId) (ad : (Nat → Nat) × (Nat → Nat)) (S : kp_S) (a0 : Nat) (a1 : Nat) (x2 : Int32) (x3 : Int32) (x4 : Int32) (x5 : Int32) (post : Int32 → kp_S → Prop) (hS : kp_ok S) (f_a0 : kp_is S a0 4) (f_a1 : kp_is S a1 0) (hw : wX4_perform a0 a1 x2 x3 x4 x5 S post) : kp_M l yX4_perform cX4_perform 7 (some .int) { frames := 6, cells := 0, slots := 0, locals := 137 } D cy ad S [.ref a0, .ref a1, .int x2, .int x3, .int x4, .int x5] 0 0 (fun A => kp_Qi D cy A S post) := by
  refine kp_start (own := RX4) (by decide) rfl (Nat.le_of_ble_eq_true rfl) hS ?_
  intro p e s m below meth c A ls X hr hlocks hname h hl
  have hle : kp_le S S := kp_le.rf
  have hl : lv_has ls 7 [(0, .ref a0), (1, .ref a1), (2, .int x2), (3, .int x3), (4, .int x4), (5, .int x5)] := hl
  have j154 : ∀  (Sn : kp_S) (H : Heap) (locs : List Loc) (ls : Array Slot), lv_has ls 7 [(0, .ref a0), (5, .int x5)] → kp_H D cy A Sn s.heap H locs → kp_le S Sn → kp_is Sn a0 4 → kp_is Sn a1 0 → wX4_perform_b154 a0 a1 x2 x3 x4 x5   Sn post → W p l e { frames := 6, cells := 0, slots := 0, locals := 137 } s m ([.ref a0, .ref a1, .int x2, .int x3, .int x4, .int x5] : List Value).toArray below meth c H locs 0 0 (MQ below (kp_Qi D cy A S post) ([.ref a0, .ref a1, .int x2, .int x3, .int x4, .int x5] : List Value).toArray s 0 0 A) (F0 m 154 ls []) := by
    intro  Sn H locs ls hl h hle f_a0 f_a1 hw
    unfold wX4_perform_b154 at hw
    refine lv_aload_n X.1 X.2.1 dX4_perform_154 rfl (lv_at hl 0 rfl) ?_
    refine lv_iload X.1 X.2.1 dX4_perform_155 (lv_at hl 1 rfl) ?_
    refine kp_callv X h (kp_runV (rm := { frames := 1, cells := 0, slots := 0, locals := 22 }) (mc := 0) (ms := 0) (rest := []) (Qc := fun A => kp_Qv D cy A Sn _) X h (c_X4_tellEnd l D cy ad Sn a0 x5 _ h.2.2.2 f_a0 hw) f_a0 cv_4_102 ⟨by decide, by decide, rfl, rfl, by decide, by decide⟩ rfl hl.1 rfl (Nat.le_of_ble_eq_true rfl) dX4_perform_157) (fun T1001 hw l_T1001 H locs h => ?_)
    have f_a0 := l_T1001.is f_a0
    have f_a1 := l_T1001.is f_a1
    have hle := hle.tr l_T1001
    refine lv_aload_n X.1 X.2.1 dX4_perform_160 rfl (lv_at hl 0 rfl) ?_
    refine kp_get X h f_a0 fp_4_72.l (v := .int (kp_I T1001 814 a0)) rfl dX4_perform_161 ?_
    exact kp_reti X hr hlocks h hle rfl hw dX4_perform_164
  have L112 : ∀ n112 : Nat, ∀ (xn6 : Int32) (Sn : kp_S) (H : Heap) (locs : List Loc) (ls : Array Slot), lv_has ls 7 [(0, .ref a0), (5, .int x5), (6, .int xn6)] → kp_H D cy A Sn s.heap H locs → kp_le S Sn → kp_is Sn a0 4 → kp_is Sn a1 0 → wX4_perform_L112 a0 a1 x2 x3 x4 x5  post n112 xn6 Sn → W p l e { frames := 6, cells := 0, slots := 0, locals := 137 } s m ([.ref a0, .ref a1, .int x2, .int x3, .int x4, .int x5] : List Value).toArray below meth c H locs 0 0 (MQ below (kp_Qi D cy A S post) ([.ref a0, .ref a1, .int x2, .int x3, .int x4, .int x5] : List Value).toArray s 0 0 A) (F0 m 112 ls []) := by
    intro n112
    induction n112 with
    | zero => intro xn6 Sn H locs ls hl h hle f_a0 f_a1 hw; exact hw.elim
    | succ n112 ih112 =>
      have j148 : ∀ (xn6 : Int32) (Sn : kp_S) (H : Heap) (locs : List Loc) (ls : Array Slot), lv_has ls 7 [(0, .ref a0), (5, .int x5), (6, .int xn6)] → kp_H D cy A Sn s.heap H locs → kp_le S Sn → kp_is Sn a0 4 → kp_is Sn a1 0 → wX4_perform_b148 a0 a1 x2 x3 x4 x5 xn6 (fun xn6_ S_ => wX4_perform_L112 a0 a1 x2 x3 x4 x5  post n112 xn6_ S_) Sn post → W p l e { frames := 6, cells := 0, slots := 0, locals := 137 } s m ([.ref a0, .ref a1, .int x2, .int x3, .int x4, .int x5] : List Value).toArray below meth c H locs 0 0 (MQ below (kp_Qi D cy A S post) ([.ref a0, .ref a1, .int x2, .int x3, .int x4, .int x5] : List Value).toArray s 0 0 A) (F0 m 148 ls []) := by
        intro xn6 Sn H locs ls hl h hle f_a0 f_a1 hw
        unfold wX4_perform_b148 at hw
        obtain ⟨y2001, e_y2001⟩ : ∃ y : Int32, y = xn6 + 1 := ⟨_, rfl⟩
        have hw := hw y2001 e_y2001
        refine lv_iinc (v := y2001) (lv' := [(6, .int y2001), (0, .ref a0), (5, .int x5)]) X.1 X.2.1 dX4_perform_148 hl (k := 2) rfl (by rw [e_y2001]; rfl) (by decide) rfl (fun ls hl => ?_)
        refine lv_goto (tgt := 112) X.1 X.2.1 dX4_perform_151 (by decide) ?_
        exact ih112 y2001 Sn H locs ls (lv_sub hl [1, 2, 0] rfl) h hle f_a0 f_a1 hw
      intro xn6 Sn H locs ls hl h hle f_a0 f_a1 hw
      unfold wX4_perform_L112 at hw
      refine lv_iload X.1 X.2.1 dX4_perform_112 (lv_at hl 2 rfl) ?_
      refine lv_ldc (v := 1000000000) X.1 X.2.1 X.2.2.2.1 (X.2.2.2.2.1 _ kc_4_92) dX4_perform_114 ?_
      refine lv_icmp_ge (tgt := 154) X.1 X.2.1 dX4_perform_116 (by decide) (fun c3006 => ?_) (fun c3006 => ?_)
      · have hw := hw.1 c3006
        exact j154  Sn H locs ls (lv_sub hl [0, 1] rfl) h hle f_a0 f_a1 hw
      · have hw := hw.2 c3006
        refine lv_aload_n X.1 X.2.1 dX4_perform_119 rfl (lv_at hl 0 rfl) ?_
        refine kp_get X h f_a0 fp_4_72.l (v := .int (kp_I Sn 814 a0)) rfl dX4_perform_120 ?_
        refine lv_iconst (v := (-1)) X.1 X.2.1 dX4_perform_123 (by decide) ?_
        refine lv_icmp_ne (tgt := 154) X.1 X.2.1 dX4_perform_124 (by decide) (fun c3005 => ?_) (fun c3005 => ?_)
        · have hw := hw.1 c3005
          exact j154  Sn H locs ls (lv_sub hl [0, 1] rfl) h hle f_a0 f_a1 hw
        · have hw := hw.2 c3005
          refine lv_aload_n X.1 X.2.1 dX4_perform_127 rfl (lv_at hl 0 rfl) ?_
          obtain ⟨b3001, e_b3001, hw⟩ := hw
          have f_b3001 := h.2.2.2.rf (c := 4) (k := 8) f_a0 (by decide) (by decide) e_b3001 (t := 10) rfl
          refine kp_get X h f_a0 ff_4_30.l (v := .ref b3001) (congrArg va_rf e_b3001) dX4_perform_128 ?_
          refine kp_get X h f_b3001 fp_4_93.l (v := .int (kp_I Sn 2000 b3001)) rfl dX4_perform_131 ?_
          refine lv_if_ne (tgt := 144) X.1 X.2.1 dX4_perform_134 (by decide) (fun c3004 => ?_) (fun c3004 => ?_)
          · have hw := hw.1 c3004
            refine lv_aload_n X.1 X.2.1 dX4_perform_144 rfl (lv_at hl 0 rfl) ?_
            refine kp_callv X h (kp_runV (rm := { frames := 4, cells := 0, slots := 0, locals := 89 }) (mc := 0) (ms := 0) (rest := []) (Qc := fun A => kp_Qv D cy A Sn _) X h (c_X4_leaveTop l D cy ad Sn a0 _ h.2.2.2 f_a0 hw) f_a0 cv_4_99 ⟨by decide, by decide, rfl, rfl, by decide, by decide⟩ rfl hl.1 rfl (Nat.le_of_ble_eq_true rfl) dX4_perform_145) (fun T3002 hw l_T3002 H locs h => ?_)
            have f_a0 := l_T3002.is f_a0
            have f_a1 := l_T3002.is f_a1
            have f_b3001 := l_T3002.is f_b3001
            have hle := hle.tr l_T3002
            exact j148 xn6 T3002 H locs ls (lv_sub hl [0, 1, 2] rfl) h hle f_a0 f_a1 hw
          · have hw := hw.2 c3004
            refine lv_aload_n X.1 X.2.1 dX4_perform_137 rfl (lv_at hl 0 rfl) ?_
            refine kp_callv X h (kp_runV (rm := { frames := 5, cells := 0, slots := 0, locals := 116 }) (mc := 0) (ms := 0) (rest := []) (Qc := fun A => kp_Qv D cy A Sn _) X h (c_X4_step l D cy ad Sn a0 _ h.2.2.2 f_a0 hw) f_a0 cv_4_96 ⟨by decide, by decide, rfl, rfl, by decide, by decide⟩ rfl hl.1 rfl (Nat.le_of_ble_eq_true rfl) dX4_perform_138) (fun T3003 hw l_T3003 H locs h => ?_)
            have f_a0 := l_T3003.is f_a0
            have f_a1 := l_T3003.is f_a1
            have f_b3001 := l_T3003.is f_b3001
            have hle := hle.tr l_T3003
            refine lv_goto (tgt := 148) X.1 X.2.1 dX4_perform_141 (by decide) ?_
            exact j148 xn6 T3003 H locs ls (lv_sub hl [0, 1, 2] rfl) h hle f_a0 f_a1 hw
  have L60 : ∀ n60 : Nat, ∀ (xn6 : Int32) (Sn : kp_S) (H : Heap) (locs : List Loc) (ls : Array Slot), lv_has ls 7 [(0, .ref a0), (2, .int x2), (3, .int x3), (4, .int x4), (5, .int x5), (6, .int xn6)] → kp_H D cy A Sn s.heap H locs → kp_le S Sn → kp_is Sn a0 4 → kp_is Sn a1 0 → wX4_perform_L60 a0 a1 x2 x3 x4 x5  post n60 xn6 Sn → W p l e { frames := 6, cells := 0, slots := 0, locals := 137 } s m ([.ref a0, .ref a1, .int x2, .int x3, .int x4, .int x5] : List Value).toArray below meth c H locs 0 0 (MQ below (kp_Qi D cy A S post) ([.ref a0, .ref a1, .int x2, .int x3, .int x4, .int x5] : List Value).toArray s 0 0 A) (F0 m 60 ls []) := by
    intro n60
    induction n60 with
    | zero => intro xn6 Sn H locs ls hl h hle f_a0 f_a1 hw; exact hw.elim
    | succ n60 ih60 =>
      have j95 : ∀ (xn6 : Int32) (xt0 : Int32) (at1 : Nat) (Sn : kp_S) (H : Heap) (locs : List Loc) (ls : Array Slot), lv_has ls 7 [(0, .ref a0), (2, .int x2), (3, .int x3), (4, .int x4), (5, .int x5), (6, .int xn6)] → kp_H D cy A Sn s.heap H locs → kp_le S Sn → kp_is Sn a0 4 → kp_is Sn at1 4 → kp_is Sn a1 0 → wX4_perform_b95 a0 a1 x2 x3 x4 x5 xn6 xt0 at1 (fun xn6_ S_ => wX4_perform_L60 a0 a1 x2 x3 x4 x5  post n60 xn6_ S_) Sn post → W p l e { frames := 6, cells := 0, slots := 0, locals := 137 } s m ([.ref a0, .ref a1, .int x2, .int x3, .int x4, .int x5] : List Value).toArray below meth c H locs 0 0 (MQ below (kp_Qi D cy A S post) ([.ref a0, .ref a1, .int x2, .int x3, .int x4, .int x5] : List Value).toArray s 0 0 A) (F0 m 95 ls [.int xt0, .ref at1]) := by
        intro xn6 xt0 at1 Sn H locs ls hl h hle f_a0 f_at1 f_a1 hw
        unfold wX4_perform_b95 at hw
        refine kp_callv X h (kp_runV (rm := { frames := 0, cells := 0, slots := 0, locals := 0 }) (mc := 0) (ms := 0) (rest := []) (Qc := fun A => kp_Qv D cy A Sn _) X h (c_X4_push l D cy ad Sn at1 xt0 _ h.2.2.2 f_at1 hw) f_at1 cv_4_85 ⟨by decide, by decide, rfl, rfl, by decide, by decide⟩ rfl hl.1 rfl (Nat.le_of_ble_eq_true rfl) dX4_perform_95) (fun T4001 hw l_T4001 H locs h => ?_)
        have f_a0 := l_T4001.is f_a0
        have f_at1 := l_T4001.is f_at1
        have f_a1 := l_T4001.is f_a1
        have hle := hle.tr l_T4001
        obtain ⟨y4002, e_y4002⟩ : ∃ y : Int32, y = xn6 + 1 := ⟨_, rfl⟩
        have hw := hw y4002 e_y4002
        refine lv_iinc (v := y4002) (lv' := [(6, .int y4002), (0, .ref a0), (2, .int x2), (3, .int x3), (4, .int x4), (5, .int x5)]) X.1 X.2.1 dX4_perform_98 hl (k := 5) rfl (by rw [e_y4002]; rfl) (by decide) rfl (fun ls hl => ?_)
        refine lv_goto (tgt := 60) X.1 X.2.1 dX4_perform_101 (by decide) ?_
        exact ih60 y4002 T4001 H locs ls (lv_sub hl [1, 2, 3, 4, 5, 0] rfl) h hle f_a0 f_a1 hw
      intro xn6 Sn H locs ls hl h hle f_a0 f_a1 hw
      unfold wX4_perform_L60 at hw
      refine lv_iload X.1 X.2.1 dX4_perform_60 (lv_at hl 5 rfl) ?_
      refine lv_aload_n X.1 X.2.1 dX4_perform_62 rfl (lv_at hl 0 rfl) ?_
      obtain ⟨b5001, e_b5001, hw⟩ := hw
      have f_b5001 := h.2.2.2.rf (c := 4) (k := 9) f_a0 (by decide) (by decide) e_b5001 (t := 0) rfl
      refine kp_get X h f_a0 fp_4_42.l (v := .ref b5001) (congrArg va_rf e_b5001) dX4_perform_63 ?_
      refine lv_iload_n X.1 X.2.1 dX4_perform_66 rfl (lv_at hl 1 rfl) ?_
      refine kp_calli X h (kp_runV (rm := { frames := 1, cells := 0, slots := 0, locals := 23 }) (mc := 0) (ms := 0) (rest := [.int xn6]) (Qc := fun A => kp_Qi D cy A Sn _) X h (c_X0_parameters l D cy ad Sn b5001 x2 _ h.2.2.2 f_b5001 hw) f_b5001 cv_4_79 ⟨by decide, by decide, rfl, rfl, by decide, by decide⟩ rfl hl.1 rfl (Nat.le_of_ble_eq_true rfl) dX4_perform_67) (fun y5003 T5002 hw l_T5002 H locs h => ?_)
      have f_a0 := l_T5002.is f_a0
      have f_a1 := l_T5002.is f_a1
      have f_b5001 := l_T5002.is f_b5001
      have hle := hle.tr l_T5002
      refine lv_icmp_ge (tgt := 104) X.1 X.2.1 dX4_perform_70 (by decide) (fun c5007 => ?_) (fun c5007 => ?_)
      · have hw := hw.1 c5007
        refine lv_aload_n X.1 X.2.1 dX4_perform_104 rfl (lv_at hl 0 rfl) ?_
        refine lv_iload_n X.1 X.2.1 dX4_perform_105 rfl (lv_at hl 1 rfl) ?_
        refine kp_callv X h (kp_runV (rm := { frames := 2, cells := 0, slots := 0, locals := 44 }) (mc := 0) (ms := 0) (rest := []) (Qc := fun A => kp_Qv D cy A T5002 _) X h (c_X4_call l D cy ad T5002 a0 x2 _ h.2.2.2 f_a0 hw) f_a0 cv_4_89 ⟨by decide, by decide, rfl, rfl, by decide, by decide⟩ rfl hl.1 rfl (Nat.le_of_ble_eq_true rfl) dX4_perform_106) (fun T5004 hw l_T5004 H locs h => ?_)
        have f_a0 := l_T5004.is f_a0
        have f_a1 := l_T5004.is f_a1
        have f_b5001 := l_T5004.is f_b5001
        have hle := hle.tr l_T5004
        refine lv_iconst (v := 0) X.1 X.2.1 dX4_perform_109 (by decide) ?_
        refine lv_istore (lv' := [(6, .int 0), (0, .ref a0), (2, .int x2), (3, .int x3), (4, .int x4), (5, .int x5)]) X.1 X.2.1 dX4_perform_110 hl (by decide) rfl (fun ls hl => ?_)
        obtain ⟨n0, hw⟩ := hw
        exact L112 n0 0 T5004 H locs ls (lv_sub hl [1, 5, 0] rfl) h hle f_a0 f_a1 hw
      · have hw := hw.2 c5007
        refine lv_aload_n X.1 X.2.1 dX4_perform_73 rfl (lv_at hl 0 rfl) ?_
        refine lv_iload X.1 X.2.1 dX4_perform_74 (lv_at hl 5 rfl) ?_
        refine lv_if_ne (tgt := 83) X.1 X.2.1 dX4_perform_76 (by decide) (fun c5006 => ?_) (fun c5006 => ?_)
        · have hw := hw.1 c5006
          refine lv_iload X.1 X.2.1 dX4_perform_83 (lv_at hl 5 rfl) ?_
          refine lv_iconst (v := 1) X.1 X.2.1 dX4_perform_85 (by decide) ?_
          refine lv_icmp_ne (tgt := 94) X.1 X.2.1 dX4_perform_86 (by decide) (fun c5005 => ?_) (fun c5005 => ?_)
          · have hw := hw.1 c5005
            refine lv_iconst (v := 0) X.1 X.2.1 dX4_perform_94 (by decide) ?_
            exact j95 xn6 0 a0 T5002 H locs ls (lv_sub hl [0, 1, 2, 3, 4, 5] rfl) h hle f_a0 f_a0 f_a1 hw
          · have hw := hw.2 c5005
            refine lv_iload X.1 X.2.1 dX4_perform_89 (lv_at hl 3 rfl) ?_
            refine lv_goto (tgt := 95) X.1 X.2.1 dX4_perform_91 (by decide) ?_
            exact j95 xn6 x4 a0 T5002 H locs ls (lv_sub hl [0, 1, 2, 3, 4, 5] rfl) h hle f_a0 f_a0 f_a1 hw
        · have hw := hw.2 c5006
          refine lv_iload_n X.1 X.2.1 dX4_perform_79 rfl (lv_at hl 2 rfl) ?_
          refine lv_goto (tgt := 95) X.1 X.2.1 dX4_perform_80 (by decide) ?_
          exact j95 xn6 x3 a0 T5002 H locs ls (lv_sub hl [0, 1, 2, 3, 4, 5] rfl) h hle f_a0 f_a0 f_a1 hw
  unfold wX4_perform at hw
  have h : kp_H D cy A S s.heap s.heap [] := h
  revert h
  intro h
  refine lv_aload_n X.1 X.2.1 dX4_perform_0 rfl (lv_at hl 0 rfl) ?_
  refine lv_aload_n X.1 X.2.1 dX4_perform_1 rfl (lv_at hl 1 rfl) ?_
  refine kp_putR X h f_a0 fp_4_42 f_a1 rfl ⟨by decide, by decide⟩ ⟨rfl, rfl⟩ dX4_perform_2 (fun T1 e_T1 l_T1 H locs h => ?_)
  have hw := hw T1 e_T1
  have f_a0 := l_T1.is f_a0
  have f_a1 := l_T1.is f_a1
  have hle := hle.tr l_T1
  refine lv_aload_n X.1 X.2.1 dX4_perform_5 rfl (lv_at hl 0 rfl) ?_
  obtain ⟨b2, e_b2, hw⟩ := hw
  have f_b2 := h.2.2.2.rf (c := 4) (k := 1) f_a0 (by decide) (by decide) e_b2 (t := 7) rfl
  refine kp_get X h f_a0 ff_4_38.l (v := .ref b2) (congrArg va_rf e_b2) dX4_perform_6 ?_
  refine kp_callv X h (kp_runV (rm := { frames := 0, cells := 0, slots := 0, locals := 0 }) (mc := 0) (ms := 0) (rest := []) (Qc := fun A => kp_Qv D cy A T1 _) X h (c_X7_clear l D cy ad T1 b2 _ h.2.2.2 f_b2 hw) f_b2 cv_4_48 ⟨by decide, by decide, rfl, rfl, by decide, by decide⟩ rfl hl.1 rfl (Nat.le_of_ble_eq_true rfl) dX4_perform_9) (fun T3 hw l_T3 H locs h => ?_)
  have f_a0 := l_T3.is f_a0
  have f_a1 := l_T3.is f_a1
  have f_b2 := l_T3.is f_b2
  have hle := hle.tr l_T3
  refine lv_aload_n X.1 X.2.1 dX4_perform_12 rfl (lv_at hl 0 rfl) ?_
  refine lv_iconst (v := 0) X.1 X.2.1 dX4_perform_13 (by decide) ?_
  refine kp_putI X h f_a0 fp_4_53 rfl ⟨rfl, rfl⟩ dX4_perform_14 (fun T4 e_T4 l_T4 H locs h => ?_)
  have hw := hw T4 e_T4
  have f_a0 := l_T4.is f_a0
  have f_a1 := l_T4.is f_a1
  have f_b2 := l_T4.is f_b2
  have hle := hle.tr l_T4
  refine lv_aload_n X.1 X.2.1 dX4_perform_17 rfl (lv_at hl 0 rfl) ?_
  refine lv_iconst (v := 0) X.1 X.2.1 dX4_perform_18 (by decide) ?_
  refine kp_putI X h f_a0 fp_4_57 rfl ⟨rfl, rfl⟩ dX4_perform_19 (fun T5 e_T5 l_T5 H locs h => ?_)
  have hw := hw T5 e_T5
  have f_a0 := l_T5.is f_a0
  have f_a1 := l_T5.is f_a1
  have f_b2 := l_T5.is f_b2
  have hle := hle.tr l_T5
  refine lv_aload_n X.1 X.2.1 dX4_perform_22 rfl (lv_at hl 0 rfl) ?_
  refine lv_iconst (v := 0) X.1 X.2.1 dX4_perform_23 (by decide) ?_
  refine kp_putI X h f_a0 fp_4_60 rfl ⟨rfl, rfl⟩ dX4_perform_24 (fun T6 e_T6 l_T6 H locs h => ?_)
  have hw := hw T6 e_T6
  have f_a0 := l_T6.is f_a0
  have f_a1 := l_T6.is f_a1
  have f_b2 := l_T6.is f_b2
  have hle := hle.tr l_T6
  refine lv_aload_n X.1 X.2.1 dX4_perform_27 rfl (lv_at hl 0 rfl) ?_
  refine lv_iconst (v := 0) X.1 X.2.1 dX4_perform_28 (by decide) ?_
  refine kp_putI X h f_a0 fp_4_63 rfl ⟨rfl, rfl⟩ dX4_perform_29 (fun T7 e_T7 l_T7 H locs h => ?_)
  have hw := hw T7 e_T7
  have f_a0 := l_T7.is f_a0
  have f_a1 := l_T7.is f_a1
  have f_b2 := l_T7.is f_b2
  have hle := hle.tr l_T7
  refine lv_aload_n X.1 X.2.1 dX4_perform_32 rfl (lv_at hl 0 rfl) ?_
  refine lv_iconst (v := 0) X.1 X.2.1 dX4_perform_33 (by decide) ?_
  refine kp_putI X h f_a0 fp_4_66 rfl ⟨rfl, rfl⟩ dX4_perform_34 (fun T8 e_T8 l_T8 H locs h => ?_)
  have hw := hw T8 e_T8
  have f_a0 := l_T8.is f_a0
  have f_a1 := l_T8.is f_a1
  have f_b2 := l_T8.is f_b2
  have hle := hle.tr l_T8
  refine lv_aload_n X.1 X.2.1 dX4_perform_37 rfl (lv_at hl 0 rfl) ?_
  refine lv_iload X.1 X.2.1 dX4_perform_38 (lv_at hl 5 rfl) ?_
  refine kp_putI X h f_a0 fp_4_69 rfl ⟨rfl, rfl⟩ dX4_perform_40 (fun T9 e_T9 l_T9 H locs h => ?_)
  have hw := hw T9 e_T9
  have f_a0 := l_T9.is f_a0
  have f_a1 := l_T9.is f_a1
  have f_b2 := l_T9.is f_b2
  have hle := hle.tr l_T9
  refine lv_aload_n X.1 X.2.1 dX4_perform_43 rfl (lv_at hl 0 rfl) ?_
  refine lv_iconst (v := (-1)) X.1 X.2.1 dX4_perform_44 (by decide) ?_
  refine kp_putI X h f_a0 fp_4_72 rfl ⟨rfl, rfl⟩ dX4_perform_45 (fun T10 e_T10 l_T10 H locs h => ?_)
  have hw := hw T10 e_T10
  have f_a0 := l_T10.is f_a0
  have f_a1 := l_T10.is f_a1
  have f_b2 := l_T10.is f_b2
  have hle := hle.tr l_T10
  refine lv_aload_n X.1 X.2.1 dX4_perform_48 rfl (lv_at hl 0 rfl) ?_
  obtain ⟨b11, e_b11, hw⟩ := hw
  have f_b11 := h.2.2.2.rf (c := 4) (k := 8) f_a0 (by decide) (by decide) e_b11 (t := 10) rfl
  refine kp_get X h f_a0 ff_4_30.l (v := .ref b11) (congrArg va_rf e_b11) dX4_perform_49 ?_
  refine lv_iconst (v := 0) X.1 X.2.1 dX4_perform_52 (by decide) ?_
  refine lv_iconst (v := 0) X.1 X.2.1 dX4_perform_53 (by decide) ?_
  refine kp_callv X h (kp_runV (rm := { frames := 0, cells := 0, slots := 0, locals := 0 }) (mc := 0) (ms := 0) (rest := []) (Qc := fun A => kp_Qv D cy A T10 _) X h (c_X10_become l D cy ad T10 b11 0 0 _ h.2.2.2 f_b11 hw) f_b11 cv_4_75 ⟨by decide, by decide, rfl, rfl, by decide, by decide⟩ rfl hl.1 rfl (Nat.le_of_ble_eq_true rfl) dX4_perform_54) (fun T12 hw l_T12 H locs h => ?_)
  have f_a0 := l_T12.is f_a0
  have f_a1 := l_T12.is f_a1
  have f_b2 := l_T12.is f_b2
  have f_b11 := l_T12.is f_b11
  have hle := hle.tr l_T12
  refine lv_iconst (v := 0) X.1 X.2.1 dX4_perform_57 (by decide) ?_
  refine lv_istore (lv' := [(6, .int 0), (0, .ref a0), (1, .ref a1), (2, .int x2), (3, .int x3), (4, .int x4), (5, .int x5)]) X.1 X.2.1 dX4_perform_58 hl (by decide) rfl (fun ls hl => ?_)
  obtain ⟨n0, hw⟩ := hw
  exact L60 n0 0 T12 _ _ ls (lv_sub hl [1, 3, 4, 5, 6, 0] rfl) h hle f_a0 f_a1 hw
