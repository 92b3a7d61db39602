set_option maxRecDepth 100000 in
theorem cl_4 : kp_CL 4 RX4 TX4 15 := ⟨rfl, by decide, rfl, by decide +kernel, tyX4_ok, nmX4⟩
theorem fp_4_42 : kp_FP RX4 42 4 9 := ⟨RX4, TX4, 15, cl_4, by decide, kp_mem 582 (by decide +kernel) (by decide +kernel), rfl⟩
theorem fp_4_145 : kp_FP RX4 145 4 10 := ⟨RX4, TX4, 15, cl_4, by decide, kp_mem 583 (by decide +kernel) (by decide +kernel), rfl⟩
theorem cv_4_148 : kp_CV RX4 148 yX0_get cX0_get 2 (some .int) 1 0 := ⟨⟨kp_mem 1419 (by decide +kernel) (by decide +kernel), kp_mem 205 (by decide +kernel) (by decide +kernel), by decide +kernel⟩, kp_mem 1416 (by decide +kernel) (by decide +kernel), kp_mem 1417 (by decide +kernel) (by decide +kernel), kp_mem 1418 (by decide +kernel) (by decide +kernel), by decide, TX0, 4, rfl⟩
theorem fp_4_53 : kp_FP RX4 53 4 3 := ⟨RX4, TX4, 15, cl_4, by decide, kp_mem 576 (by decide +kernel) (by decide +kernel), rfl⟩
theorem ff_4_11 : kp_FF RX4 11 4 2 := ⟨RX4, TX4, 15, cl_4, by decide, kp_mem 575 (by decide +kernel) (by decide +kernel), rfl, rfl⟩
theorem ff_4_17 : kp_FF RX4 17 4 4 := ⟨RX4, TX4, 15, cl_4, by decide, kp_mem 577 (by decide +kernel) (by decide +kernel), rfl, rfl⟩
theorem fp_4_57 : kp_FP RX4 57 4 5 := ⟨RX4, TX4, 15, cl_4, by decide, kp_mem 578 (by decide +kernel) (by decide +kernel), rfl⟩
theorem ff_4_23 : kp_FF RX4 23 4 6 := ⟨RX4, TX4, 15, cl_4, by decide, kp_mem 579 (by decide +kernel) (by decide +kernel), rfl, rfl⟩
theorem fp_4_60 : kp_FP RX4 60 4 7 := ⟨RX4, TX4, 15, cl_4, by decide, kp_mem 580 (by decide +kernel) (by decide +kernel), rfl⟩
theorem cv_4_149 : kp_CV RX4 149 yX4_top cX4_top 1 (some (.object "LockKeepers$Part")) 0 4 := ⟨⟨kp_mem 1402 (by decide +kernel) (by decide +kernel), kp_mem 216 (by decide +kernel) (by decide +kernel), by decide +kernel⟩, kp_mem 1399 (by decide +kernel) (by decide +kernel), kp_mem 1401 (by decide +kernel) (by decide +kernel), kp_mem 67 (by decide +kernel) (by decide +kernel), by decide, TX4, 15, rfl⟩
set_option maxRecDepth 100000 in
theorem cl_6 : kp_CL 6 RX6 TX6 9 := ⟨rfl, by decide, rfl, by decide +kernel, tyX6_ok, nmX6⟩
theorem fp_4_153 : kp_FP RX4 153 6 0 := ⟨RX6, TX6, 9, cl_6, by decide, kp_mem 544 (by decide +kernel) (by decide +kernel), rfl⟩
theorem fp_4_156 : kp_FP RX4 156 6 1 := ⟨RX6, TX6, 9, cl_6, by decide, kp_mem 545 (by decide +kernel) (by decide +kernel), rfl⟩
theorem fp_4_159 : kp_FP RX4 159 6 2 := ⟨RX6, TX6, 9, cl_6, by decide, kp_mem 546 (by decide +kernel) (by decide +kernel), rfl⟩
theorem fp_4_162 : kp_FP RX4 162 6 3 := ⟨RX6, TX6, 9, cl_6, by decide, kp_mem 547 (by decide +kernel) (by decide +kernel), rfl⟩
theorem fp_4_63 : kp_FP RX4 63 4 12 := ⟨RX4, TX4, 15, cl_4, by decide, kp_mem 585 (by decide +kernel) (by decide +kernel), rfl⟩
theorem fp_4_163 : kp_FP RX4 163 6 7 := ⟨RX6, TX6, 9, cl_6, by decide, kp_mem 551 (by decide +kernel) (by decide +kernel), rfl⟩
theorem fp_4_69 : kp_FP RX4 69 4 13 := ⟨RX4, TX4, 15, cl_4, by decide, kp_mem 586 (by decide +kernel) (by decide +kernel), rfl⟩
theorem fp_4_72 : kp_FP RX4 72 4 14 := ⟨RX4, TX4, 15, cl_4, by decide, kp_mem 587 (by decide +kernel) (by decide +kernel), rfl⟩
theorem ff_4_38 : kp_FF RX4 38 4 1 := ⟨RX4, TX4, 15, cl_4, by decide, kp_mem 574 (by decide +kernel) (by decide +kernel), rfl, rfl⟩
theorem cv_4_166 : kp_CV RX4 166 yX7_count cX7_count 2 none 1 7 := ⟨⟨kp_mem 1374 (by decide +kernel) (by decide +kernel), kp_mem 215 (by decide +kernel) (by decide +kernel), by decide +kernel⟩, kp_mem 1371 (by decide +kernel) (by decide +kernel), kp_mem 1372 (by decide +kernel) (by decide +kernel), kp_mem 1373 (by decide +kernel) (by decide +kernel), by decide, TX7, 3, rfl⟩
theorem cv_4_169 : kp_CV RX4 169 yX7_write cX7_write 4 none 2 7 := ⟨⟨kp_mem 1378 (by decide +kernel) (by decide +kernel), kp_mem 215 (by decide +kernel) (by decide +kernel), by decide +kernel⟩, kp_mem 1375 (by decide +kernel) (by decide +kernel), kp_mem 1376 (by decide +kernel) (by decide +kernel), kp_mem 1377 (by decide +kernel) (by decide +kernel), by decide, TX7, 3, rfl⟩
theorem ff_4_30 : kp_FF RX4 30 4 8 := ⟨RX4, TX4, 15, cl_4, by decide, kp_mem 581 (by decide +kernel) (by decide +kernel), rfl, rfl⟩
theorem cv_4_75 : kp_CV RX4 75 yX10_become cX10_become 3 none 2 10 := ⟨⟨kp_mem 1350 (by decide +kernel) (by decide +kernel), kp_mem 217 (by decide +kernel) (by decide +kernel), by decide +kernel⟩, kp_mem 1347 (by decide +kernel) (by decide +kernel), kp_mem 1348 (by decide +kernel) (by decide +kernel), kp_mem 1349 (by decide +kernel) (by decide +kernel), by decide, TX10, 4, rfl⟩
theorem fp_4_114 : kp_FP RX4 114 10 2 := ⟨RX10, TX10, 4, cl_10, by decide, kp_mem 502 (by decide +kernel) (by decide +kernel), rfl⟩
theorem fp_4_66 : kp_FP RX4 66 4 11 := ⟨RX4, TX4, 15, cl_4, by decide, kp_mem 584 (by decide +kernel) (by decide +kernel), rfl⟩
theorem fp_4_117 : kp_FP RX4 117 10 3 := ⟨RX10, TX10, 4, cl_10, by decide, kp_mem 504 (by decide +kernel) (by decide +kernel), rfl⟩
theorem cv_4_85 : kp_CV RX4 85 yX4_push cX4_push 2 none 1 4 := ⟨⟨kp_mem 1358 (by decide +kernel) (by decide +kernel), kp_mem 216 (by decide +kernel) (by decide +kernel), by decide +kernel⟩, kp_mem 1355 (by decide +kernel) (by decide +kernel), kp_mem 1357 (by decide +kernel) (by decide +kernel), kp_mem 60 (by decide +kernel) (by decide +kernel), by decide, TX4, 15, rfl⟩
theorem cv_4_123 : kp_CV RX4 123 yX4_take cX4_take 2 (some .int) 0 4 := ⟨⟨kp_mem 1415 (by decide +kernel) (by decide +kernel), kp_mem 216 (by decide +kernel) (by decide +kernel), by decide +kernel⟩, kp_mem 1412 (by decide +kernel) (by decide +kernel), kp_mem 1414 (by decide +kernel) (by decide +kernel), kp_mem 69 (by decide +kernel) (by decide +kernel), by decide, TX4, 15, rfl⟩
theorem cv_4_172 : kp_CV RX4 172 yX4_frame cX4_frame 1 (some (.object "LockKeepers$Frame")) 0 4 := ⟨⟨kp_mem 1382 (by decide +kernel) (by decide +kernel), kp_mem 216 (by decide +kernel) (by decide +kernel), by decide +kernel⟩, kp_mem 1379 (by decide +kernel) (by decide +kernel), kp_mem 1381 (by decide +kernel) (by decide +kernel), kp_mem 64 (by decide +kernel) (by decide +kernel), by decide, TX4, 15, rfl⟩
theorem cv_4_176 : kp_CV RX4 176 yX3_get cX3_get 2 (some .int) 1 3 := ⟨⟨kp_mem 1427 (by decide +kernel) (by decide +kernel), kp_mem 218 (by decide +kernel) (by decide +kernel), by decide +kernel⟩, kp_mem 1424 (by decide +kernel) (by decide +kernel), kp_mem 1425 (by decide +kernel) (by decide +kernel), kp_mem 1426 (by decide +kernel) (by decide +kernel), by decide, TX3, 5, rfl⟩
theorem fp_4_177 : kp_FP RX4 177 3 3 := ⟨RX3, TX3, 5, cl_3, by decide, kp_mem 523 (by decide +kernel) (by decide +kernel), rfl⟩
theorem fp_4_180 : kp_FP RX4 180 3 4 := ⟨RX3, TX3, 5, cl_3, by decide, kp_mem 525 (by decide +kernel) (by decide +kernel), rfl⟩
theorem cv_4_181 : kp_CV RX4 181 yX4_pop cX4_pop 1 (some .int) 0 4 := ⟨⟨kp_mem 1390 (by decide +kernel) (by decide +kernel), kp_mem 216 (by decide +kernel) (by decide +kernel), by decide +kernel⟩, kp_mem 1387 (by decide +kernel) (by decide +kernel), kp_mem 1389 (by decide +kernel) (by decide +kernel), kp_mem 65 (by decide +kernel) (by decide +kernel), by decide, TX4, 15, rfl⟩
theorem cv_4_188 : kp_CV RX4 188 yX4_trouble cX4_trouble 2 none 1 4 := ⟨⟨kp_mem 1370 (by decide +kernel) (by decide +kernel), kp_mem 216 (by decide +kernel) (by decide +kernel), by decide +kernel⟩, kp_mem 1367 (by decide +kernel) (by decide +kernel), kp_mem 1369 (by decide +kernel) (by decide +kernel), kp_mem 63 (by decide +kernel) (by decide +kernel), by decide, TX4, 15, rfl⟩
theorem cv_4_184 : kp_CV RX4 184 yX4_divide cX4_divide 4 none 3 4 := ⟨⟨kp_mem 1435 (by decide +kernel) (by decide +kernel), kp_mem 216 (by decide +kernel) (by decide +kernel), by decide +kernel⟩, kp_mem 1432 (by decide +kernel) (by decide +kernel), kp_mem 1434 (by decide +kernel) (by decide +kernel), kp_mem 72 (by decide +kernel) (by decide +kernel), by decide, TX4, 15, rfl⟩
theorem ff_4_34 : kp_FF RX4 34 4 0 := ⟨RX4, TX4, 15, cl_4, by decide, kp_mem 573 (by decide +kernel) (by decide +kernel), rfl, rfl⟩
theorem cv_4_191 : kp_CV RX4 191 yX1_levelOf cX1_levelOf 2 (some .int) 1 1 := ⟨⟨kp_mem 1239 (by decide +kernel) (by decide +kernel), kp_mem 214 (by decide +kernel) (by decide +kernel), by decide +kernel⟩, kp_mem 1440 (by decide +kernel) (by decide +kernel), kp_mem 1237 (by decide +kernel) (by decide +kernel), kp_mem 1238 (by decide +kernel) (by decide +kernel), by decide, TX1, 5, rfl⟩
theorem cv_4_194 : kp_CV RX4 194 yX1_reachLevelOf cX1_reachLevelOf 2 (some .int) 1 1 := ⟨⟨kp_mem 1444 (by decide +kernel) (by decide +kernel), kp_mem 214 (by decide +kernel) (by decide +kernel), by decide +kernel⟩, kp_mem 1441 (by decide +kernel) (by decide +kernel), kp_mem 1442 (by decide +kernel) (by decide +kernel), kp_mem 1443 (by decide +kernel) (by decide +kernel), by decide, TX1, 5, rfl⟩
theorem cv_4_197 : kp_CV RX4 197 yX1_gateOf cX1_gateOf 3 (some .int) 2 1 := ⟨⟨kp_mem 1193 (by decide +kernel) (by decide +kernel), kp_mem 214 (by decide +kernel) (by decide +kernel), by decide +kernel⟩, kp_mem 1445 (by decide +kernel) (by decide +kernel), kp_mem 1191 (by decide +kernel) (by decide +kernel), kp_mem 1192 (by decide +kernel) (by decide +kernel), by decide, TX1, 5, rfl⟩
theorem cv_4_201 : kp_CV RX4 201 yX1_placeOf cX1_placeOf 2 (some .int) 1 1 := ⟨⟨kp_mem 1247 (by decide +kernel) (by decide +kernel), kp_mem 214 (by decide +kernel) (by decide +kernel), by decide +kernel⟩, kp_mem 1446 (by decide +kernel) (by decide +kernel), kp_mem 1245 (by decide +kernel) (by decide +kernel), kp_mem 1246 (by decide +kernel) (by decide +kernel), by decide, TX1, 5, rfl⟩
theorem cv_4_204 : kp_CV RX4 204 yX1_holdsOf cX1_holdsOf 2 (some .int) 1 1 := ⟨⟨kp_mem 1243 (by decide +kernel) (by decide +kernel), kp_mem 214 (by decide +kernel) (by decide +kernel), by decide +kernel⟩, kp_mem 1447 (by decide +kernel) (by decide +kernel), kp_mem 1241 (by decide +kernel) (by decide +kernel), kp_mem 1242 (by decide +kernel) (by decide +kernel), by decide, TX1, 5, rfl⟩
theorem cv_4_211 : kp_CV RX4 211 yX4_peek cX4_peek 3 (some .int) 1 4 := ⟨⟨kp_mem 1459 (by decide +kernel) (by decide +kernel), kp_mem 216 (by decide +kernel) (by decide +kernel), by decide +kernel⟩, kp_mem 1456 (by decide +kernel) (by decide +kernel), kp_mem 1458 (by decide +kernel) (by decide +kernel), kp_mem 76 (by decide +kernel) (by decide +kernel), by decide, TX4, 15, rfl⟩
theorem cv_4_229 : kp_CV RX4 229 yX4_spend cX4_spend 1 (some .boolean) 0 4 := ⟨⟨kp_mem 1366 (by decide +kernel) (by decide +kernel), kp_mem 216 (by decide +kernel) (by decide +kernel), by decide +kernel⟩, kp_mem 1363 (by decide +kernel) (by decide +kernel), kp_mem 1365 (by decide +kernel) (by decide +kernel), kp_mem 62 (by decide +kernel) (by decide +kernel), by decide, TX4, 15, rfl⟩
theorem cv_4_222 : kp_CV RX4 222 yX3_set cX3_set 3 none 2 3 := ⟨⟨kp_mem 1394 (by decide +kernel) (by decide +kernel), kp_mem 218 (by decide +kernel) (by decide +kernel), by decide +kernel⟩, kp_mem 1391 (by decide +kernel) (by decide +kernel), kp_mem 1392 (by decide +kernel) (by decide +kernel), kp_mem 1393 (by decide +kernel) (by decide +kernel), by decide, TX3, 5, rfl⟩
theorem cv_4_207 : kp_CV RX4 207 yX4_jumpIf cX4_jumpIf 3 none 2 4 := ⟨⟨kp_mem 1455 (by decide +kernel) (by decide +kernel), kp_mem 216 (by decide +kernel) (by decide +kernel), by decide +kernel⟩, kp_mem 1452 (by decide +kernel) (by decide +kernel), kp_mem 1454 (by decide +kernel) (by decide +kernel), kp_mem 75 (by decide +kernel) (by decide +kernel), by decide, TX4, 15, rfl⟩
theorem cv_4_214 : kp_CV RX4 214 yX4_settle cX4_settle 4 none 2 4 := ⟨⟨kp_mem 1463 (by decide +kernel) (by decide +kernel), kp_mem 216 (by decide +kernel) (by decide +kernel), by decide +kernel⟩, kp_mem 1460 (by decide +kernel) (by decide +kernel), kp_mem 1462 (by decide +kernel) (by decide +kernel), kp_mem 77 (by decide +kernel) (by decide +kernel), by decide, TX4, 15, rfl⟩
theorem mm_4_217 : Cond.methodLink RX4 217 Lib.Math.max.name ∈ kp_tb := kp_mem 1464 (by decide +kernel) (by decide +kernel)
theorem cv_4_223 : kp_CV RX4 223 yX4_match cX4_match 3 none 2 4 := ⟨⟨kp_mem 1468 (by decide +kernel) (by decide +kernel), kp_mem 216 (by decide +kernel) (by decide +kernel), by decide +kernel⟩, kp_mem 1465 (by decide +kernel) (by decide +kernel), kp_mem 1467 (by decide +kernel) (by decide +kernel), kp_mem 78 (by decide +kernel) (by decide +kernel), by decide, TX4, 15, rfl⟩
theorem fl_4_226 : kp_FL RX4 226 6 8 := ⟨RX6, TX6, 9, cl_6, by decide, kp_mem 553 (by decide +kernel) (by decide +kernel)⟩
theorem fp_4_111 : kp_FP RX4 111 10 1 := ⟨RX10, TX10, 4, cl_10, by decide, kp_mem 500 (by decide +kernel) (by decide +kernel), rfl⟩
theorem cv_4_233 : kp_CV RX4 233 yX4_beginRoundOfEach cX4_beginRoundOfEach 3 none 2 4 := ⟨⟨kp_mem 1472 (by decide +kernel) (by decide +kernel), kp_mem 216 (by decide +kernel) (by decide +kernel), by decide +kernel⟩, kp_mem 1469 (by decide +kernel) (by decide +kernel), kp_mem 1471 (by decide +kernel) (by decide +kernel), kp_mem 79 (by decide +kernel) (by decide +kernel), by decide, TX4, 15, rfl⟩
theorem cv_4_236 : kp_CV RX4 236 yX4_stepEach cX4_stepEach 4 none 1 4 := ⟨⟨kp_mem 1476 (by decide +kernel) (by decide +kernel), kp_mem 216 (by decide +kernel) (by decide +kernel), by decide +kernel⟩, kp_mem 1473 (by decide +kernel) (by decide +kernel), kp_mem 1475 (by decide +kernel) (by decide +kernel), kp_mem 80 (by decide +kernel) (by decide +kernel), by decide, TX4, 15, rfl⟩
theorem cv_4_257 : kp_CV RX4 257 yX1_setGate cX1_setGate 4 none 3 1 := ⟨⟨kp_mem 1501 (by decide +kernel) (by decide +kernel), kp_mem 214 (by decide +kernel) (by decide +kernel), by decide +kernel⟩, kp_mem 1498 (by decide +kernel) (by decide +kernel), kp_mem 1499 (by decide +kernel) (by decide +kernel), kp_mem 1500 (by decide +kernel) (by decide +kernel), by decide, TX1, 5, rfl⟩
theorem cv_4_254 : kp_CV RX4 254 yX1_troubleToShut cX1_troubleToShut 3 (some .int) 2 1 := ⟨⟨kp_mem 1492 (by decide +kernel) (by decide +kernel), kp_mem 214 (by decide +kernel) (by decide +kernel), by decide +kernel⟩, kp_mem 1497 (by decide +kernel) (by decide +kernel), kp_mem 1490 (by decide +kernel) (by decide +kernel), kp_mem 1491 (by decide +kernel) (by decide +kernel), by decide, TX1, 5, rfl⟩
theorem cv_4_251 : kp_CV RX4 251 yX1_troubleToOpen cX1_troubleToOpen 5 (some .int) 2 1 := ⟨⟨kp_mem 1488 (by decide +kernel) (by decide +kernel), kp_mem 214 (by decide +kernel) (by decide +kernel), by decide +kernel⟩, kp_mem 1485 (by decide +kernel) (by decide +kernel), kp_mem 1486 (by decide +kernel) (by decide +kernel), kp_mem 1487 (by decide +kernel) (by decide +kernel), by decide, TX1, 5, rfl⟩
theorem cv_4_267 : kp_CV RX4 267 yX1_moveUnit cX1_moveUnit 5 none 3 1 := ⟨⟨kp_mem 1514 (by decide +kernel) (by decide +kernel), kp_mem 214 (by decide +kernel) (by decide +kernel), by decide +kernel⟩, kp_mem 1511 (by decide +kernel) (by decide +kernel), kp_mem 1512 (by decide +kernel) (by decide +kernel), kp_mem 1513 (by decide +kernel) (by decide +kernel), by decide, TX1, 5, rfl⟩
theorem cv_4_264 : kp_CV RX4 264 yX1_headOf cX1_headOf 3 (some .int) 2 1 := ⟨⟨kp_mem 1496 (by decide +kernel) (by decide +kernel), kp_mem 214 (by decide +kernel) (by decide +kernel), by decide +kernel⟩, kp_mem 1510 (by decide +kernel) (by decide +kernel), kp_mem 1494 (by decide +kernel) (by decide +kernel), kp_mem 1495 (by decide +kernel) (by decide +kernel), by decide, TX1, 5, rfl⟩
theorem cv_4_260 : kp_CV RX4 260 yX1_troubleToSluice cX1_troubleToSluice 5 (some .int) 3 1 := ⟨⟨kp_mem 1509 (by decide +kernel) (by decide +kernel), kp_mem 214 (by decide +kernel) (by decide +kernel), by decide +kernel⟩, kp_mem 1506 (by decide +kernel) (by decide +kernel), kp_mem 1507 (by decide +kernel) (by decide +kernel), kp_mem 1508 (by decide +kernel) (by decide +kernel), by decide, TX1, 5, rfl⟩
theorem cv_4_270 : kp_CV RX4 270 yX1_troubleToSail cX1_troubleToSail 5 (some .int) 2 1 := ⟨⟨kp_mem 1522 (by decide +kernel) (by decide +kernel), kp_mem 214 (by decide +kernel) (by decide +kernel), by decide +kernel⟩, kp_mem 1519 (by decide +kernel) (by decide +kernel), kp_mem 1520 (by decide +kernel) (by decide +kernel), kp_mem 1521 (by decide +kernel) (by decide +kernel), by decide, TX1, 5, rfl⟩
theorem cv_4_273 : kp_CV RX4 273 yX1_moveShip cX1_moveShip 3 (some .int) 2 1 := ⟨⟨kp_mem 1530 (by decide +kernel) (by decide +kernel), kp_mem 214 (by decide +kernel) (by decide +kernel), by decide +kernel⟩, kp_mem 1527 (by decide +kernel) (by decide +kernel), kp_mem 1528 (by decide +kernel) (by decide +kernel), kp_mem 1529 (by decide +kernel) (by decide +kernel), by decide, TX1, 5, rfl⟩
theorem cv_4_239 : kp_CV RX4 239 yX4_moveGate cX4_moveGate 6 none 1 4 := ⟨⟨kp_mem 1484 (by decide +kernel) (by decide +kernel), kp_mem 216 (by decide +kernel) (by decide +kernel), by decide +kernel⟩, kp_mem 1481 (by decide +kernel) (by decide +kernel), kp_mem 1483 (by decide +kernel) (by decide +kernel), kp_mem 82 (by decide +kernel) (by decide +kernel), by decide, TX4, 15, rfl⟩
theorem cv_4_242 : kp_CV RX4 242 yX4_sluice cX4_sluice 9 none 0 4 := ⟨⟨kp_mem 1505 (by decide +kernel) (by decide +kernel), kp_mem 216 (by decide +kernel) (by decide +kernel), by decide +kernel⟩, kp_mem 1502 (by decide +kernel) (by decide +kernel), kp_mem 1504 (by decide +kernel) (by decide +kernel), kp_mem 83 (by decide +kernel) (by decide +kernel), by decide, TX4, 15, rfl⟩
theorem cv_4_245 : kp_CV RX4 245 yX4_sail cX4_sail 4 none 0 4 := ⟨⟨kp_mem 1518 (by decide +kernel) (by decide +kernel), kp_mem 216 (by decide +kernel) (by decide +kernel), by decide +kernel⟩, kp_mem 1515 (by decide +kernel) (by decide +kernel), kp_mem 1517 (by decide +kernel) (by decide +kernel), kp_mem 84 (by decide +kernel) (by decide +kernel), by decide, TX4, 15, rfl⟩
theorem cv_4_248 : kp_CV RX4 248 yX4_fail cX4_fail 2 none 1 4 := ⟨⟨kp_mem 1534 (by decide +kernel) (by decide +kernel), kp_mem 216 (by decide +kernel) (by decide +kernel), by decide +kernel⟩, kp_mem 1531 (by decide +kernel) (by decide +kernel), kp_mem 1533 (by decide +kernel) (by decide +kernel), kp_mem 85 (by decide +kernel) (by decide +kernel), by decide, TX4, 15, rfl⟩
theorem dX4_take_0 : decode cX4_take 0 = .ok (.aload_n 0, 1) := by decide +kernel
theorem dX4_take_1 : decode cX4_take 1 = .ok (.getfield 42, 3) := by decide +kernel
theorem dX4_take_4 : decode cX4_take 4 = .ok (.aload_n 0, 1) := by decide +kernel
theorem dX4_take_5 : decode cX4_take 5 = .ok (.getfield 145, 3) := by decide +kernel
theorem dX4_take_8 : decode cX4_take 8 = .ok (.invokevirtual 148, 3) := by decide +kernel
theorem dX4_take_11 : decode cX4_take 11 = .ok (.istore_n 1, 1) := by decide +kernel
theorem dX4_take_12 : decode cX4_take 12 = .ok (.aload_n 0, 1) := by decide +kernel
theorem dX4_take_13 : decode cX4_take 13 = .ok (.dup, 1) := by decide +kernel
theorem dX4_take_14 : decode cX4_take 14 = .ok (.getfield 145, 3) := by decide +kernel
theorem dX4_take_17 : decode cX4_take 17 = .ok (.iconst 1, 1) := by decide +kernel
theorem dX4_take_18 : decode cX4_take 18 = .ok (.iadd, 1) := by decide +kernel
theorem dX4_take_19 : decode cX4_take 19 = .ok (.putfield 145, 3) := by decide +kernel
theorem dX4_take_22 : decode cX4_take 22 = .ok (.iload_n 1, 1) := by decide +kernel
theorem dX4_take_23 : decode cX4_take 23 = .ok (.ireturn, 1) := by decide +kernel
def wX4_take (a0 : Nat) (S : kp_S) (post : Int32 → kp_S → Prop) : Prop :=
  ∃ b1 : Nat, kp_R S 809 a0 = some b1 ∧
  wX0_get b1 (kp_I S 810 a0) S (fun y3 T2 =>
  ∀ T4 : kp_S, T4 = kp_sI T2 810 a0 ((kp_I T2 810 a0) + 1) →
  post y3 T4)
set_option maxHeartbeats 4000000 in
set_option maxRecDepth 100000 in
theorem c_X4_take (l : Launch) (D : va_G) (cy : Nat → ClassId) (ad : (Nat → Nat) × (Nat → Nat)) (S : kp_S) (a0 : Nat) (post : Int32 → kp_S → Prop) (hS : kp_ok S) (f_a0 : kp_is S a0 4) (hw : wX4_take a0 S post) : kp_M l yX4_take cX4_take 2 (some .int) { frames := 1, cells := 0, slots := 0, locals := 21 } D cy ad S [.ref a0] 0 0 (fun A => kp_Qi D cy A S post) := by
  refine kp_start (own := RX4) (by decide) rfl (Nat.le_of_ble_eq_true rfl) hS ?_
  intro p e s m below meth c A ls X hr hlocks hname h hl
  have hle : kp_le S S := kp_le.rf
  have hl : lv_has ls 2 [(0, .ref a0)] := hl
  unfold wX4_take at hw
  have h : kp_H D cy A S s.heap s.heap [] := h
  revert h
  intro h
  refine lv_aload_n X.1 X.2.1 dX4_take_0 rfl (lv_at hl 0 rfl) ?_
  obtain ⟨b1, e_b1, hw⟩ := hw
  have f_b1 := h.2.2.2.rf (c := 4) (k := 9) f_a0 (by decide) (by decide) e_b1 (t := 0) rfl
  refine kp_get X h f_a0 fp_4_42.l (v := .ref b1) (congrArg va_rf e_b1) dX4_take_1 ?_
  refine lv_aload_n X.1 X.2.1 dX4_take_4 rfl (lv_at hl 0 rfl) ?_
  refine kp_get X h f_a0 fp_4_145.l (v := .int (kp_I S 810 a0)) rfl dX4_take_5 ?_
  refine kp_calli X h (kp_runV (rm := { frames := 0, cells := 0, slots := 0, locals := 0 }) (mc := 0) (ms := 0) (rest := []) (Qc := fun A => kp_Qi D cy A S _) X h (c_X0_get l D cy ad S b1 (kp_I S 810 a0) _ h.2.2.2 f_b1 hw) f_b1 cv_4_148 ⟨by decide, by decide, rfl, rfl, by decide, by decide⟩ rfl hl.1 rfl (Nat.le_of_ble_eq_true rfl) dX4_take_8) (fun y3 T2 hw l_T2 H locs h => ?_)
  have f_a0 := l_T2.is f_a0
  have f_b1 := l_T2.is f_b1
  have hle := hle.tr l_T2
  refine lv_istore_n (lv' := [(1, .int y3), (0, .ref a0)]) X.1 X.2.1 dX4_take_11 rfl hl (by decide) rfl (fun ls hl => ?_)
  refine lv_aload_n X.1 X.2.1 dX4_take_12 rfl (lv_at hl 1 rfl) ?_
  refine lv_dup X.1 X.2.1 dX4_take_13 rfl ?_
  refine kp_get X h f_a0 fp_4_145.l (v := .int (kp_I T2 810 a0)) rfl dX4_take_14 ?_
  refine lv_iconst (v := 1) X.1 X.2.1 dX4_take_17 (by decide) ?_
  refine lv_iadd X.1 X.2.1 dX4_take_18 ?_
  refine kp_putI X h f_a0 fp_4_145 rfl ⟨rfl, rfl⟩ dX4_take_19 (fun T4 e_T4 l_T4 H locs h => ?_)
  have hw := hw T4 e_T4
  have f_a0 := l_T4.is f_a0
  have f_b1 := l_T4.is f_b1
  have hle := hle.tr l_T4
  refine lv_iload_n X.1 X.2.1 dX4_take_22 rfl (lv_at hl 0 rfl) ?_
  exact kp_reti X hr hlocks h hle rfl hw dX4_take_23
theorem dX4_push_0 : decode cX4_push 0 = .ok (.aload_n 0, 1) := by decide +kernel
theorem dX4_push_1 : decode cX4_push 1 = .ok (.getfield 53, 3) := by decide +kernel
theorem dX4_push_4 : decode cX4_push 4 = .ok (.ifCond .lt 35, 3) := by decide +kernel
theorem dX4_push_7 : decode cX4_push 7 = .ok (.aload_n 0, 1) := by decide +kernel
theorem dX4_push_8 : decode cX4_push 8 = .ok (.getfield 53, 3) := by decide +kernel
theorem dX4_push_11 : decode cX4_push 11 = .ok (.aload_n 0, 1) := by decide +kernel
theorem dX4_push_12 : decode cX4_push 12 = .ok (.getfield 11, 3) := by decide +kernel
theorem dX4_push_15 : decode cX4_push 15 = .ok (.arraylength, 1) := by decide +kernel
theorem dX4_push_16 : decode cX4_push 16 = .ok (.if_icmp .ge 23, 3) := by decide +kernel
theorem dX4_push_19 : decode cX4_push 19 = .ok (.aload_n 0, 1) := by decide +kernel
theorem dX4_push_20 : decode cX4_push 20 = .ok (.getfield 11, 3) := by decide +kernel
theorem dX4_push_23 : decode cX4_push 23 = .ok (.aload_n 0, 1) := by decide +kernel
theorem dX4_push_24 : decode cX4_push 24 = .ok (.getfield 53, 3) := by decide +kernel
theorem dX4_push_27 : decode cX4_push 27 = .ok (.iload_n 1, 1) := by decide +kernel
theorem dX4_push_28 : decode cX4_push 28 = .ok (.iastore, 1) := by decide +kernel
theorem dX4_push_29 : decode cX4_push 29 = .ok (.aload_n 0, 1) := by decide +kernel
theorem dX4_push_30 : decode cX4_push 30 = .ok (.dup, 1) := by decide +kernel
theorem dX4_push_31 : decode cX4_push 31 = .ok (.getfield 53, 3) := by decide +kernel
theorem dX4_push_34 : decode cX4_push 34 = .ok (.iconst 1, 1) := by decide +kernel
theorem dX4_push_35 : decode cX4_push 35 = .ok (.iadd, 1) := by decide +kernel
theorem dX4_push_36 : decode cX4_push 36 = .ok (.putfield 53, 3) := by decide +kernel
theorem dX4_push_39 : decode cX4_push 39 = .ok (.return_, 1) := by decide +kernel
def wX4_push_b39 (a0 : Nat) (x1 : Int32)  (Sn : kp_S) (post : kp_S → Prop) : Prop :=
  post Sn
def wX4_push (a0 : Nat) (x1 : Int32) (S : kp_S) (post : kp_S → Prop) : Prop :=
  (((kp_I S 803 a0) < 0 →
  wX4_push_b39 a0 x1   S post) ∧ (¬ (kp_I S 803 a0) < 0 →
  ∃ b1 : Nat, kp_R S 802 a0 = some b1 ∧
  (((nI (kp_N S b1)) ≤ (kp_I S 803 a0) →
  wX4_push_b39 a0 x1   S post) ∧ (¬ (nI (kp_N S b1)) ≤ (kp_I S 803 a0) →
  vp_in (kp_I S 803 a0) (kp_N S b1) ∧ ∀ T2 : kp_S, T2 = kp_sA S b1 (upd (kp_A S b1) ((kp_I S 803 a0).toNatClampNeg) x1) →
  ∀ T3 : kp_S, T3 = kp_sI T2 803 a0 ((kp_I T2 803 a0) + 1) →
  wX4_push_b39 a0 x1   T3 post))))
set_option maxHeartbeats 4000000 in
set_option maxRecDepth 100000 in
theorem c_X4_push (l : Launch) (D : va_G) (cy : Nat → ClassId) (ad : (Nat → Nat) × (Nat → Nat)) (S : kp_S) (a0 : Nat) (x1 : Int32) (post : kp_S → Prop) (hS : kp_ok S) (f_a0 : kp_is S a0 4) (hw : wX4_push a0 x1 S post) : kp_M l yX4_push cX4_push 2 none { frames := 0, cells := 0, slots := 0, locals := 0 } D cy ad S [.ref a0, .int x1] 0 0 (fun A => kp_Qv D cy A S post) := by
  refine kp_start (own := RX4) (by decide) rfl (Nat.le_of_ble_eq_true rfl) hS ?_
  intro p e s m below meth c A ls X hr hlocks hname h hl
  have hle : kp_le S S := kp_le.rf
  have hl : lv_has ls 2 [(0, .ref a0), (1, .int x1)] := hl
  have j39 : ∀  (Sn : kp_S) (H : Heap) (locs : List Loc) (ls : Array Slot), lv_has ls 2 [] → kp_H D cy A Sn s.heap H locs → kp_le S Sn → kp_is Sn a0 4 → wX4_push_b39 a0 x1   Sn post → W p l e { frames := 0, cells := 0, slots := 0, locals := 0 } s m ([.ref a0, .int x1] : List Value).toArray below meth c H locs 0 0 (MQ below (kp_Qv D cy A S post) ([.ref a0, .int x1] : List Value).toArray s 0 0 A) (F0 m 39 ls []) := by
    intro  Sn H locs ls hl h hle f_a0 hw
    unfold wX4_push_b39 at hw
    exact kp_retv X hr hlocks h hle hw dX4_push_39
  unfold wX4_push at hw
  have h : kp_H D cy A S s.heap s.heap [] := h
  revert h
  intro h
  refine lv_aload_n X.1 X.2.1 dX4_push_0 rfl (lv_at hl 0 rfl) ?_
  refine kp_get X h f_a0 fp_4_53.l (v := .int (kp_I S 803 a0)) rfl dX4_push_1 ?_
  refine lv_if_lt (tgt := 39) X.1 X.2.1 dX4_push_4 (by decide) (fun c5 => ?_) (fun c5 => ?_)
  · have hw := hw.1 c5
    exact j39  S _ _ ls (lv_sub hl [] rfl) h hle f_a0 hw
  · have hw := hw.2 c5
    refine lv_aload_n X.1 X.2.1 dX4_push_7 rfl (lv_at hl 0 rfl) ?_
    refine kp_get X h f_a0 fp_4_53.l (v := .int (kp_I S 803 a0)) rfl dX4_push_8 ?_
    refine lv_aload_n X.1 X.2.1 dX4_push_11 rfl (lv_at hl 0 rfl) ?_
    obtain ⟨b1, e_b1, hw⟩ := hw
    have f_b1 := h.2.2.2.rf (c := 4) (k := 2) f_a0 (by decide) (by decide) e_b1 (t := 14) rfl
    refine kp_get X h f_a0 ff_4_11.l (v := .ref b1) (congrArg va_rf e_b1) dX4_push_12 ?_
    refine kp_alen X h f_b1 (by decide) dX4_push_15 ?_
    refine lv_icmp_ge (tgt := 39) X.1 X.2.1 dX4_push_16 (by decide) (fun c4 => ?_) (fun c4 => ?_)
    · have hw := hw.1 c4
      exact j39  S _ _ ls (lv_sub hl [] rfl) h hle f_a0 hw
    · have hw := hw.2 c4
      refine lv_aload_n X.1 X.2.1 dX4_push_19 rfl (lv_at hl 0 rfl) ?_
      refine kp_get X h f_a0 ff_4_11.l (v := .ref b1) (congrArg va_rf e_b1) dX4_push_20 ?_
      refine lv_aload_n X.1 X.2.1 dX4_push_23 rfl (lv_at hl 0 rfl) ?_
      refine kp_get X h f_a0 fp_4_53.l (v := .int (kp_I S 803 a0)) rfl dX4_push_24 ?_
      refine lv_iload_n X.1 X.2.1 dX4_push_27 rfl (lv_at hl 1 rfl) ?_
      obtain ⟨hi, hw⟩ := hw
      refine kp_iast X h f_b1 hi dX4_push_28 (fun T2 e_T2 l_T2 H locs h => ?_)
      have hw := hw T2 e_T2
      have f_a0 := l_T2.is f_a0
      have f_b1 := l_T2.is f_b1
      have hle := hle.tr l_T2
      have e_b1 : kp_R T2 802 a0 = some b1 := by rw [e_T2]; exact e_b1
      refine lv_aload_n X.1 X.2.1 dX4_push_29 rfl (lv_at hl 0 rfl) ?_
      refine lv_dup X.1 X.2.1 dX4_push_30 rfl ?_
      refine kp_get X h f_a0 fp_4_53.l (v := .int (kp_I T2 803 a0)) rfl dX4_push_31 ?_
      refine lv_iconst (v := 1) X.1 X.2.1 dX4_push_34 (by decide) ?_
      refine lv_iadd X.1 X.2.1 dX4_push_35 ?_
      refine kp_putI X h f_a0 fp_4_53 rfl ⟨rfl, rfl⟩ dX4_push_36 (fun T3 e_T3 l_T3 H locs h => ?_)
      have hw := hw T3 e_T3
      have f_a0 := l_T3.is f_a0
      have f_b1 := l_T3.is f_b1
      have hle := hle.tr l_T3
      have e_b1 : kp_R T3 802 a0 = some b1 := by rw [e_T3]; exact e_b1
      exact j39  T3 _ _ ls (lv_sub hl [] rfl) h hle f_a0 hw
theorem dX4_pop_0 : decode cX4_pop 0 = .ok (.aload_n 0, 1) := by decide +kernel
theorem dX4_pop_1 : decode cX4_pop 1 = .ok (.getfield 53, 3) := by decide +kernel
theorem dX4_pop_4 : decode cX4_pop 4 = .ok (.ifCond .le 15, 3) := by decide +kernel
theorem dX4_pop_7 : decode cX4_pop 7 = .ok (.aload_n 0, 1) := by decide +kernel
theorem dX4_pop_8 : decode cX4_pop 8 = .ok (.getfield 53, 3) := by decide +kernel
theorem dX4_pop_11 : decode cX4_pop 11 = .ok (.aload_n 0, 1) := by decide +kernel
theorem dX4_pop_12 : decode cX4_pop 12 = .ok (.getfield 11, 3) := by decide +kernel
theorem dX4_pop_15 : decode cX4_pop 15 = .ok (.arraylength, 1) := by decide +kernel
theorem dX4_pop_16 : decode cX4_pop 16 = .ok (.if_icmp .le 5, 3) := by decide +kernel
theorem dX4_pop_19 : decode cX4_pop 19 = .ok (.iconst 0, 1) := by decide +kernel
theorem dX4_pop_20 : decode cX4_pop 20 = .ok (.ireturn, 1) := by decide +kernel
theorem dX4_pop_21 : decode cX4_pop 21 = .ok (.aload_n 0, 1) := by decide +kernel
theorem dX4_pop_22 : decode cX4_pop 22 = .ok (.dup, 1) := by decide +kernel
theorem dX4_pop_23 : decode cX4_pop 23 = .ok (.getfield 53, 3) := by decide +kernel
theorem dX4_pop_26 : decode cX4_pop 26 = .ok (.iconst 1, 1) := by decide +kernel
theorem dX4_pop_27 : decode cX4_pop 27 = .ok (.isub, 1) := by decide +kernel
theorem dX4_pop_28 : decode cX4_pop 28 = .ok (.putfield 53, 3) := by decide +kernel
theorem dX4_pop_31 : decode cX4_pop 31 = .ok (.aload_n 0, 1) := by decide +kernel
theorem dX4_pop_32 : decode cX4_pop 32 = .ok (.getfield 11, 3) := by decide +kernel
theorem dX4_pop_35 : decode cX4_pop 35 = .ok (.aload_n 0, 1) := by decide +kernel
theorem dX4_pop_36 : decode cX4_pop 36 = .ok (.getfield 53, 3) := by decide +kernel
theorem dX4_pop_39 : decode cX4_pop 39 = .ok (.iaload, 1) := by decide +kernel
theorem dX4_pop_40 : decode cX4_pop 40 = .ok (.ireturn, 1) := by decide +kernel
def wX4_pop_b19 (a0 : Nat)  (Sn : kp_S) (post : Int32 → kp_S → Prop) : Prop :=
  post 0 Sn
def wX4_pop (a0 : Nat) (S : kp_S) (post : Int32 → kp_S → Prop) : Prop :=
  (((kp_I S 803 a0) ≤ 0 →
  wX4_pop_b19 a0   S post) ∧ (¬ (kp_I S 803 a0) ≤ 0 →
  ∃ b1 : Nat, kp_R S 802 a0 = some b1 ∧
  (((kp_I S 803 a0) ≤ (nI (kp_N S b1)) →
  ∀ T2 : kp_S, T2 = kp_sI S 803 a0 ((kp_I S 803 a0) - 1) →
  vp_in (kp_I T2 803 a0) (kp_N T2 b1) ∧
  post (kp_A T2 b1 (kp_I T2 803 a0).toNatClampNeg) T2) ∧ (¬ (kp_I S 803 a0) ≤ (nI (kp_N S b1)) →
  wX4_pop_b19 a0   S post))))
set_option maxHeartbeats 4000000 in
set_option maxRecDepth 100000 in
theorem c_X4_pop (l : Launch) (D : va_G) (cy : Nat → ClassId) (ad : (Nat → Nat) × (Nat → Nat)) (S : kp_S) (a0 : Nat) (post : Int32 → kp_S → Prop) (hS : kp_ok S) (f_a0 : kp_is S a0 4) (hw : wX4_pop a0 S post) : kp_M l yX4_pop cX4_pop 1 (some .int) { frames := 0, cells := 0, slots := 0, locals := 0 } D cy ad S [.ref a0] 0 0 (fun A => kp_Qi D cy A S post) := by
  refine kp_start (own := RX4) (by decide) rfl (Nat.le_of_ble_eq_true rfl) hS ?_
  intro p e s m below meth c A ls X hr hlocks hname h hl
  have hle : kp_le S S := kp_le.rf
  have hl : lv_has ls 1 [(0, .ref a0)] := hl
  have j19 : ∀  (Sn : kp_S) (H : Heap) (locs : List Loc) (ls : Array Slot), lv_has ls 1 [] → kp_H D cy A Sn s.heap H locs → kp_le S Sn → kp_is Sn a0 4 → wX4_pop_b19 a0   Sn post → W p l e { frames := 0, cells := 0, slots := 0, locals := 0 } s m ([.ref a0] : List Value).toArray below meth c H locs 0 0 (MQ below (kp_Qi D cy A S post) ([.ref a0] : List Value).toArray s 0 0 A) (F0 m 19 ls []) := by
    intro  Sn H locs ls hl h hle f_a0 hw
    unfold wX4_pop_b19 at hw
    refine lv_iconst (v := 0) X.1 X.2.1 dX4_pop_19 (by decide) ?_
    exact kp_reti X hr hlocks h hle rfl hw dX4_pop_20
  unfold wX4_pop at hw
  have h : kp_H D cy A S s.heap s.heap [] := h
  revert h
  intro h
  refine lv_aload_n X.1 X.2.1 dX4_pop_0 rfl (lv_at hl 0 rfl) ?_
  refine kp_get X h f_a0 fp_4_53.l (v := .int (kp_I S 803 a0)) rfl dX4_pop_1 ?_
  refine lv_if_le (tgt := 19) X.1 X.2.1 dX4_pop_4 (by decide) (fun c4 => ?_) (fun c4 => ?_)
  · have hw := hw.1 c4
    exact j19  S _ _ ls (lv_sub hl [] rfl) h hle f_a0 hw
  · have hw := hw.2 c4
    refine lv_aload_n X.1 X.2.1 dX4_pop_7 rfl (lv_at hl 0 rfl) ?_
    refine kp_get X h f_a0 fp_4_53.l (v := .int (kp_I S 803 a0)) rfl dX4_pop_8 ?_
    refine lv_aload_n X.1 X.2.1 dX4_pop_11 rfl (lv_at hl 0 rfl) ?_
    obtain ⟨b1, e_b1, hw⟩ := hw
    have f_b1 := h.2.2.2.rf (c := 4) (k := 2) f_a0 (by decide) (by decide) e_b1 (t := 14) rfl
    refine kp_get X h f_a0 ff_4_11.l (v := .ref b1) (congrArg va_rf e_b1) dX4_pop_12 ?_
    refine kp_alen X h f_b1 (by decide) dX4_pop_15 ?_
    refine lv_icmp_le (tgt := 21) X.1 X.2.1 dX4_pop_16 (by decide) (fun c3 => ?_) (fun c3 => ?_)
    · have hw := hw.1 c3
      refine lv_aload_n X.1 X.2.1 dX4_pop_21 rfl (lv_at hl 0 rfl) ?_
      refine lv_dup X.1 X.2.1 dX4_pop_22 rfl ?_
      refine kp_get X h f_a0 fp_4_53.l (v := .int (kp_I S 803 a0)) rfl dX4_pop_23 ?_
      refine lv_iconst (v := 1) X.1 X.2.1 dX4_pop_26 (by decide) ?_
      refine lv_isub X.1 X.2.1 dX4_pop_27 ?_
      refine kp_putI X h f_a0 fp_4_53 rfl ⟨rfl, rfl⟩ dX4_pop_28 (fun T2 e_T2 l_T2 H locs h => ?_)
      have hw := hw T2 e_T2
      have f_a0 := l_T2.is f_a0
      have f_b1 := l_T2.is f_b1
      have hle := hle.tr l_T2
      have e_b1 : kp_R T2 802 a0 = some b1 := by rw [e_T2]; exact e_b1
      refine lv_aload_n X.1 X.2.1 dX4_pop_31 rfl (lv_at hl 0 rfl) ?_
      refine kp_get X h f_a0 ff_4_11.l (v := .ref b1) (congrArg va_rf e_b1) dX4_pop_32 ?_
      refine lv_aload_n X.1 X.2.1 dX4_pop_35 rfl (lv_at hl 0 rfl) ?_
      refine kp_get X h f_a0 fp_4_53.l (v := .int (kp_I T2 803 a0)) rfl dX4_pop_36 ?_
      obtain ⟨hi, hw⟩ := hw
      refine kp_iald X h f_b1 hi dX4_pop_39 ?_
      exact kp_reti X hr hlocks h hle rfl hw dX4_pop_40
    · have hw := hw.2 c3
      exact j19  S _ _ ls (lv_sub hl [] rfl) h hle f_a0 hw
theorem dX4_peek_0 : decode cX4_peek 0 = .ok (.aload_n 0, 1) := by decide +kernel
theorem dX4_peek_1 : decode cX4_peek 1 = .ok (.getfield 53, 3) := by decide +kernel
theorem dX4_peek_4 : decode cX4_peek 4 = .ok (.iconst 1, 1) := by decide +kernel
theorem dX4_peek_5 : decode cX4_peek 5 = .ok (.isub, 1) := by decide +kernel
theorem dX4_peek_6 : decode cX4_peek 6 = .ok (.iload_n 1, 1) := by decide +kernel
theorem dX4_peek_7 : decode cX4_peek 7 = .ok (.isub, 1) := by decide +kernel
theorem dX4_peek_8 : decode cX4_peek 8 = .ok (.istore_n 2, 1) := by decide +kernel
theorem dX4_peek_9 : decode cX4_peek 9 = .ok (.iload_n 2, 1) := by decide +kernel
theorem dX4_peek_10 : decode cX4_peek 10 = .ok (.ifCond .lt 21, 3) := by decide +kernel
theorem dX4_peek_13 : decode cX4_peek 13 = .ok (.iload_n 2, 1) := by decide +kernel
theorem dX4_peek_14 : decode cX4_peek 14 = .ok (.aload_n 0, 1) := by decide +kernel
theorem dX4_peek_15 : decode cX4_peek 15 = .ok (.getfield 11, 3) := by decide +kernel
theorem dX4_peek_18 : decode cX4_peek 18 = .ok (.arraylength, 1) := by decide +kernel
theorem dX4_peek_19 : decode cX4_peek 19 = .ok (.if_icmp .ge 12, 3) := by decide +kernel
theorem dX4_peek_22 : decode cX4_peek 22 = .ok (.aload_n 0, 1) := by decide +kernel
theorem dX4_peek_23 : decode cX4_peek 23 = .ok (.getfield 11, 3) := by decide +kernel
theorem dX4_peek_26 : decode cX4_peek 26 = .ok (.iload_n 2, 1) := by decide +kernel
theorem dX4_peek_27 : decode cX4_peek 27 = .ok (.iaload, 1) := by decide +kernel
theorem dX4_peek_28 : decode cX4_peek 28 = .ok (.goto 4, 3) := by decide +kernel
theorem dX4_peek_31 : decode cX4_peek 31 = .ok (.iconst 0, 1) := by decide +kernel
theorem dX4_peek_32 : decode cX4_peek 32 = .ok (.ireturn, 1) := by decide +kernel
def wX4_peek_b32 (a0 : Nat) (x1 : Int32) (xt0 : Int32)  (Sn : kp_S) (post : Int32 → kp_S → Prop) : Prop :=
  post xt0 Sn
def wX4_peek_b31 (a0 : Nat) (x1 : Int32)  (Sn : kp_S) (post : Int32 → kp_S → Prop) : Prop :=
  wX4_peek_b32 a0 x1 0  Sn post
def wX4_peek (a0 : Nat) (x1 : Int32) (S : kp_S) (post : Int32 → kp_S → Prop) : Prop :=
  ∀ y1 : Int32, y1 = (((kp_I S 803 a0) - 1) - x1) →
  ((y1 < 0 →
  wX4_peek_b31 a0 x1   S post) ∧ (¬ y1 < 0 →
  ∃ b2 : Nat, kp_R S 802 a0 = some b2 ∧
  (((nI (kp_N S b2)) ≤ y1 →
  wX4_peek_b31 a0 x1   S post) ∧ (¬ (nI (kp_N S b2)) ≤ y1 →
  vp_in y1 (kp_N S b2) ∧
  wX4_peek_b32 a0 x1 (kp_A S b2 y1.toNatClampNeg)  S post))))
set_option maxHeartbeats 4000000 in
set_option maxRecDepth 100000 in
theorem c_X4_peek (l : Launch) (D : va_G) (cy : Nat → ClassId) (ad : (Nat → Nat) × (Nat → Nat)) (S : kp_S) (a0 : Nat) (x1 : Int32) (post : Int32 → kp_S → Prop) (hS : kp_ok S) (f_a0 : kp_is S a0 4) (hw : wX4_peek a0 x1 S post) : kp_M l yX4_peek cX4_peek 3 (some .int) { frames := 0, cells := 0, slots := 0, locals := 0 } D cy ad S [.ref a0, .int x1] 0 0 (fun A => kp_Qi D cy A S post) := by
  refine kp_start (own := RX4) (by decide) rfl (Nat.le_of_ble_eq_true rfl) hS ?_
  intro p e s m below meth c A ls X hr hlocks hname h hl
  have hle : kp_le S S := kp_le.rf
  have hl : lv_has ls 3 [(0, .ref a0), (1, .int x1)] := hl
  have j32 : ∀ (xt0 : Int32) (Sn : kp_S) (H : Heap) (locs : List Loc) (ls : Array Slot), lv_has ls 3 [] → kp_H D cy A Sn s.heap H locs → kp_le S Sn → kp_is Sn a0 4 → wX4_peek_b32 a0 x1 xt0  Sn post → W p l e { frames := 0, cells := 0, slots := 0, locals := 0 } s m ([.ref a0, .int x1] : List Value).toArray below meth c H locs 0 0 (MQ below (kp_Qi D cy A S post) ([.ref a0, .int x1] : List Value).toArray s 0 0 A) (F0 m 32 ls [.int xt0]) := by
    intro xt0 Sn H locs ls hl h hle f_a0 hw
    unfold wX4_peek_b32 at hw
    exact kp_reti X hr hlocks h hle rfl hw dX4_peek_32
  have j31 : ∀  (Sn : kp_S) (H : Heap) (locs : List Loc) (ls : Array Slot), lv_has ls 3 [] → kp_H D cy A Sn s.heap H locs → kp_le S Sn → kp_is Sn a0 4 → wX4_peek_b31 a0 x1   Sn post → W p l e { frames := 0, cells := 0, slots := 0, locals := 0 } s m ([.ref a0, .int x1] : List Value).toArray below meth c H locs 0 0 (MQ below (kp_Qi D cy A S post) ([.ref a0, .int x1] : List Value).toArray s 0 0 A) (F0 m 31 ls []) := by
    intro  Sn H locs ls hl h hle f_a0 hw
    unfold wX4_peek_b31 at hw
    refine lv_iconst (v := 0) X.1 X.2.1 dX4_peek_31 (by decide) ?_
    exact j32 0 Sn H locs ls (lv_sub hl [] rfl) h hle f_a0 hw
  unfold wX4_peek at hw
  have h : kp_H D cy A S s.heap s.heap [] := h
  revert h
  intro h
  refine lv_aload_n X.1 X.2.1 dX4_peek_0 rfl (lv_at hl 0 rfl) ?_
  refine kp_get X h f_a0 fp_4_53.l (v := .int (kp_I S 803 a0)) rfl dX4_peek_1 ?_
  refine lv_iconst (v := 1) X.1 X.2.1 dX4_peek_4 (by decide) ?_
  refine lv_isub X.1 X.2.1 dX4_peek_5 ?_
  refine lv_iload_n X.1 X.2.1 dX4_peek_6 rfl (lv_at hl 1 rfl) ?_
  refine lv_isub X.1 X.2.1 dX4_peek_7 ?_
  refine lv_topi (fun y1 e_y1 => ?_)
  have hw := hw y1 e_y1
  refine lv_istore_n (lv' := [(2, .int y1), (0, .ref a0), (1, .int x1)]) X.1 X.2.1 dX4_peek_8 rfl hl (by decide) rfl (fun ls hl => ?_)
  refine lv_iload_n X.1 X.2.1 dX4_peek_9 rfl (lv_at hl 0 rfl) ?_
  refine lv_if_lt (tgt := 31) X.1 X.2.1 dX4_peek_10 (by decide) (fun c4 => ?_) (fun c4 => ?_)
  · have hw := hw.1 c4
    exact j31  S _ _ ls (lv_sub hl [] rfl) h hle f_a0 hw
  · have hw := hw.2 c4
    refine lv_iload_n X.1 X.2.1 dX4_peek_13 rfl (lv_at hl 0 rfl) ?_
    refine lv_aload_n X.1 X.2.1 dX4_peek_14 rfl (lv_at hl 1 rfl) ?_
    obtain ⟨b2, e_b2, hw⟩ := hw
    have f_b2 := h.2.2.2.rf (c := 4) (k := 2) f_a0 (by decide) (by decide) e_b2 (t := 14) rfl
    refine kp_get X h f_a0 ff_4_11.l (v := .ref b2) (congrArg va_rf e_b2) dX4_peek_15 ?_
    refine kp_alen X h f_b2 (by decide) dX4_peek_18 ?_
    refine lv_icmp_ge (tgt := 31) X.1 X.2.1 dX4_peek_19 (by decide) (fun c3 => ?_) (fun c3 => ?_)
    · have hw := hw.1 c3
      exact j31  S _ _ ls (lv_sub hl [] rfl) h hle f_a0 hw
    · have hw := hw.2 c3
      refine lv_aload_n X.1 X.2.1 dX4_peek_22 rfl (lv_at hl 1 rfl) ?_
      refine kp_get X h f_a0 ff_4_11.l (v := .ref b2) (congrArg va_rf e_b2) dX4_peek_23 ?_
      refine lv_iload_n X.1 X.2.1 dX4_peek_26 rfl (lv_at hl 0 rfl) ?_
      obtain ⟨hi, hw⟩ := hw
      refine kp_iald X h f_b2 hi dX4_peek_27 ?_
      refine lv_goto (tgt := 32) X.1 X.2.1 dX4_peek_28 (by decide) ?_
      exact j32 (kp_A S b2 y1.toNatClampNeg) S _ _ ls (lv_sub hl [] rfl) h hle f_a0 hw
theorem dX4_frame_0 : decode cX4_frame 0 = .ok (.aload_n 0, 1) := by decide +kernel
theorem dX4_frame_1 : decode cX4_frame 1 = .ok (.getfield 17, 3) := by decide +kernel
theorem dX4_frame_4 : decode cX4_frame 4 = .ok (.aload_n 0, 1) := by decide +kernel
theorem dX4_frame_5 : decode cX4_frame 5 = .ok (.getfield 57, 3) := by decide +kernel
theorem dX4_frame_8 : decode cX4_frame 8 = .ok (.ifCond .le 24, 3) := by decide +kernel
theorem dX4_frame_11 : decode cX4_frame 11 = .ok (.aload_n 0, 1) := by decide +kernel
theorem dX4_frame_12 : decode cX4_frame 12 = .ok (.getfield 57, 3) := by decide +kernel
theorem dX4_frame_15 : decode cX4_frame 15 = .ok (.aload_n 0, 1) := by decide +kernel
theorem dX4_frame_16 : decode cX4_frame 16 = .ok (.getfield 17, 3) := by decide +kernel
theorem dX4_frame_19 : decode cX4_frame 19 = .ok (.arraylength, 1) := by decide +kernel
theorem dX4_frame_20 : decode cX4_frame 20 = .ok (.if_icmp .gt 12, 3) := by decide +kernel
theorem dX4_frame_23 : decode cX4_frame 23 = .ok (.aload_n 0, 1) := by decide +kernel
theorem dX4_frame_24 : decode cX4_frame 24 = .ok (.getfield 57, 3) := by decide +kernel
theorem dX4_frame_27 : decode cX4_frame 27 = .ok (.iconst 1, 1) := by decide +kernel
theorem dX4_frame_28 : decode cX4_frame 28 = .ok (.isub, 1) := by decide +kernel
theorem dX4_frame_29 : decode cX4_frame 29 = .ok (.goto 4, 3) := by decide +kernel
theorem dX4_frame_32 : decode cX4_frame 32 = .ok (.iconst 0, 1) := by decide +kernel
theorem dX4_frame_33 : decode cX4_frame 33 = .ok (.aaload, 1) := by decide +kernel
theorem dX4_frame_34 : decode cX4_frame 34 = .ok (.areturn, 1) := by decide +kernel
def wX4_frame_b33 (a0 : Nat) (xt0 : Int32) (at1 : Nat)  (Sn : kp_S) (post : Nat → kp_S → Prop) : Prop :=
  vp_in xt0 (kp_N Sn at1) ∧ ∃ b1001 : Nat, kp_C Sn at1 xt0.toNatClampNeg = some b1001 ∧
  post b1001 Sn
def wX4_frame_b32 (a0 : Nat) (at0 : Nat)  (Sn : kp_S) (post : Nat → kp_S → Prop) : Prop :=
  wX4_frame_b33 a0 0 at0  Sn post
def wX4_frame (a0 : Nat) (S : kp_S) (post : Nat → kp_S → Prop) : Prop :=
  ∃ b1 : Nat, kp_R S 804 a0 = some b1 ∧
  (((kp_I S 805 a0) ≤ 0 →
  wX4_frame_b32 a0 b1  S post) ∧ (¬ (kp_I S 805 a0) ≤ 0 →
  (((nI (kp_N S b1)) < (kp_I S 805 a0) →
  wX4_frame_b32 a0 b1  S post) ∧ (¬ (nI (kp_N S b1)) < (kp_I S 805 a0) →
  wX4_frame_b33 a0 ((kp_I S 805 a0) - 1) b1  S post))))
set_option maxHeartbeats 4000000 in
set_option maxRecDepth 100000 in
theorem c_X4_frame (l : Launch) (D : va_G) (cy : Nat → ClassId) (ad : (Nat → Nat) × (Nat → Nat)) (S : kp_S) (a0 : Nat) (post : Nat → kp_S → Prop) (hS : kp_ok S) (f_a0 : kp_is S a0 4) (hw : wX4_frame a0 S post) : kp_M l yX4_frame cX4_frame 1 (some (.object "LockKeepers$Frame")) { frames := 0, cells := 0, slots := 0, locals := 0 } D cy ad S [.ref a0] 0 0 (fun A => kp_Qr D cy A S 3 post) := by
  refine kp_start (own := RX4) (by decide) rfl (Nat.le_of_ble_eq_true rfl) hS ?_
  intro p e s m below meth c A ls X hr hlocks hname h hl
  have hle : kp_le S S := kp_le.rf
  have hl : lv_has ls 1 [(0, .ref a0)] := hl
  have j33 : ∀ (xt0 : Int32) (at1 : Nat) (Sn : kp_S) (H : Heap) (locs : List Loc) (ls : Array Slot), lv_has ls 1 [] → kp_H D cy A Sn s.heap H locs → kp_le S Sn → kp_is Sn at1 17 → kp_is Sn a0 4 → wX4_frame_b33 a0 xt0 at1  Sn post → W p l e { frames := 0, cells := 0, slots := 0, locals := 0 } s m ([.ref a0] : List Value).toArray below meth c H locs 0 0 (MQ below (kp_Qr D cy A S 3 post) ([.ref a0] : List Value).toArray s 0 0 A) (F0 m 33 ls [.int xt0, .ref at1]) := by
    intro xt0 at1 Sn H locs ls hl h hle f_at1 f_a0 hw
    unfold wX4_frame_b33 at hw
    obtain ⟨hi, b1001, e_b1001, hw⟩ := hw
    have f_b1001 := h.2.2.2.rc f_at1 (by decide) e_b1001 (t := 3) rfl
    refine kp_aldF X h f_at1 hi e_b1001 dX4_frame_33 ?_
    exact kp_retr X hr hlocks h hle f_b1001 hw dX4_frame_34
  have j32 : ∀ (at0 : Nat) (Sn : kp_S) (H : Heap) (locs : List Loc) (ls : Array Slot), lv_has ls 1 [] → kp_H D cy A Sn s.heap H locs → kp_le S Sn → kp_is Sn at0 17 → kp_is Sn a0 4 → wX4_frame_b32 a0 at0  Sn post → W p l e { frames := 0, cells := 0, slots := 0, locals := 0 } s m ([.ref a0] : List Value).toArray below meth c H locs 0 0 (MQ below (kp_Qr D cy A S 3 post) ([.ref a0] : List Value).toArray s 0 0 A) (F0 m 32 ls [.ref at0]) := by
    intro at0 Sn H locs ls hl h hle f_at0 f_a0 hw
    unfold wX4_frame_b32 at hw
    refine lv_iconst (v := 0) X.1 X.2.1 dX4_frame_32 (by decide) ?_
    exact j33 0 at0 Sn H locs ls (lv_sub hl [] rfl) h hle f_at0 f_a0 hw
  unfold wX4_frame at hw
  have h : kp_H D cy A S s.heap s.heap [] := h
  revert h
  intro h
  refine lv_aload_n X.1 X.2.1 dX4_frame_0 rfl (lv_at hl 0 rfl) ?_
  obtain ⟨b1, e_b1, hw⟩ := hw
  have f_b1 := h.2.2.2.rf (c := 4) (k := 4) f_a0 (by decide) (by decide) e_b1 (t := 17) rfl
  refine kp_get X h f_a0 ff_4_17.l (v := .ref b1) (congrArg va_rf e_b1) dX4_frame_1 ?_
  refine lv_aload_n X.1 X.2.1 dX4_frame_4 rfl (lv_at hl 0 rfl) ?_
  refine kp_get X h f_a0 fp_4_57.l (v := .int (kp_I S 805 a0)) rfl dX4_frame_5 ?_
  refine lv_if_le (tgt := 32) X.1 X.2.1 dX4_frame_8 (by decide) (fun c3 => ?_) (fun c3 => ?_)
  · have hw := hw.1 c3
    exact j32 b1 S _ _ ls (lv_sub hl [] rfl) h hle f_b1 f_a0 hw
  · have hw := hw.2 c3
    refine lv_aload_n X.1 X.2.1 dX4_frame_11 rfl (lv_at hl 0 rfl) ?_
    refine kp_get X h f_a0 fp_4_57.l (v := .int (kp_I S 805 a0)) rfl dX4_frame_12 ?_
    refine lv_aload_n X.1 X.2.1 dX4_frame_15 rfl (lv_at hl 0 rfl) ?_
    refine kp_get X h f_a0 ff_4_17.l (v := .ref b1) (congrArg va_rf e_b1) dX4_frame_16 ?_
    refine kp_alen X h f_b1 (by decide) dX4_frame_19 ?_
    refine lv_icmp_gt (tgt := 32) X.1 X.2.1 dX4_frame_20 (by decide) (fun c2 => ?_) (fun c2 => ?_)
    · have hw := hw.1 c2
      exact j32 b1 S _ _ ls (lv_sub hl [] rfl) h hle f_b1 f_a0 hw
    · have hw := hw.2 c2
      refine lv_aload_n X.1 X.2.1 dX4_frame_23 rfl (lv_at hl 0 rfl) ?_
      refine kp_get X h f_a0 fp_4_57.l (v := .int (kp_I S 805 a0)) rfl dX4_frame_24 ?_
      refine lv_iconst (v := 1) X.1 X.2.1 dX4_frame_27 (by decide) ?_
      refine lv_isub X.1 X.2.1 dX4_frame_28 ?_
      refine lv_goto (tgt := 33) X.1 X.2.1 dX4_frame_29 (by decide) ?_
      exact j33 ((kp_I S 805 a0) - 1) b1 S _ _ ls (lv_sub hl [] rfl) h hle f_b1 f_a0 hw
theorem dX4_top_0 : decode cX4_top 0 = .ok (.aload_n 0, 1) := by decide +kernel
theorem dX4_top_1 : decode cX4_top 1 = .ok (.getfield 23, 3) := by decide +kernel
theorem dX4_top_4 : decode cX4_top 4 = .ok (.aload_n 0, 1) := by decide +kernel
theorem dX4_top_5 : decode cX4_top 5 = .ok (.getfield 60, 3) := by decide +kernel
theorem dX4_top_8 : decode cX4_top 8 = .ok (.ifCond .le 24, 3) := by decide +kernel
theorem dX4_top_11 : decode cX4_top 11 = .ok (.aload_n 0, 1) := by decide +kernel
theorem dX4_top_12 : decode cX4_top 12 = .ok (.getfield 60, 3) := by decide +kernel
theorem dX4_top_15 : decode cX4_top 15 = .ok (.aload_n 0, 1) := by decide +kernel
theorem dX4_top_16 : decode cX4_top 16 = .ok (.getfield 23, 3) := by decide +kernel
theorem dX4_top_19 : decode cX4_top 19 = .ok (.arraylength, 1) := by decide +kernel
theorem dX4_top_20 : decode cX4_top 20 = .ok (.if_icmp .gt 12, 3) := by decide +kernel
theorem dX4_top_23 : decode cX4_top 23 = .ok (.aload_n 0, 1) := by decide +kernel
theorem dX4_top_24 : decode cX4_top 24 = .ok (.getfield 60, 3) := by decide +kernel
theorem dX4_top_27 : decode cX4_top 27 = .ok (.iconst 1, 1) := by decide +kernel
theorem dX4_top_28 : decode cX4_top 28 = .ok (.isub, 1) := by decide +kernel
theorem dX4_top_29 : decode cX4_top 29 = .ok (.goto 4, 3) := by decide +kernel
theorem dX4_top_32 : decode cX4_top 32 = .ok (.iconst 0, 1) := by decide +kernel
theorem dX4_top_33 : decode cX4_top 33 = .ok (.aaload, 1) := by decide +kernel
theorem dX4_top_34 : decode cX4_top 34 = .ok (.areturn, 1) := by decide +kernel
def wX4_top_b33 (a0 : Nat) (xt0 : Int32) (at1 : Nat)  (Sn : kp_S) (post : Nat → kp_S → Prop) : Prop :=
  vp_in xt0 (kp_N Sn at1) ∧ ∃ b1001 : Nat, kp_C Sn at1 xt0.toNatClampNeg = some b1001 ∧
  post b1001 Sn
def wX4_top_b32 (a0 : Nat) (at0 : Nat)  (Sn : kp_S) (post : Nat → kp_S → Prop) : Prop :=
  wX4_top_b33 a0 0 at0  Sn post
def wX4_top (a0 : Nat) (S : kp_S) (post : Nat → kp_S → Prop) : Prop :=
  ∃ b1 : Nat, kp_R S 806 a0 = some b1 ∧
  (((kp_I S 807 a0) ≤ 0 →
  wX4_top_b32 a0 b1  S post) ∧ (¬ (kp_I S 807 a0) ≤ 0 →
  (((nI (kp_N S b1)) < (kp_I S 807 a0) →
  wX4_top_b32 a0 b1  S post) ∧ (¬ (nI (kp_N S b1)) < (kp_I S 807 a0) →
  wX4_top_b33 a0 ((kp_I S 807 a0) - 1) b1  S post))))
set_option maxHeartbeats 4000000 in
set_option maxRecDepth 100000 in
theorem c_X4_top (l : Launch) (D : va_G) (cy : Nat → ClassId) (ad : (Nat → Nat) × (Nat → Nat)) (S : kp_S) (a0 : Nat) (post : Nat → kp_S → Prop) (hS : kp_ok S) (f_a0 : kp_is S a0 4) (hw : wX4_top a0 S post) : kp_M l yX4_top cX4_top 1 (some (.object "LockKeepers$Part")) { frames := 0, cells := 0, slots := 0, locals := 0 } D cy ad S [.ref a0] 0 0 (fun A => kp_Qr D cy A S 6 post) := by
  refine kp_start (own := RX4) (by decide) rfl (Nat.le_of_ble_eq_true rfl) hS ?_
  intro p e s m below meth c A ls X hr hlocks hname h hl
  have hle : kp_le S S := kp_le.rf
  have hl : lv_has ls 1 [(0, .ref a0)] := hl
  have j33 : ∀ (xt0 : Int32) (at1 : Nat) (Sn : kp_S) (H : Heap) (locs : List Loc) (ls : Array Slot), lv_has ls 1 [] → kp_H D cy A Sn s.heap H locs → kp_le S Sn → kp_is Sn at1 18 → kp_is Sn a0 4 → wX4_top_b33 a0 xt0 at1  Sn post → W p l e { frames := 0, cells := 0, slots := 0, locals := 0 } s m ([.ref a0] : List Value).toArray below meth c H locs 0 0 (MQ below (kp_Qr D cy A S 6 post) ([.ref a0] : List Value).toArray s 0 0 A) (F0 m 33 ls [.int xt0, .ref at1]) := by
    intro xt0 at1 Sn H locs ls hl h hle f_at1 f_a0 hw
    unfold wX4_top_b33 at hw
    obtain ⟨hi, b1001, e_b1001, hw⟩ := hw
    have f_b1001 := h.2.2.2.rc f_at1 (by decide) e_b1001 (t := 6) rfl
    refine kp_aldP X h f_at1 hi e_b1001 dX4_top_33 ?_
    exact kp_retr X hr hlocks h hle f_b1001 hw dX4_top_34
  have j32 : ∀ (at0 : Nat) (Sn : kp_S) (H : Heap) (locs : List Loc) (ls : Array Slot), lv_has ls 1 [] → kp_H D cy A Sn s.heap H locs → kp_le S Sn → kp_is Sn at0 18 → kp_is Sn a0 4 → wX4_top_b32 a0 at0  Sn post → W p l e { frames := 0, cells := 0, slots := 0, locals := 0 } s m ([.ref a0] : List Value).toArray below meth c H locs 0 0 (MQ below (kp_Qr D cy A S 6 post) ([.ref a0] : List Value).toArray s 0 0 A) (F0 m 32 ls [.ref at0]) := by
    intro at0 Sn H locs ls hl h hle f_at0 f_a0 hw
    unfold wX4_top_b32 at hw
    refine lv_iconst (v := 0) X.1 X.2.1 dX4_top_32 (by decide) ?_
    exact j33 0 at0 Sn H locs ls (lv_sub hl [] rfl) h hle f_at0 f_a0 hw
  unfold wX4_top at hw
  have h : kp_H D cy A S s.heap s.heap [] := h
  revert h
  intro h
  refine lv_aload_n X.1 X.2.1 dX4_top_0 rfl (lv_at hl 0 rfl) ?_
  obtain ⟨b1, e_b1, hw⟩ := hw
  have f_b1 := h.2.2.2.rf (c := 4) (k := 6) f_a0 (by decide) (by decide) e_b1 (t := 18) rfl
  refine kp_get X h f_a0 ff_4_23.l (v := .ref b1) (congrArg va_rf e_b1) dX4_top_1 ?_
  refine lv_aload_n X.1 X.2.1 dX4_top_4 rfl (lv_at hl 0 rfl) ?_
  refine kp_get X h f_a0 fp_4_60.l (v := .int (kp_I S 807 a0)) rfl dX4_top_5 ?_
  refine lv_if_le (tgt := 32) X.1 X.2.1 dX4_top_8 (by decide) (fun c3 => ?_) (fun c3 => ?_)
  · have hw := hw.1 c3
    exact j32 b1 S _ _ ls (lv_sub hl [] rfl) h hle f_b1 f_a0 hw
  · have hw := hw.2 c3
    refine lv_aload_n X.1 X.2.1 dX4_top_11 rfl (lv_at hl 0 rfl) ?_
    refine kp_get X h f_a0 fp_4_60.l (v := .int (kp_I S 807 a0)) rfl dX4_top_12 ?_
    refine lv_aload_n X.1 X.2.1 dX4_top_15 rfl (lv_at hl 0 rfl) ?_
    refine kp_get X h f_a0 ff_4_23.l (v := .ref b1) (congrArg va_rf e_b1) dX4_top_16 ?_
    refine kp_alen X h f_b1 (by decide) dX4_top_19 ?_
    refine lv_icmp_gt (tgt := 32) X.1 X.2.1 dX4_top_20 (by decide) (fun c2 => ?_) (fun c2 => ?_)
    · have hw := hw.1 c2
      exact j32 b1 S _ _ ls (lv_sub hl [] rfl) h hle f_b1 f_a0 hw
    · have hw := hw.2 c2
      refine lv_aload_n X.1 X.2.1 dX4_top_23 rfl (lv_at hl 0 rfl) ?_
      refine kp_get X h f_a0 fp_4_60.l (v := .int (kp_I S 807 a0)) rfl dX4_top_24 ?_
      refine lv_iconst (v := 1) X.1 X.2.1 dX4_top_27 (by decide) ?_
      refine lv_isub X.1 X.2.1 dX4_top_28 ?_
      refine lv_goto (tgt := 33) X.1 X.2.1 dX4_top_29 (by decide) ?_
      exact j33 ((kp_I S 807 a0) - 1) b1 S _ _ ls (lv_sub hl [] rfl) h hle f_b1 f_a0 hw
theorem dX4_begin_0 : decode cX4_begin 0 = .ok (.aload_n 0, 1) := by decide +kernel
theorem dX4_begin_1 : decode cX4_begin 1 = .ok (.getfield 60, 3) := by decide +kernel
theorem dX4_begin_4 : decode cX4_begin 4 = .ok (.aload_n 0, 1) := by decide +kernel
theorem dX4_begin_5 : decode cX4_begin 5 = .ok (.getfield 23, 3) := by decide +kernel
theorem dX4_begin_8 : decode cX4_begin 8 = .ok (.arraylength, 1) := by decide +kernel
theorem dX4_begin_9 : decode cX4_begin 9 = .ok (.if_icmp .ge 13, 3) := by decide +kernel
theorem dX4_begin_12 : decode cX4_begin 12 = .ok (.aload_n 0, 1) := by decide +kernel
theorem dX4_begin_13 : decode cX4_begin 13 = .ok (.dup, 1) := by decide +kernel
theorem dX4_begin_14 : decode cX4_begin 14 = .ok (.getfield 60, 3) := by decide +kernel
theorem dX4_begin_17 : decode cX4_begin 17 = .ok (.iconst 1, 1) := by decide +kernel
theorem dX4_begin_18 : decode cX4_begin 18 = .ok (.iadd, 1) := by decide +kernel
theorem dX4_begin_19 : decode cX4_begin 19 = .ok (.putfield 60, 3) := by decide +kernel
theorem dX4_begin_22 : decode cX4_begin 22 = .ok (.aload_n 0, 1) := by decide +kernel
theorem dX4_begin_23 : decode cX4_begin 23 = .ok (.invokevirtual 149, 3) := by decide +kernel
theorem dX4_begin_26 : decode cX4_begin 26 = .ok (.astore_n 3, 1) := by decide +kernel
theorem dX4_begin_27 : decode cX4_begin 27 = .ok (.aload_n 3, 1) := by decide +kernel
theorem dX4_begin_28 : decode cX4_begin 28 = .ok (.iload_n 1, 1) := by decide +kernel
theorem dX4_begin_29 : decode cX4_begin 29 = .ok (.putfield 153, 3) := by decide +kernel
theorem dX4_begin_32 : decode cX4_begin 32 = .ok (.aload_n 3, 1) := by decide +kernel
theorem dX4_begin_33 : decode cX4_begin 33 = .ok (.iconst 0, 1) := by decide +kernel
theorem dX4_begin_34 : decode cX4_begin 34 = .ok (.putfield 156, 3) := by decide +kernel
theorem dX4_begin_37 : decode cX4_begin 37 = .ok (.aload_n 3, 1) := by decide +kernel
theorem dX4_begin_38 : decode cX4_begin 38 = .ok (.iload_n 2, 1) := by decide +kernel
theorem dX4_begin_39 : decode cX4_begin 39 = .ok (.putfield 159, 3) := by decide +kernel
theorem dX4_begin_42 : decode cX4_begin 42 = .ok (.aload_n 3, 1) := by decide +kernel
theorem dX4_begin_43 : decode cX4_begin 43 = .ok (.aload_n 0, 1) := by decide +kernel
theorem dX4_begin_44 : decode cX4_begin 44 = .ok (.getfield 53, 3) := by decide +kernel
theorem dX4_begin_47 : decode cX4_begin 47 = .ok (.putfield 162, 3) := by decide +kernel
theorem dX4_begin_50 : decode cX4_begin 50 = .ok (.aload_n 3, 1) := by decide +kernel
theorem dX4_begin_51 : decode cX4_begin 51 = .ok (.aload_n 0, 1) := by decide +kernel
theorem dX4_begin_52 : decode cX4_begin 52 = .ok (.getfield 63, 3) := by decide +kernel
theorem dX4_begin_55 : decode cX4_begin 55 = .ok (.putfield 163, 3) := by decide +kernel
theorem dX4_begin_58 : decode cX4_begin 58 = .ok (.aload_n 3, 1) := by decide +kernel
theorem dX4_begin_59 : decode cX4_begin 59 = .ok (.areturn, 1) := by decide +kernel
def wX4_begin_b22 (a0 : Nat) (x1 : Int32) (x2 : Int32)  (Sn : kp_S) (post : Nat → kp_S → Prop) : Prop :=
  wX4_top a0 Sn (fun b1002 T1001 =>
  ∀ T1003 : kp_S, T1003 = kp_sI T1001 1200 b1002 x1 →
  ∀ T1004 : kp_S, T1004 = kp_sI T1003 1201 b1002 0 →
  ∀ T1005 : kp_S, T1005 = kp_sI T1004 1202 b1002 x2 →
  ∀ T1006 : kp_S, T1006 = kp_sI T1005 1203 b1002 (kp_I T1005 803 a0) →
  ∀ T1007 : kp_S, T1007 = kp_sI T1006 1207 b1002 (kp_I T1006 812 a0) →
  post b1002 T1007)
def wX4_begin (a0 : Nat) (x1 : Int32) (x2 : Int32) (S : kp_S) (post : Nat → kp_S → Prop) : Prop :=
  ∃ b1 : Nat, kp_R S 806 a0 = some b1 ∧
  (((nI (kp_N S b1)) ≤ (kp_I S 807 a0) →
  wX4_begin_b22 a0 x1 x2   S post) ∧ (¬ (nI (kp_N S b1)) ≤ (kp_I S 807 a0) →
  ∀ T2 : kp_S, T2 = kp_sI S 807 a0 ((kp_I S 807 a0) + 1) →
  wX4_begin_b22 a0 x1 x2   T2 post))
set_option maxHeartbeats 4000000 in
set_option maxRecDepth 100000 in
theorem c_X4_begin (l : Launch) (D : va_G) (cy : Nat → ClassId) (ad : (Nat → Nat) × (Nat → Nat)) (S : kp_S) (a0 : Nat) (x1 : Int32) (x2 : Int32) (post : Nat → kp_S → Prop) (hS : kp_ok S) (f_a0 : kp_is S a0 4) (hw : wX4_begin a0 x1 x2 S post) : kp_M l yX4_begin cX4_begin 4 (some (.object "LockKeepers$Part")) { frames := 1, cells := 0, slots := 0, locals := 20 } D cy ad S [.ref a0, .int x1, .int x2] 0 0 (fun A => kp_Qr D cy A S 6 post) := by
  refine kp_start (own := RX4) (by decide) rfl (Nat.le_of_ble_eq_true rfl) hS ?_
  intro p e s m below meth c A ls X hr hlocks hname h hl
  have hle : kp_le S S := kp_le.rf
  have hl : lv_has ls 4 [(0, .ref a0), (1, .int x1), (2, .int x2)] := hl
  have j22 : ∀  (Sn : kp_S) (H : Heap) (locs : List Loc) (ls : Array Slot), lv_has ls 4 [(0, .ref a0), (1, .int x1), (2, .int x2)] → kp_H D cy A Sn s.heap H locs → kp_le S Sn → kp_is Sn a0 4 → wX4_begin_b22 a0 x1 x2   Sn post → W p l e { frames := 1, cells := 0, slots := 0, locals := 20 } s m ([.ref a0, .int x1, .int x2] : List Value).toArray below meth c H locs 0 0 (MQ below (kp_Qr D cy A S 6 post) ([.ref a0, .int x1, .int x2] : List Value).toArray s 0 0 A) (F0 m 22 ls []) := by
    intro  Sn H locs ls hl h hle f_a0 hw
    unfold wX4_begin_b22 at hw
    refine lv_aload_n X.1 X.2.1 dX4_begin_22 rfl (lv_at hl 0 rfl) ?_
    refine kp_callr X h (kp_runV (rm := { frames := 0, cells := 0, slots := 0, locals := 0 }) (mc := 0) (ms := 0) (rest := []) (Qc := fun A => kp_Qr D cy A Sn 6 _) X h (c_X4_top l D cy ad Sn a0 _ h.2.2.2 f_a0 hw) f_a0 cv_4_149 ⟨by decide, by decide, rfl, rfl, by decide, by decide⟩ rfl hl.1 rfl (Nat.le_of_ble_eq_true rfl) dX4_begin_23) (fun b1002 T1001 hw l_T1001 f_b1002 H locs h => ?_)
    have f_a0 := l_T1001.is f_a0
    have hle := hle.tr l_T1001
    refine lv_astore_n (lv' := [(3, .ref b1002), (0, .ref a0), (1, .int x1), (2, .int x2)]) X.1 X.2.1 dX4_begin_26 rfl hl (by decide) rfl (fun ls hl => ?_)
    refine lv_aload_n X.1 X.2.1 dX4_begin_27 rfl (lv_at hl 0 rfl) ?_
    refine lv_iload_n X.1 X.2.1 dX4_begin_28 rfl (lv_at hl 2 rfl) ?_
    refine kp_putI X h f_b1002 fp_4_153 rfl ⟨rfl, rfl⟩ dX4_begin_29 (fun T1003 e_T1003 l_T1003 H locs h => ?_)
    have hw := hw T1003 e_T1003
    have f_a0 := l_T1003.is f_a0
    have f_b1002 := l_T1003.is f_b1002
    have hle := hle.tr l_T1003
    refine lv_aload_n X.1 X.2.1 dX4_begin_32 rfl (lv_at hl 0 rfl) ?_
    refine lv_iconst (v := 0) X.1 X.2.1 dX4_begin_33 (by decide) ?_
    refine kp_putI X h f_b1002 fp_4_156 rfl ⟨rfl, rfl⟩ dX4_begin_34 (fun T1004 e_T1004 l_T1004 H locs h => ?_)
    have hw := hw T1004 e_T1004
    have f_a0 := l_T1004.is f_a0
    have f_b1002 := l_T1004.is f_b1002
    have hle := hle.tr l_T1004
    refine lv_aload_n X.1 X.2.1 dX4_begin_37 rfl (lv_at hl 0 rfl) ?_
    refine lv_iload_n X.1 X.2.1 dX4_begin_38 rfl (lv_at hl 3 rfl) ?_
    refine kp_putI X h f_b1002 fp_4_159 rfl ⟨rfl, rfl⟩ dX4_begin_39 (fun T1005 e_T1005 l_T1005 H locs h => ?_)
    have hw := hw T1005 e_T1005
    have f_a0 := l_T1005.is f_a0
    have f_b1002 := l_T1005.is f_b1002
    have hle := hle.tr l_T1005
    refine lv_aload_n X.1 X.2.1 dX4_begin_42 rfl (lv_at hl 0 rfl) ?_
    refine lv_aload_n X.1 X.2.1 dX4_begin_43 rfl (lv_at hl 1 rfl) ?_
    refine kp_get X h f_a0 fp_4_53.l (v := .int (kp_I T1005 803 a0)) rfl dX4_begin_44 ?_
    refine kp_putI X h f_b1002 fp_4_162 rfl ⟨rfl, rfl⟩ dX4_begin_47 (fun T1006 e_T1006 l_T1006 H locs h => ?_)
    have hw := hw T1006 e_T1006
    have f_a0 := l_T1006.is f_a0
    have f_b1002 := l_T1006.is f_b1002
    have hle := hle.tr l_T1006
    refine lv_aload_n X.1 X.2.1 dX4_begin_50 rfl (lv_at hl 0 rfl) ?_
    refine lv_aload_n X.1 X.2.1 dX4_begin_51 rfl (lv_at hl 1 rfl) ?_
    refine kp_get X h f_a0 fp_4_63.l (v := .int (kp_I T1006 812 a0)) rfl dX4_begin_52 ?_
    refine kp_putI X h f_b1002 fp_4_163 rfl ⟨rfl, rfl⟩ dX4_begin_55 (fun T1007 e_T1007 l_T1007 H locs h => ?_)
    have hw := hw T1007 e_T1007
    have f_a0 := l_T1007.is f_a0
    have f_b1002 := l_T1007.is f_b1002
    have hle := hle.tr l_T1007
    refine lv_aload_n X.1 X.2.1 dX4_begin_58 rfl (lv_at hl 0 rfl) ?_
    exact kp_retr X hr hlocks h hle f_b1002 hw dX4_begin_59
  unfold wX4_begin at hw
  have h : kp_H D cy A S s.heap s.heap [] := h
  revert h
  intro h
  refine lv_aload_n X.1 X.2.1 dX4_begin_0 rfl (lv_at hl 0 rfl) ?_
  refine kp_get X h f_a0 fp_4_60.l (v := .int (kp_I S 807 a0)) rfl dX4_begin_1 ?_
  refine lv_aload_n X.1 X.2.1 dX4_begin_4 rfl (lv_at hl 0 rfl) ?_
  obtain ⟨b1, e_b1, hw⟩ := hw
  have f_b1 := h.2.2.2.rf (c := 4) (k := 6) f_a0 (by decide) (by decide) e_b1 (t := 18) rfl
  refine kp_get X h f_a0 ff_4_23.l (v := .ref b1) (congrArg va_rf e_b1) dX4_begin_5 ?_
  refine kp_alen X h f_b1 (by decide) dX4_begin_8 ?_
  refine lv_icmp_ge (tgt := 22) X.1 X.2.1 dX4_begin_9 (by decide) (fun c3 => ?_) (fun c3 => ?_)
  · have hw := hw.1 c3
    exact j22  S _ _ ls (lv_sub hl [0, 1, 2] rfl) h hle f_a0 hw
  · have hw := hw.2 c3
    refine lv_aload_n X.1 X.2.1 dX4_begin_12 rfl (lv_at hl 0 rfl) ?_
    refine lv_dup X.1 X.2.1 dX4_begin_13 rfl ?_
    refine kp_get X h f_a0 fp_4_60.l (v := .int (kp_I S 807 a0)) rfl dX4_begin_14 ?_
    refine lv_iconst (v := 1) X.1 X.2.1 dX4_begin_17 (by decide) ?_
    refine lv_iadd X.1 X.2.1 dX4_begin_18 ?_
    refine kp_putI X h f_a0 fp_4_60 rfl ⟨rfl, rfl⟩ dX4_begin_19 (fun T2 e_T2 l_T2 H locs h => ?_)
    have hw := hw T2 e_T2
    have f_a0 := l_T2.is f_a0
    have f_b1 := l_T2.is f_b1
    have hle := hle.tr l_T2
    have e_b1 : kp_R T2 806 a0 = some b1 := by rw [e_T2]; exact e_b1
    exact j22  T2 _ _ ls (lv_sub hl [0, 1, 2] rfl) h hle f_a0 hw
theorem dX4_spend_0 : decode cX4_spend 0 = .ok (.aload_n 0, 1) := by decide +kernel
theorem dX4_spend_1 : decode cX4_spend 1 = .ok (.getfield 69, 3) := by decide +kernel
theorem dX4_spend_4 : decode cX4_spend 4 = .ok (.ifCond .gt 10, 3) := by decide +kernel
theorem dX4_spend_7 : decode cX4_spend 7 = .ok (.aload_n 0, 1) := by decide +kernel
theorem dX4_spend_8 : decode cX4_spend 8 = .ok (.iconst 2, 1) := by decide +kernel
theorem dX4_spend_9 : decode cX4_spend 9 = .ok (.putfield 72, 3) := by decide +kernel
theorem dX4_spend_12 : decode cX4_spend 12 = .ok (.iconst 0, 1) := by decide +kernel
theorem dX4_spend_13 : decode cX4_spend 13 = .ok (.ireturn, 1) := by decide +kernel
theorem dX4_spend_14 : decode cX4_spend 14 = .ok (.aload_n 0, 1) := by decide +kernel
theorem dX4_spend_15 : decode cX4_spend 15 = .ok (.dup, 1) := by decide +kernel
theorem dX4_spend_16 : decode cX4_spend 16 = .ok (.getfield 69, 3) := by decide +kernel
theorem dX4_spend_19 : decode cX4_spend 19 = .ok (.iconst 1, 1) := by decide +kernel
theorem dX4_spend_20 : decode cX4_spend 20 = .ok (.isub, 1) := by decide +kernel
theorem dX4_spend_21 : decode cX4_spend 21 = .ok (.putfield 69, 3) := by decide +kernel
theorem dX4_spend_24 : decode cX4_spend 24 = .ok (.iconst 1, 1) := by decide +kernel
theorem dX4_spend_25 : decode cX4_spend 25 = .ok (.ireturn, 1) := by decide +kernel
def wX4_spend (a0 : Nat) (S : kp_S) (post : Int32 → kp_S → Prop) : Prop :=
  ((0 < (kp_I S 813 a0) →
  ∀ T1 : kp_S, T1 = kp_sI S 813 a0 ((kp_I S 813 a0) - 1) →
  post 1 T1) ∧ (¬ 0 < (kp_I S 813 a0) →
  ∀ T2 : kp_S, T2 = kp_sI S 814 a0 2 →
  post 0 T2))
set_option maxHeartbeats 4000000 in
set_option maxRecDepth 100000 in
theorem c_X4_spend (l : Launch) (D : va_G) (cy : Nat → ClassId) (ad : (Nat → Nat) × (Nat → Nat)) (S : kp_S) (a0 : Nat) (post : Int32 → kp_S → Prop) (hS : kp_ok S) (f_a0 : kp_is S a0 4) (hw : wX4_spend a0 S post) : kp_M l yX4_spend cX4_spend 1 (some .boolean) { frames := 0, cells := 0, slots := 0, locals := 0 } D cy ad S [.ref a0] 0 0 (fun A => kp_Qi D cy A S post) := by
  refine kp_start (own := RX4) (by decide) rfl (Nat.le_of_ble_eq_true rfl) hS ?_
  intro p e s m below meth c A ls X hr hlocks hname h hl
  have hle : kp_le S S := kp_le.rf
  have hl : lv_has ls 1 [(0, .ref a0)] := hl
  unfold wX4_spend at hw
  have h : kp_H D cy A S s.heap s.heap [] := h
  revert h
  intro h
  refine lv_aload_n X.1 X.2.1 dX4_spend_0 rfl (lv_at hl 0 rfl) ?_
  refine kp_get X h f_a0 fp_4_69.l (v := .int (kp_I S 813 a0)) rfl dX4_spend_1 ?_
  refine lv_if_gt (tgt := 14) X.1 X.2.1 dX4_spend_4 (by decide) (fun c3 => ?_) (fun c3 => ?_)
  · have hw := hw.1 c3
    refine lv_aload_n X.1 X.2.1 dX4_spend_14 rfl (lv_at hl 0 rfl) ?_
    refine lv_dup X.1 X.2.1 dX4_spend_15 rfl ?_
    refine kp_get X h f_a0 fp_4_69.l (v := .int (kp_I S 813 a0)) rfl dX4_spend_16 ?_
    refine lv_iconst (v := 1) X.1 X.2.1 dX4_spend_19 (by decide) ?_
    refine lv_isub X.1 X.2.1 dX4_spend_20 ?_
    refine kp_putI X h f_a0 fp_4_69 rfl ⟨rfl, rfl⟩ dX4_spend_21 (fun T1 e_T1 l_T1 H locs h => ?_)
    have hw := hw T1 e_T1
    have f_a0 := l_T1.is f_a0
    have hle := hle.tr l_T1
    refine lv_iconst (v := 1) X.1 X.2.1 dX4_spend_24 (by decide) ?_
    exact kp_reti X hr hlocks h hle (by decide) hw dX4_spend_25
  · have hw := hw.2 c3
    refine lv_aload_n X.1 X.2.1 dX4_spend_7 rfl (lv_at hl 0 rfl) ?_
    refine lv_iconst (v := 2) X.1 X.2.1 dX4_spend_8 (by decide) ?_
    refine kp_putI X h f_a0 fp_4_72 rfl ⟨rfl, rfl⟩ dX4_spend_9 (fun T2 e_T2 l_T2 H locs h => ?_)
    have hw := hw T2 e_T2
    have f_a0 := l_T2.is f_a0
    have hle := hle.tr l_T2
    refine lv_iconst (v := 0) X.1 X.2.1 dX4_spend_12 (by decide) ?_
    exact kp_reti X hr hlocks h hle (by decide) hw dX4_spend_13
theorem dX4_trouble_0 : decode cX4_trouble 0 = .ok (.aload_n 0, 1) := by decide +kernel
theorem dX4_trouble_1 : decode cX4_trouble 1 = .ok (.getfield 38, 3) := by decide +kernel
theorem dX4_trouble_4 : decode cX4_trouble 4 = .ok (.bipush 12, 2) := by decide +kernel
theorem dX4_trouble_6 : decode cX4_trouble 6 = .ok (.invokevirtual 166, 3) := by decide +kernel
theorem dX4_trouble_9 : decode cX4_trouble 9 = .ok (.aload_n 0, 1) := by decide +kernel
theorem dX4_trouble_10 : decode cX4_trouble 10 = .ok (.getfield 38, 3) := by decide +kernel
theorem dX4_trouble_13 : decode cX4_trouble 13 = .ok (.bipush 7, 2) := by decide +kernel
theorem dX4_trouble_15 : decode cX4_trouble 15 = .ok (.iload_n 1, 1) := by decide +kernel
theorem dX4_trouble_16 : decode cX4_trouble 16 = .ok (.invokevirtual 169, 3) := by decide +kernel
theorem dX4_trouble_19 : decode cX4_trouble 19 = .ok (.aload_n 0, 1) := by decide +kernel
theorem dX4_trouble_20 : decode cX4_trouble 20 = .ok (.getfield 30, 3) := by decide +kernel
theorem dX4_trouble_23 : decode cX4_trouble 23 = .ok (.iconst 4, 1) := by decide +kernel
theorem dX4_trouble_24 : decode cX4_trouble 24 = .ok (.iload_n 1, 1) := by decide +kernel
theorem dX4_trouble_25 : decode cX4_trouble 25 = .ok (.invokevirtual 75, 3) := by decide +kernel
theorem dX4_trouble_28 : decode cX4_trouble 28 = .ok (.aload_n 0, 1) := by decide +kernel
theorem dX4_trouble_29 : decode cX4_trouble 29 = .ok (.getfield 30, 3) := by decide +kernel
theorem dX4_trouble_32 : decode cX4_trouble 32 = .ok (.aload_n 0, 1) := by decide +kernel
theorem dX4_trouble_33 : decode cX4_trouble 33 = .ok (.getfield 63, 3) := by decide +kernel
theorem dX4_trouble_36 : decode cX4_trouble 36 = .ok (.putfield 114, 3) := by decide +kernel
theorem dX4_trouble_39 : decode cX4_trouble 39 = .ok (.aload_n 0, 1) := by decide +kernel
theorem dX4_trouble_40 : decode cX4_trouble 40 = .ok (.getfield 30, 3) := by decide +kernel
theorem dX4_trouble_43 : decode cX4_trouble 43 = .ok (.aload_n 0, 1) := by decide +kernel
theorem dX4_trouble_44 : decode cX4_trouble 44 = .ok (.getfield 66, 3) := by decide +kernel
theorem dX4_trouble_47 : decode cX4_trouble 47 = .ok (.putfield 117, 3) := by decide +kernel
theorem dX4_trouble_50 : decode cX4_trouble 50 = .ok (.return_, 1) := by decide +kernel
def wX4_trouble (a0 : Nat) (x1 : Int32) (S : kp_S) (post : kp_S → Prop) : Prop :=
  ∃ b1 : Nat, kp_R S 801 a0 = some b1 ∧
  wX7_count b1 12 S (fun T2 =>
  ∃ b3 : Nat, kp_R T2 801 a0 = some b3 ∧
  wX7_write b3 7 x1 T2 (fun T4 =>
  ∃ b5 : Nat, kp_R T4 808 a0 = some b5 ∧
  wX10_become b5 4 x1 T4 (fun T6 =>
  ∃ b7 : Nat, kp_R T6 808 a0 = some b7 ∧
  ∀ T8 : kp_S, T8 = kp_sI T6 2002 b7 (kp_I T6 812 a0) →
  ∀ T9 : kp_S, T9 = kp_sI T8 2003 b7 (kp_I T8 811 a0) →
  post T9)))
set_option maxHeartbeats 4000000 in
set_option maxRecDepth 100000 in
theorem c_X4_trouble (l : Launch) (D : va_G) (cy : Nat → ClassId) (ad : (Nat → Nat) × (Nat → Nat)) (S : kp_S) (a0 : Nat) (x1 : Int32) (post : kp_S → Prop) (hS : kp_ok S) (f_a0 : kp_is S a0 4) (hw : wX4_trouble a0 x1 S post) : kp_M l yX4_trouble cX4_trouble 2 none { frames := 1, cells := 0, slots := 0, locals := 23 } D cy ad S [.ref a0, .int x1] 0 0 (fun A => kp_Qv D cy A S post) := by
  refine kp_start (own := RX4) (by decide) rfl (Nat.le_of_ble_eq_true rfl) hS ?_
  intro p e s m below meth c A ls X hr hlocks hname h hl
  have hle : kp_le S S := kp_le.rf
  have hl : lv_has ls 2 [(0, .ref a0), (1, .int x1)] := hl
  unfold wX4_trouble at hw
  have h : kp_H D cy A S s.heap s.heap [] := h
  revert h
  intro h
  refine lv_aload_n X.1 X.2.1 dX4_trouble_0 rfl (lv_at hl 0 rfl) ?_
  obtain ⟨b1, e_b1, hw⟩ := hw
  have f_b1 := h.2.2.2.rf (c := 4) (k := 1) f_a0 (by decide) (by decide) e_b1 (t := 7) rfl
  refine kp_get X h f_a0 ff_4_38.l (v := .ref b1) (congrArg va_rf e_b1) dX4_trouble_1 ?_
  refine lv_bipush (v := 12) X.1 X.2.1 dX4_trouble_4 (by decide) ?_
  refine kp_callv X h (kp_runV (rm := { frames := 0, cells := 0, slots := 0, locals := 0 }) (mc := 0) (ms := 0) (rest := []) (Qc := fun A => kp_Qv D cy A S _) X h (c_X7_count l D cy ad S b1 12 _ h.2.2.2 f_b1 hw) f_b1 cv_4_166 ⟨by decide, by decide, rfl, rfl, by decide, by decide⟩ rfl hl.1 rfl (Nat.le_of_ble_eq_true rfl) dX4_trouble_6) (fun T2 hw l_T2 H locs h => ?_)
  have f_a0 := l_T2.is f_a0
  have f_b1 := l_T2.is f_b1
  have hle := hle.tr l_T2
  refine lv_aload_n X.1 X.2.1 dX4_trouble_9 rfl (lv_at hl 0 rfl) ?_
  obtain ⟨b3, e_b3, hw⟩ := hw
  have f_b3 := h.2.2.2.rf (c := 4) (k := 1) f_a0 (by decide) (by decide) e_b3 (t := 7) rfl
  refine kp_get X h f_a0 ff_4_38.l (v := .ref b3) (congrArg va_rf e_b3) dX4_trouble_10 ?_
  refine lv_bipush (v := 7) X.1 X.2.1 dX4_trouble_13 (by decide) ?_
  refine lv_iload_n X.1 X.2.1 dX4_trouble_15 rfl (lv_at hl 1 rfl) ?_
  refine kp_callv X h (kp_runV (rm := { frames := 0, cells := 0, slots := 0, locals := 0 }) (mc := 0) (ms := 0) (rest := []) (Qc := fun A => kp_Qv D cy A T2 _) X h (c_X7_write l D cy ad T2 b3 7 x1 _ h.2.2.2 f_b3 hw) f_b3 cv_4_169 ⟨by decide, by decide, rfl, rfl, by decide, by decide⟩ rfl hl.1 rfl (Nat.le_of_ble_eq_true rfl) dX4_trouble_16) (fun T4 hw l_T4 H locs h => ?_)
  have f_a0 := l_T4.is f_a0
  have f_b1 := l_T4.is f_b1
  have f_b3 := l_T4.is f_b3
  have hle := hle.tr l_T4
  refine lv_aload_n X.1 X.2.1 dX4_trouble_19 rfl (lv_at hl 0 rfl) ?_
  obtain ⟨b5, e_b5, hw⟩ := hw
  have f_b5 := h.2.2.2.rf (c := 4) (k := 8) f_a0 (by decide) (by decide) e_b5 (t := 10) rfl
  refine kp_get X h f_a0 ff_4_30.l (v := .ref b5) (congrArg va_rf e_b5) dX4_trouble_20 ?_
  refine lv_iconst (v := 4) X.1 X.2.1 dX4_trouble_23 (by decide) ?_
  refine lv_iload_n X.1 X.2.1 dX4_trouble_24 rfl (lv_at hl 1 rfl) ?_
  refine kp_callv X h (kp_runV (rm := { frames := 0, cells := 0, slots := 0, locals := 0 }) (mc := 0) (ms := 0) (rest := []) (Qc := fun A => kp_Qv D cy A T4 _) X h (c_X10_become l D cy ad T4 b5 4 x1 _ h.2.2.2 f_b5 hw) f_b5 cv_4_75 ⟨by decide, by decide, rfl, rfl, by decide, by decide⟩ rfl hl.1 rfl (Nat.le_of_ble_eq_true rfl) dX4_trouble_25) (fun T6 hw l_T6 H locs h => ?_)
  have f_a0 := l_T6.is f_a0
  have f_b1 := l_T6.is f_b1
  have f_b3 := l_T6.is f_b3
  have f_b5 := l_T6.is f_b5
  have hle := hle.tr l_T6
  refine lv_aload_n X.1 X.2.1 dX4_trouble_28 rfl (lv_at hl 0 rfl) ?_
  obtain ⟨b7, e_b7, hw⟩ := hw
  have f_b7 := h.2.2.2.rf (c := 4) (k := 8) f_a0 (by decide) (by decide) e_b7 (t := 10) rfl
  refine kp_get X h f_a0 ff_4_30.l (v := .ref b7) (congrArg va_rf e_b7) dX4_trouble_29 ?_
  refine lv_aload_n X.1 X.2.1 dX4_trouble_32 rfl (lv_at hl 0 rfl) ?_
  refine kp_get X h f_a0 fp_4_63.l (v := .int (kp_I T6 812 a0)) rfl dX4_trouble_33 ?_
  refine kp_putI X h f_b7 fp_4_114 rfl ⟨rfl, rfl⟩ dX4_trouble_36 (fun T8 e_T8 l_T8 H locs h => ?_)
  have hw := hw T8 e_T8
  have f_a0 := l_T8.is f_a0
  have f_b1 := l_T8.is f_b1
  have f_b3 := l_T8.is f_b3
  have f_b5 := l_T8.is f_b5
  have f_b7 := l_T8.is f_b7
  have hle := hle.tr l_T8
  have e_b7 : kp_R T8 808 a0 = some b7 := by rw [e_T8]; exact e_b7
  refine lv_aload_n X.1 X.2.1 dX4_trouble_39 rfl (lv_at hl 0 rfl) ?_
  refine kp_get X h f_a0 ff_4_30.l (v := .ref b7) (congrArg va_rf e_b7) dX4_trouble_40 ?_
  refine lv_aload_n X.1 X.2.1 dX4_trouble_43 rfl (lv_at hl 0 rfl) ?_
  refine kp_get X h f_a0 fp_4_66.l (v := .int (kp_I T8 811 a0)) rfl dX4_trouble_44 ?_
  refine kp_putI X h f_b7 fp_4_117 rfl ⟨rfl, rfl⟩ dX4_trouble_47 (fun T9 e_T9 l_T9 H locs h => ?_)
  have hw := hw T9 e_T9
  have f_a0 := l_T9.is f_a0
  have f_b1 := l_T9.is f_b1
  have f_b3 := l_T9.is f_b3
  have f_b5 := l_T9.is f_b5
  have f_b7 := l_T9.is f_b7
  have hle := hle.tr l_T9
  have e_b7 : kp_R T9 808 a0 = some b7 := by rw [e_T9]; exact e_b7
  exact kp_retv X hr hlocks h hle hw dX4_trouble_50
theorem dX4_workSingle_0 : decode cX4_workSingle 0 = .ok (.iload_n 1, 1) := by decide +kernel
theorem dX4_workSingle_1 : decode cX4_workSingle 1 = .ok (.tableswitch 127 1 6 #[39, 50, 68, 82, 96, 108], 39) := by decide +kernel
theorem dX4_workSingle_40 : decode cX4_workSingle 40 = .ok (.aload_n 0, 1) := by decide +kernel
theorem dX4_workSingle_41 : decode cX4_workSingle 41 = .ok (.aload_n 0, 1) := by decide +kernel
theorem dX4_workSingle_42 : decode cX4_workSingle 42 = .ok (.invokevirtual 123, 3) := by decide +kernel
theorem dX4_workSingle_45 : decode cX4_workSingle 45 = .ok (.invokevirtual 85, 3) := by decide +kernel
theorem dX4_workSingle_48 : decode cX4_workSingle 48 = .ok (.goto 96, 3) := by decide +kernel
theorem dX4_workSingle_51 : decode cX4_workSingle 51 = .ok (.aload_n 0, 1) := by decide +kernel
theorem dX4_workSingle_52 : decode cX4_workSingle 52 = .ok (.aload_n 0, 1) := by decide +kernel
theorem dX4_workSingle_53 : decode cX4_workSingle 53 = .ok (.invokevirtual 172, 3) := by decide +kernel
theorem dX4_workSingle_56 : decode cX4_workSingle 56 = .ok (.aload_n 0, 1) := by decide +kernel
theorem dX4_workSingle_57 : decode cX4_workSingle 57 = .ok (.invokevirtual 123, 3) := by decide +kernel
theorem dX4_workSingle_60 : decode cX4_workSingle 60 = .ok (.invokevirtual 176, 3) := by decide +kernel
theorem dX4_workSingle_63 : decode cX4_workSingle 63 = .ok (.invokevirtual 85, 3) := by decide +kernel
theorem dX4_workSingle_66 : decode cX4_workSingle 66 = .ok (.goto 78, 3) := by decide +kernel
theorem dX4_workSingle_69 : decode cX4_workSingle 69 = .ok (.aload_n 0, 1) := by decide +kernel
theorem dX4_workSingle_70 : decode cX4_workSingle 70 = .ok (.aload_n 0, 1) := by decide +kernel
theorem dX4_workSingle_71 : decode cX4_workSingle 71 = .ok (.invokevirtual 172, 3) := by decide +kernel
theorem dX4_workSingle_74 : decode cX4_workSingle 74 = .ok (.getfield 177, 3) := by decide +kernel
theorem dX4_workSingle_77 : decode cX4_workSingle 77 = .ok (.invokevirtual 85, 3) := by decide +kernel
theorem dX4_workSingle_80 : decode cX4_workSingle 80 = .ok (.goto 64, 3) := by decide +kernel
theorem dX4_workSingle_83 : decode cX4_workSingle 83 = .ok (.aload_n 0, 1) := by decide +kernel
theorem dX4_workSingle_84 : decode cX4_workSingle 84 = .ok (.aload_n 0, 1) := by decide +kernel
theorem dX4_workSingle_85 : decode cX4_workSingle 85 = .ok (.invokevirtual 172, 3) := by decide +kernel
theorem dX4_workSingle_88 : decode cX4_workSingle 88 = .ok (.getfield 180, 3) := by decide +kernel
theorem dX4_workSingle_91 : decode cX4_workSingle 91 = .ok (.invokevirtual 85, 3) := by decide +kernel
theorem dX4_workSingle_94 : decode cX4_workSingle 94 = .ok (.goto 50, 3) := by decide +kernel
theorem dX4_workSingle_97 : decode cX4_workSingle 97 = .ok (.aload_n 0, 1) := by decide +kernel
theorem dX4_workSingle_98 : decode cX4_workSingle 98 = .ok (.aload_n 0, 1) := by decide +kernel
theorem dX4_workSingle_99 : decode cX4_workSingle 99 = .ok (.invokevirtual 181, 3) := by decide +kernel
theorem dX4_workSingle_102 : decode cX4_workSingle 102 = .ok (.ineg, 1) := by decide +kernel
theorem dX4_workSingle_103 : decode cX4_workSingle 103 = .ok (.invokevirtual 85, 3) := by decide +kernel
theorem dX4_workSingle_106 : decode cX4_workSingle 106 = .ok (.goto 38, 3) := by decide +kernel
theorem dX4_workSingle_109 : decode cX4_workSingle 109 = .ok (.aload_n 0, 1) := by decide +kernel
theorem dX4_workSingle_110 : decode cX4_workSingle 110 = .ok (.aload_n 0, 1) := by decide +kernel
theorem dX4_workSingle_111 : decode cX4_workSingle 111 = .ok (.invokevirtual 181, 3) := by decide +kernel
theorem dX4_workSingle_114 : decode cX4_workSingle 114 = .ok (.ifCond .ne 7, 3) := by decide +kernel
theorem dX4_workSingle_117 : decode cX4_workSingle 117 = .ok (.iconst 1, 1) := by decide +kernel
theorem dX4_workSingle_118 : decode cX4_workSingle 118 = .ok (.goto 4, 3) := by decide +kernel
theorem dX4_workSingle_121 : decode cX4_workSingle 121 = .ok (.iconst 0, 1) := by decide +kernel
theorem dX4_workSingle_122 : decode cX4_workSingle 122 = .ok (.invokevirtual 85, 3) := by decide +kernel
theorem dX4_workSingle_125 : decode cX4_workSingle 125 = .ok (.goto 19, 3) := by decide +kernel
theorem dX4_workSingle_128 : decode cX4_workSingle 128 = .ok (.aload_n 0, 1) := by decide +kernel
theorem dX4_workSingle_129 : decode cX4_workSingle 129 = .ok (.aload_n 0, 1) := by decide +kernel
theorem dX4_workSingle_130 : decode cX4_workSingle 130 = .ok (.invokevirtual 181, 3) := by decide +kernel
theorem dX4_workSingle_133 : decode cX4_workSingle 133 = .ok (.ifCond .eq 7, 3) := by decide +kernel
theorem dX4_workSingle_136 : decode cX4_workSingle 136 = .ok (.iconst 1, 1) := by decide +kernel
theorem dX4_workSingle_137 : decode cX4_workSingle 137 = .ok (.goto 4, 3) := by decide +kernel
theorem dX4_workSingle_140 : decode cX4_workSingle 140 = .ok (.iconst 0, 1) := by decide +kernel
theorem dX4_workSingle_141 : decode cX4_workSingle 141 = .ok (.invokevirtual 85, 3) := by decide +kernel
theorem dX4_workSingle_144 : decode cX4_workSingle 144 = .ok (.return_, 1) := by decide +kernel
def wX4_workSingle_b144 (a0 : Nat) (x1 : Int32)  (Sn : kp_S) (post : kp_S → Prop) : Prop :=
  post Sn
def wX4_workSingle_b122 (a0 : Nat) (x1 : Int32) (xt0 : Int32) (at1 : Nat)  (Sn : kp_S) (post : kp_S → Prop) : Prop :=
  wX4_push at1 xt0 Sn (fun T2001 =>
  wX4_workSingle_b144 a0 x1   T2001 post)
def wX4_workSingle_b141 (a0 : Nat) (x1 : Int32) (xt0 : Int32) (at1 : Nat)  (Sn : kp_S) (post : kp_S → Prop) : Prop :=
  wX4_push at1 xt0 Sn (fun T3001 =>
  wX4_workSingle_b144 a0 x1   T3001 post)
def wX4_workSingle (a0 : Nat) (x1 : Int32) (S : kp_S) (post : kp_S → Prop) : Prop :=
  ((x1 = 1 →
  wX4_take a0 S (fun y3 T2 =>
  wX4_push a0 y3 T2 (fun T4 =>
  wX4_workSingle_b144 a0 x1   T4 post))) ∧ (¬ x1 = 1 →
  ((x1 = 2 →
  wX4_frame a0 S (fun b7 T6 =>
  wX4_take a0 T6 (fun y9 T8 =>
  wX3_get b7 y9 T8 (fun y11 T10 =>
  wX4_push a0 y11 T10 (fun T12 =>
  wX4_workSingle_b144 a0 x1   T12 post))))) ∧ (¬ x1 = 2 →
  ((x1 = 3 →
  wX4_frame a0 S (fun b15 T14 =>
  wX4_push a0 (kp_I T14 603 b15) T14 (fun T16 =>
  wX4_workSingle_b144 a0 x1   T16 post))) ∧ (¬ x1 = 3 →
  ((x1 = 4 →
  wX4_frame a0 S (fun b19 T18 =>
  wX4_push a0 (kp_I T18 604 b19) T18 (fun T20 =>
  wX4_workSingle_b144 a0 x1   T20 post))) ∧ (¬ x1 = 4 →
  ((x1 = 5 →
  wX4_pop a0 S (fun y23 T22 =>
  wX4_push a0 (-y23) T22 (fun T24 =>
  wX4_workSingle_b144 a0 x1   T24 post))) ∧ (¬ x1 = 5 →
  ((x1 = 6 →
  wX4_pop a0 S (fun y27 T26 =>
  ((¬ y27 = 0 →
  wX4_workSingle_b122 a0 x1 0 a0  T26 post) ∧ (y27 = 0 →
  wX4_workSingle_b122 a0 x1 1 a0  T26 post)))) ∧ (¬ x1 = 6 →
  wX4_pop a0 S (fun y30 T29 =>
  ((y30 = 0 →
  wX4_workSingle_b141 a0 x1 0 a0  T29 post) ∧ (¬ y30 = 0 →
  wX4_workSingle_b141 a0 x1 1 a0  T29 post)))))))))))))))
set_option maxHeartbeats 4000000 in
set_option maxRecDepth 100000 in
theorem c_X4_workSingle (l : Launch) (D : va_G) (cy : Nat → ClassId) (ad : (Nat → Nat) × (Nat → Nat)) (S : kp_S) (a0 : Nat) (x1 : Int32) (post : kp_S → Prop) (hS : kp_ok S) (f_a0 : kp_is S a0 4) (hw : wX4_workSingle a0 x1 S post) : kp_M l yX4_workSingle cX4_workSingle 2 none { frames := 2, cells := 0, slots := 0, locals := 42 } D cy ad S [.ref a0, .int x1] 0 0 (fun A => kp_Qv D cy A S post) := by
  refine kp_start (own := RX4) (by decide) rfl (Nat.le_of_ble_eq_true rfl) hS ?_
  intro p e s m below meth c A ls X hr hlocks hname h hl
  have hle : kp_le S S := kp_le.rf
  have hl : lv_has ls 2 [(0, .ref a0), (1, .int x1)] := hl
  have j144 : ∀  (Sn : kp_S) (H : Heap) (locs : List Loc) (ls : Array Slot), lv_has ls 2 [] → kp_H D cy A Sn s.heap H locs → kp_le S Sn → kp_is Sn a0 4 → wX4_workSingle_b144 a0 x1   Sn post → W p l e { frames := 2, cells := 0, slots := 0, locals := 42 } s m ([.ref a0, .int x1] : List Value).toArray below meth c H locs 0 0 (MQ below (kp_Qv D cy A S post) ([.ref a0, .int x1] : List Value).toArray s 0 0 A) (F0 m 144 ls []) := by
    intro  Sn H locs ls hl h hle f_a0 hw
    unfold wX4_workSingle_b144 at hw
    exact kp_retv X hr hlocks h hle hw dX4_workSingle_144
  have j122 : ∀ (xt0 : Int32) (at1 : Nat) (Sn : kp_S) (H : Heap) (locs : List Loc) (ls : Array Slot), lv_has ls 2 [] → kp_H D cy A Sn s.heap H locs → kp_le S Sn → kp_is Sn at1 4 → kp_is Sn a0 4 → wX4_workSingle_b122 a0 x1 xt0 at1  Sn post → W p l e { frames := 2, cells := 0, slots := 0, locals := 42 } s m ([.ref a0, .int x1] : List Value).toArray below meth c H locs 0 0 (MQ below (kp_Qv D cy A S post) ([.ref a0, .int x1] : List Value).toArray s 0 0 A) (F0 m 122 ls [.int xt0, .ref at1]) := by
    intro xt0 at1 Sn H locs ls hl h hle f_at1 f_a0 hw
    unfold wX4_workSingle_b122 at hw
    refine kp_callv X h (kp_runV (rm := { frames := 0, cells := 0, slots := 0, locals := 0 }) (mc := 0) (ms := 0) (rest := []) (Qc := fun A => kp_Qv D cy A Sn _) X h (c_X4_push l D cy ad Sn at1 xt0 _ h.2.2.2 f_at1 hw) f_at1 cv_4_85 ⟨by decide, by decide, rfl, rfl, by decide, by decide⟩ rfl hl.1 rfl (Nat.le_of_ble_eq_true rfl) dX4_workSingle_122) (fun T2001 hw l_T2001 H locs h => ?_)
    have f_at1 := l_T2001.is f_at1
    have f_a0 := l_T2001.is f_a0
    have hle := hle.tr l_T2001
    refine lv_goto (tgt := 144) X.1 X.2.1 dX4_workSingle_125 (by decide) ?_
    exact j144  T2001 H locs ls (lv_sub hl [] rfl) h hle f_a0 hw
  have j141 : ∀ (xt0 : Int32) (at1 : Nat) (Sn : kp_S) (H : Heap) (locs : List Loc) (ls : Array Slot), lv_has ls 2 [] → kp_H D cy A Sn s.heap H locs → kp_le S Sn → kp_is Sn at1 4 → kp_is Sn a0 4 → wX4_workSingle_b141 a0 x1 xt0 at1  Sn post → W p l e { frames := 2, cells := 0, slots := 0, locals := 42 } s m ([.ref a0, .int x1] : List Value).toArray below meth c H locs 0 0 (MQ below (kp_Qv D cy A S post) ([.ref a0, .int x1] : List Value).toArray s 0 0 A) (F0 m 141 ls [.int xt0, .ref at1]) := by
    intro xt0 at1 Sn H locs ls hl h hle f_at1 f_a0 hw
    unfold wX4_workSingle_b141 at hw
    refine kp_callv X h (kp_runV (rm := { frames := 0, cells := 0, slots := 0, locals := 0 }) (mc := 0) (ms := 0) (rest := []) (Qc := fun A => kp_Qv D cy A Sn _) X h (c_X4_push l D cy ad Sn at1 xt0 _ h.2.2.2 f_at1 hw) f_at1 cv_4_85 ⟨by decide, by decide, rfl, rfl, by decide, by decide⟩ rfl hl.1 rfl (Nat.le_of_ble_eq_true rfl) dX4_workSingle_141) (fun T3001 hw l_T3001 H locs h => ?_)
    have f_at1 := l_T3001.is f_at1
    have f_a0 := l_T3001.is f_a0
    have hle := hle.tr l_T3001
    exact j144  T3001 H locs ls (lv_sub hl [] rfl) h hle f_a0 hw
  unfold wX4_workSingle at hw
  have h : kp_H D cy A S s.heap s.heap [] := h
  revert h
  intro h
  refine lv_iload_n X.1 X.2.1 dX4_workSingle_0 rfl (lv_at hl 1 rfl) ?_
  by_cases c1 : x1 = 1
  · have hw := hw.1 c1
    refine lv_tableIn (off := 39) (tgt := 40) X.1 X.2.1 dX4_workSingle_1 (by rw [c1]; decide) (by rw [c1]; decide) (by rw [c1]; decide) (by decide) ?_
    refine lv_aload_n X.1 X.2.1 dX4_workSingle_40 rfl (lv_at hl 0 rfl) ?_
    refine lv_aload_n X.1 X.2.1 dX4_workSingle_41 rfl (lv_at hl 0 rfl) ?_
    refine kp_calli X h (kp_runV (rm := { frames := 1, cells := 0, slots := 0, locals := 21 }) (mc := 0) (ms := 0) (rest := [.ref a0]) (Qc := fun A => kp_Qi D cy A S _) X h (c_X4_take l D cy ad S a0 _ h.2.2.2 f_a0 hw) f_a0 cv_4_123 ⟨by decide, by decide, rfl, rfl, by decide, by decide⟩ rfl hl.1 rfl (Nat.le_of_ble_eq_true rfl) dX4_workSingle_42) (fun y3 T2 hw l_T2 H locs h => ?_)
    have f_a0 := l_T2.is f_a0
    have hle := hle.tr l_T2
    refine kp_callv X h (kp_runV (rm := { frames := 0, cells := 0, slots := 0, locals := 0 }) (mc := 0) (ms := 0) (rest := []) (Qc := fun A => kp_Qv D cy A T2 _) X h (c_X4_push l D cy ad T2 a0 y3 _ h.2.2.2 f_a0 hw) f_a0 cv_4_85 ⟨by decide, by decide, rfl, rfl, by decide, by decide⟩ rfl hl.1 rfl (Nat.le_of_ble_eq_true rfl) dX4_workSingle_45) (fun T4 hw l_T4 H locs h => ?_)
    have f_a0 := l_T4.is f_a0
    have hle := hle.tr l_T4
    refine lv_goto (tgt := 144) X.1 X.2.1 dX4_workSingle_48 (by decide) ?_
    exact j144  T4 _ _ ls (lv_sub hl [] rfl) h hle f_a0 hw
  have hw := hw.2 c1
  by_cases c5 : x1 = 2
  · have hw := hw.1 c5
    refine lv_tableIn (off := 50) (tgt := 51) X.1 X.2.1 dX4_workSingle_1 (by rw [c5]; decide) (by rw [c5]; decide) (by rw [c5]; decide) (by decide) ?_
    refine lv_aload_n X.1 X.2.1 dX4_workSingle_51 rfl (lv_at hl 0 rfl) ?_
    refine lv_aload_n X.1 X.2.1 dX4_workSingle_52 rfl (lv_at hl 0 rfl) ?_
    refine kp_callr X h (kp_runV (rm := { frames := 0, cells := 0, slots := 0, locals := 0 }) (mc := 0) (ms := 0) (rest := [.ref a0]) (Qc := fun A => kp_Qr D cy A S 3 _) X h (c_X4_frame l D cy ad S a0 _ h.2.2.2 f_a0 hw) f_a0 cv_4_172 ⟨by decide, by decide, rfl, rfl, by decide, by decide⟩ rfl hl.1 rfl (Nat.le_of_ble_eq_true rfl) dX4_workSingle_53) (fun b7 T6 hw l_T6 f_b7 H locs h => ?_)
    have f_a0 := l_T6.is f_a0
    have hle := hle.tr l_T6
    refine lv_aload_n X.1 X.2.1 dX4_workSingle_56 rfl (lv_at hl 0 rfl) ?_
    refine kp_calli X h (kp_runV (rm := { frames := 1, cells := 0, slots := 0, locals := 21 }) (mc := 0) (ms := 0) (rest := [.ref b7, .ref a0]) (Qc := fun A => kp_Qi D cy A T6 _) X h (c_X4_take l D cy ad T6 a0 _ h.2.2.2 f_a0 hw) f_a0 cv_4_123 ⟨by decide, by decide, rfl, rfl, by decide, by decide⟩ rfl hl.1 rfl (Nat.le_of_ble_eq_true rfl) dX4_workSingle_57) (fun y9 T8 hw l_T8 H locs h => ?_)
    have f_a0 := l_T8.is f_a0
    have f_b7 := l_T8.is f_b7
    have hle := hle.tr l_T8
    refine kp_calli X h (kp_runV (rm := { frames := 0, cells := 0, slots := 0, locals := 0 }) (mc := 0) (ms := 0) (rest := [.ref a0]) (Qc := fun A => kp_Qi D cy A T8 _) X h (c_X3_get l D cy ad T8 b7 y9 _ h.2.2.2 f_b7 hw) f_b7 cv_4_176 ⟨by decide, by decide, rfl, rfl, by decide, by decide⟩ rfl hl.1 rfl (Nat.le_of_ble_eq_true rfl) dX4_workSingle_60) (fun y11 T10 hw l_T10 H locs h => ?_)
    have f_a0 := l_T10.is f_a0
    have f_b7 := l_T10.is f_b7
    have hle := hle.tr l_T10
    refine kp_callv X h (kp_runV (rm := { frames := 0, cells := 0, slots := 0, locals := 0 }) (mc := 0) (ms := 0) (rest := []) (Qc := fun A => kp_Qv D cy A T10 _) X h (c_X4_push l D cy ad T10 a0 y11 _ h.2.2.2 f_a0 hw) f_a0 cv_4_85 ⟨by decide, by decide, rfl, rfl, by decide, by decide⟩ rfl hl.1 rfl (Nat.le_of_ble_eq_true rfl) dX4_workSingle_63) (fun T12 hw l_T12 H locs h => ?_)
    have f_a0 := l_T12.is f_a0
    have f_b7 := l_T12.is f_b7
    have hle := hle.tr l_T12
    refine lv_goto (tgt := 144) X.1 X.2.1 dX4_workSingle_66 (by decide) ?_
    exact j144  T12 _ _ ls (lv_sub hl [] rfl) h hle f_a0 hw
  have hw := hw.2 c5
  by_cases c13 : x1 = 3
  · have hw := hw.1 c13
    refine lv_tableIn (off := 68) (tgt := 69) X.1 X.2.1 dX4_workSingle_1 (by rw [c13]; decide) (by rw [c13]; decide) (by rw [c13]; decide) (by decide) ?_
    refine lv_aload_n X.1 X.2.1 dX4_workSingle_69 rfl (lv_at hl 0 rfl) ?_
    refine lv_aload_n X.1 X.2.1 dX4_workSingle_70 rfl (lv_at hl 0 rfl) ?_
    refine kp_callr X h (kp_runV (rm := { frames := 0, cells := 0, slots := 0, locals := 0 }) (mc := 0) (ms := 0) (rest := [.ref a0]) (Qc := fun A => kp_Qr D cy A S 3 _) X h (c_X4_frame l D cy ad S a0 _ h.2.2.2 f_a0 hw) f_a0 cv_4_172 ⟨by decide, by decide, rfl, rfl, by decide, by decide⟩ rfl hl.1 rfl (Nat.le_of_ble_eq_true rfl) dX4_workSingle_71) (fun b15 T14 hw l_T14 f_b15 H locs h => ?_)
    have f_a0 := l_T14.is f_a0
    have hle := hle.tr l_T14
    refine kp_get X h f_b15 fp_4_177.l (v := .int (kp_I T14 603 b15)) rfl dX4_workSingle_74 ?_
    refine kp_callv X h (kp_runV (rm := { frames := 0, cells := 0, slots := 0, locals := 0 }) (mc := 0) (ms := 0) (rest := []) (Qc := fun A => kp_Qv D cy A T14 _) X h (c_X4_push l D cy ad T14 a0 (kp_I T14 603 b15) _ h.2.2.2 f_a0 hw) f_a0 cv_4_85 ⟨by decide, by decide, rfl, rfl, by decide, by decide⟩ rfl hl.1 rfl (Nat.le_of_ble_eq_true rfl) dX4_workSingle_77) (fun T16 hw l_T16 H locs h => ?_)
    have f_a0 := l_T16.is f_a0
    have f_b15 := l_T16.is f_b15
    have hle := hle.tr l_T16
    refine lv_goto (tgt := 144) X.1 X.2.1 dX4_workSingle_80 (by decide) ?_
    exact j144  T16 _ _ ls (lv_sub hl [] rfl) h hle f_a0 hw
  have hw := hw.2 c13
  by_cases c17 : x1 = 4
  · have hw := hw.1 c17
    refine lv_tableIn (off := 82) (tgt := 83) X.1 X.2.1 dX4_workSingle_1 (by rw [c17]; decide) (by rw [c17]; decide) (by rw [c17]; decide) (by decide) ?_
    refine lv_aload_n X.1 X.2.1 dX4_workSingle_83 rfl (lv_at hl 0 rfl) ?_
    refine lv_aload_n X.1 X.2.1 dX4_workSingle_84 rfl (lv_at hl 0 rfl) ?_
    refine kp_callr X h (kp_runV (rm := { frames := 0, cells := 0, slots := 0, locals := 0 }) (mc := 0) (ms := 0) (rest := [.ref a0]) (Qc := fun A => kp_Qr D cy A S 3 _) X h (c_X4_frame l D cy ad S a0 _ h.2.2.2 f_a0 hw) f_a0 cv_4_172 ⟨by decide, by decide, rfl, rfl, by decide, by decide⟩ rfl hl.1 rfl (Nat.le_of_ble_eq_true rfl) dX4_workSingle_85) (fun b19 T18 hw l_T18 f_b19 H locs h => ?_)
    have f_a0 := l_T18.is f_a0
    have hle := hle.tr l_T18
    refine kp_get X h f_b19 fp_4_180.l (v := .int (kp_I T18 604 b19)) rfl dX4_workSingle_88 ?_
    refine kp_callv X h (kp_runV (rm := { frames := 0, cells := 0, slots := 0, locals := 0 }) (mc := 0) (ms := 0) (rest := []) (Qc := fun A => kp_Qv D cy A T18 _) X h (c_X4_push l D cy ad T18 a0 (kp_I T18 604 b19) _ h.2.2.2 f_a0 hw) f_a0 cv_4_85 ⟨by decide, by decide, rfl, rfl, by decide, by decide⟩ rfl hl.1 rfl (Nat.le_of_ble_eq_true rfl) dX4_workSingle_91) (fun T20 hw l_T20 H locs h => ?_)
    have f_a0 := l_T20.is f_a0
    have f_b19 := l_T20.is f_b19
    have hle := hle.tr l_T20
    refine lv_goto (tgt := 144) X.1 X.2.1 dX4_workSingle_94 (by decide) ?_
    exact j144  T20 _ _ ls (lv_sub hl [] rfl) h hle f_a0 hw
  have hw := hw.2 c17
  by_cases c21 : x1 = 5
  · have hw := hw.1 c21
    refine lv_tableIn (off := 96) (tgt := 97) X.1 X.2.1 dX4_workSingle_1 (by rw [c21]; decide) (by rw [c21]; decide) (by rw [c21]; decide) (by decide) ?_
    refine lv_aload_n X.1 X.2.1 dX4_workSingle_97 rfl (lv_at hl 0 rfl) ?_
    refine lv_aload_n X.1 X.2.1 dX4_workSingle_98 rfl (lv_at hl 0 rfl) ?_
    refine kp_calli X h (kp_runV (rm := { frames := 0, cells := 0, slots := 0, locals := 0 }) (mc := 0) (ms := 0) (rest := [.ref a0]) (Qc := fun A => kp_Qi D cy A S _) X h (c_X4_pop l D cy ad S a0 _ h.2.2.2 f_a0 hw) f_a0 cv_4_181 ⟨by decide, by decide, rfl, rfl, by decide, by decide⟩ rfl hl.1 rfl (Nat.le_of_ble_eq_true rfl) dX4_workSingle_99) (fun y23 T22 hw l_T22 H locs h => ?_)
    have f_a0 := l_T22.is f_a0
    have hle := hle.tr l_T22
    refine lv_ineg X.1 X.2.1 dX4_workSingle_102 ?_
    refine kp_callv X h (kp_runV (rm := { frames := 0, cells := 0, slots := 0, locals := 0 }) (mc := 0) (ms := 0) (rest := []) (Qc := fun A => kp_Qv D cy A T22 _) X h (c_X4_push l D cy ad T22 a0 (-y23) _ h.2.2.2 f_a0 hw) f_a0 cv_4_85 ⟨by decide, by decide, rfl, rfl, by decide, by decide⟩ rfl hl.1 rfl (Nat.le_of_ble_eq_true rfl) dX4_workSingle_103) (fun T24 hw l_T24 H locs h => ?_)
    have f_a0 := l_T24.is f_a0
    have hle := hle.tr l_T24
    refine lv_goto (tgt := 144) X.1 X.2.1 dX4_workSingle_106 (by decide) ?_
    exact j144  T24 _ _ ls (lv_sub hl [] rfl) h hle f_a0 hw
  have hw := hw.2 c21
  by_cases c25 : x1 = 6
  · have hw := hw.1 c25
    refine lv_tableIn (off := 108) (tgt := 109) X.1 X.2.1 dX4_workSingle_1 (by rw [c25]; decide) (by rw [c25]; decide) (by rw [c25]; decide) (by decide) ?_
    refine lv_aload_n X.1 X.2.1 dX4_workSingle_109 rfl (lv_at hl 0 rfl) ?_
    refine lv_aload_n X.1 X.2.1 dX4_workSingle_110 rfl (lv_at hl 0 rfl) ?_
    refine kp_calli X h (kp_runV (rm := { frames := 0, cells := 0, slots := 0, locals := 0 }) (mc := 0) (ms := 0) (rest := [.ref a0]) (Qc := fun A => kp_Qi D cy A S _) X h (c_X4_pop l D cy ad S a0 _ h.2.2.2 f_a0 hw) f_a0 cv_4_181 ⟨by decide, by decide, rfl, rfl, by decide, by decide⟩ rfl hl.1 rfl (Nat.le_of_ble_eq_true rfl) dX4_workSingle_111) (fun y27 T26 hw l_T26 H locs h => ?_)
    have f_a0 := l_T26.is f_a0
    have hle := hle.tr l_T26
    refine lv_if_ne (tgt := 121) X.1 X.2.1 dX4_workSingle_114 (by decide) (fun c28 => ?_) (fun c28 => ?_)
    · have hw := hw.1 c28
      refine lv_iconst (v := 0) X.1 X.2.1 dX4_workSingle_121 (by decide) ?_
      exact j122 0 a0 T26 _ _ ls (lv_sub hl [] rfl) h hle f_a0 f_a0 hw
    · have hw := hw.2 c28
      refine lv_iconst (v := 1) X.1 X.2.1 dX4_workSingle_117 (by decide) ?_
      refine lv_goto (tgt := 122) X.1 X.2.1 dX4_workSingle_118 (by decide) ?_
      exact j122 1 a0 T26 _ _ ls (lv_sub hl [] rfl) h hle f_a0 f_a0 hw
  have hw := hw.2 c25
  have t_c1 := lv_neT (a := 1) c1 (by decide)
  have t_c5 := lv_neT (a := 2) c5 (by decide)
  have t_c13 := lv_neT (a := 3) c13 (by decide)
  have t_c17 := lv_neT (a := 4) c17 (by decide)
  have t_c21 := lv_neT (a := 5) c21 (by decide)
  have t_c25 := lv_neT (a := 6) c25 (by decide)
  refine lv_tableOut (tgt := 128) X.1 X.2.1 dX4_workSingle_1 (by omega) (by decide) ?_
  refine lv_aload_n X.1 X.2.1 dX4_workSingle_128 rfl (lv_at hl 0 rfl) ?_
  refine lv_aload_n X.1 X.2.1 dX4_workSingle_129 rfl (lv_at hl 0 rfl) ?_
  refine kp_calli X h (kp_runV (rm := { frames := 0, cells := 0, slots := 0, locals := 0 }) (mc := 0) (ms := 0) (rest := [.ref a0]) (Qc := fun A => kp_Qi D cy A S _) X h (c_X4_pop l D cy ad S a0 _ h.2.2.2 f_a0 hw) f_a0 cv_4_181 ⟨by decide, by decide, rfl, rfl, by decide, by decide⟩ rfl hl.1 rfl (Nat.le_of_ble_eq_true rfl) dX4_workSingle_130) (fun y30 T29 hw l_T29 H locs h => ?_)
  have f_a0 := l_T29.is f_a0
  have hle := hle.tr l_T29
  refine lv_if_eq (tgt := 140) X.1 X.2.1 dX4_workSingle_133 (by decide) (fun c31 => ?_) (fun c31 => ?_)
  · have hw := hw.1 c31
    refine lv_iconst (v := 0) X.1 X.2.1 dX4_workSingle_140 (by decide) ?_
    exact j141 0 a0 T29 _ _ ls (lv_sub hl [] rfl) h hle f_a0 f_a0 hw
  · have hw := hw.2 c31
    refine lv_iconst (v := 1) X.1 X.2.1 dX4_workSingle_136 (by decide) ?_
    refine lv_goto (tgt := 141) X.1 X.2.1 dX4_workSingle_137 (by decide) ?_
    exact j141 1 a0 T29 _ _ ls (lv_sub hl [] rfl) h hle f_a0 f_a0 hw
theorem dX4_divide_0 : decode cX4_divide 0 = .ok (.iload_n 3, 1) := by decide +kernel
theorem dX4_divide_1 : decode cX4_divide 1 = .ok (.ifCond .ne 11, 3) := by decide +kernel
theorem dX4_divide_4 : decode cX4_divide 4 = .ok (.aload_n 0, 1) := by decide +kernel
theorem dX4_divide_5 : decode cX4_divide 5 = .ok (.iconst 1, 1) := by decide +kernel
theorem dX4_divide_6 : decode cX4_divide 6 = .ok (.invokevirtual 188, 3) := by decide +kernel
theorem dX4_divide_9 : decode cX4_divide 9 = .ok (.goto 22, 3) := by decide +kernel
theorem dX4_divide_12 : decode cX4_divide 12 = .ok (.aload_n 0, 1) := by decide +kernel
theorem dX4_divide_13 : decode cX4_divide 13 = .ok (.iload_n 1, 1) := by decide +kernel
theorem dX4_divide_14 : decode cX4_divide 14 = .ok (.bipush 11, 2) := by decide +kernel
theorem dX4_divide_16 : decode cX4_divide 16 = .ok (.if_icmp .ne 9, 3) := by decide +kernel
theorem dX4_divide_19 : decode cX4_divide 19 = .ok (.iload_n 2, 1) := by decide +kernel
theorem dX4_divide_20 : decode cX4_divide 20 = .ok (.iload_n 3, 1) := by decide +kernel
theorem dX4_divide_21 : decode cX4_divide 21 = .ok (.idiv, 1) := by decide +kernel
theorem dX4_divide_22 : decode cX4_divide 22 = .ok (.goto 6, 3) := by decide +kernel
theorem dX4_divide_25 : decode cX4_divide 25 = .ok (.iload_n 2, 1) := by decide +kernel
theorem dX4_divide_26 : decode cX4_divide 26 = .ok (.iload_n 3, 1) := by decide +kernel
theorem dX4_divide_27 : decode cX4_divide 27 = .ok (.irem, 1) := by decide +kernel
theorem dX4_divide_28 : decode cX4_divide 28 = .ok (.invokevirtual 85, 3) := by decide +kernel
theorem dX4_divide_31 : decode cX4_divide 31 = .ok (.return_, 1) := by decide +kernel
def wX4_divide_b31 (a0 : Nat) (x1 : Int32) (x2 : Int32) (x3 : Int32)  (Sn : kp_S) (post : kp_S → Prop) : Prop :=
  post Sn
def wX4_divide_b28 (a0 : Nat) (x1 : Int32) (x2 : Int32) (x3 : Int32) (xt0 : Int32) (at1 : Nat)  (Sn : kp_S) (post : kp_S → Prop) : Prop :=
  wX4_push at1 xt0 Sn (fun T2001 =>
  wX4_divide_b31 a0 x1 x2 x3   T2001 post)
def wX4_divide (a0 : Nat) (x1 : Int32) (x2 : Int32) (x3 : Int32) (S : kp_S) (post : kp_S → Prop) : Prop :=
  ((¬ x3 = 0 →
  ((¬ x1 = 11 →
  ¬ x3 = 0 ∧
  wX4_divide_b28 a0 x1 x2 x3 (x2 - x2 / x3 * x3) a0  S post) ∧ (x1 = 11 →
  ¬ x3 = 0 ∧
  wX4_divide_b28 a0 x1 x2 x3 (x2 / x3) a0  S post))) ∧ (x3 = 0 →
  wX4_trouble a0 1 S (fun T2 =>
  wX4_divide_b31 a0 x1 x2 x3   T2 post)))
set_option maxHeartbeats 4000000 in
set_option maxRecDepth 100000 in
theorem c_X4_divide (l : Launch) (D : va_G) (cy : Nat → ClassId) (ad : (Nat → Nat) × (Nat → Nat)) (S : kp_S) (a0 : Nat) (x1 : Int32) (x2 : Int32) (x3 : Int32) (post : kp_S → Prop) (hS : kp_ok S) (f_a0 : kp_is S a0 4) (hw : wX4_divide a0 x1 x2 x3 S post) : kp_M l yX4_divide cX4_divide 4 none { frames := 2, cells := 0, slots := 0, locals := 44 } D cy ad S [.ref a0, .int x1, .int x2, .int x3] 0 0 (fun A => kp_Qv D cy A S post) := by
  refine kp_start (own := RX4) (by decide) rfl (Nat.le_of_ble_eq_true rfl) hS ?_
  intro p e s m below meth c A ls X hr hlocks hname h hl
  have hle : kp_le S S := kp_le.rf
  have hl : lv_has ls 4 [(0, .ref a0), (1, .int x1), (2, .int x2), (3, .int x3)] := hl
  have j31 : ∀  (Sn : kp_S) (H : Heap) (locs : List Loc) (ls : Array Slot), lv_has ls 4 [] → kp_H D cy A Sn s.heap H locs → kp_le S Sn → kp_is Sn a0 4 → wX4_divide_b31 a0 x1 x2 x3   Sn post → W p l e { frames := 2, cells := 0, slots := 0, locals := 44 } s m ([.ref a0, .int x1, .int x2, .int x3] : List Value).toArray below meth c H locs 0 0 (MQ below (kp_Qv D cy A S post) ([.ref a0, .int x1, .int x2, .int x3] : List Value).toArray s 0 0 A) (F0 m 31 ls []) := by
    intro  Sn H locs ls hl h hle f_a0 hw
    unfold wX4_divide_b31 at hw
    exact kp_retv X hr hlocks h hle hw dX4_divide_31
  have j28 : ∀ (xt0 : Int32) (at1 : Nat) (Sn : kp_S) (H : Heap) (locs : List Loc) (ls : Array Slot), lv_has ls 4 [] → kp_H D cy A Sn s.heap H locs → kp_le S Sn → kp_is Sn at1 4 → kp_is Sn a0 4 → wX4_divide_b28 a0 x1 x2 x3 xt0 at1  Sn post → W p l e { frames := 2, cells := 0, slots := 0, locals := 44 } s m ([.ref a0, .int x1, .int x2, .int x3] : List Value).toArray below meth c H locs 0 0 (MQ below (kp_Qv D cy A S post) ([.ref a0, .int x1, .int x2, .int x3] : List Value).toArray s 0 0 A) (F0 m 28 ls [.int xt0, .ref at1]) := by
    intro xt0 at1 Sn H locs ls hl h hle f_at1 f_a0 hw
    unfold wX4_divide_b28 at hw
    refine kp_callv X h (kp_runV (rm := { frames := 0, cells := 0, slots := 0, locals := 0 }) (mc := 0) (ms := 0) (rest := []) (Qc := fun A => kp_Qv D cy A Sn _) X h (c_X4_push l D cy ad Sn at1 xt0 _ h.2.2.2 f_at1 hw) f_at1 cv_4_85 ⟨by decide, by decide, rfl, rfl, by decide, by decide⟩ rfl hl.1 rfl (Nat.le_of_ble_eq_true rfl) dX4_divide_28) (fun T2001 hw l_T2001 H locs h => ?_)
    have f_at1 := l_T2001.is f_at1
    have f_a0 := l_T2001.is f_a0
    have hle := hle.tr l_T2001
    exact j31  T2001 H locs ls (lv_sub hl [] rfl) h hle f_a0 hw
  unfold wX4_divide at hw
  have h : kp_H D cy A S s.heap s.heap [] := h
  revert h
  intro h
  refine lv_iload_n X.1 X.2.1 dX4_divide_0 rfl (lv_at hl 3 rfl) ?_
  refine lv_if_ne (tgt := 12) X.1 X.2.1 dX4_divide_1 (by decide) (fun c3 => ?_) (fun c3 => ?_)
  · have hw := hw.1 c3
    refine lv_aload_n X.1 X.2.1 dX4_divide_12 rfl (lv_at hl 0 rfl) ?_
    refine lv_iload_n X.1 X.2.1 dX4_divide_13 rfl (lv_at hl 1 rfl) ?_
    refine lv_bipush (v := 11) X.1 X.2.1 dX4_divide_14 (by decide) ?_
    refine lv_icmp_ne (tgt := 25) X.1 X.2.1 dX4_divide_16 (by decide) (fun c1 => ?_) (fun c1 => ?_)
    · have hw := hw.1 c1
      refine lv_iload_n X.1 X.2.1 dX4_divide_25 rfl (lv_at hl 2 rfl) ?_
      refine lv_iload_n X.1 X.2.1 dX4_divide_26 rfl (lv_at hl 3 rfl) ?_
      obtain ⟨hz, hw⟩ := hw
      refine lv_irem X.1 X.2.1 dX4_divide_27 hz ?_
      exact j28 (x2 - x2 / x3 * x3) a0 S _ _ ls (lv_sub hl [] rfl) h hle f_a0 f_a0 hw
    · have hw := hw.2 c1
      refine lv_iload_n X.1 X.2.1 dX4_divide_19 rfl (lv_at hl 2 rfl) ?_
      refine lv_iload_n X.1 X.2.1 dX4_divide_20 rfl (lv_at hl 3 rfl) ?_
      obtain ⟨hz, hw⟩ := hw
      refine lv_idiv X.1 X.2.1 dX4_divide_21 hz ?_
      refine lv_goto (tgt := 28) X.1 X.2.1 dX4_divide_22 (by decide) ?_
      exact j28 (x2 / x3) a0 S _ _ ls (lv_sub hl [] rfl) h hle f_a0 f_a0 hw
  · have hw := hw.2 c3
    refine lv_aload_n X.1 X.2.1 dX4_divide_4 rfl (lv_at hl 0 rfl) ?_
    refine lv_iconst (v := 1) X.1 X.2.1 dX4_divide_5 (by decide) ?_
    refine kp_callv X h (kp_runV (rm := { frames := 1, cells := 0, slots := 0, locals := 23 }) (mc := 0) (ms := 0) (rest := []) (Qc := fun A => kp_Qv D cy A S _) X h (c_X4_trouble l D cy ad S a0 1 _ h.2.2.2 f_a0 hw) f_a0 cv_4_188 ⟨by decide, by decide, rfl, rfl, by decide, by decide⟩ rfl hl.1 rfl (Nat.le_of_ble_eq_true rfl) dX4_divide_6) (fun T2 hw l_T2 H locs h => ?_)
    have f_a0 := l_T2.is f_a0
    have hle := hle.tr l_T2
    refine lv_goto (tgt := 31) X.1 X.2.1 dX4_divide_9 (by decide) ?_
    exact j31  T2 _ _ ls (lv_sub hl [] rfl) h hle f_a0 hw
theorem dX4_workPair_0 : decode cX4_workPair 0 = .ok (.aload_n 0, 1) := by decide +kernel
theorem dX4_workPair_1 : decode cX4_workPair 1 = .ok (.invokevirtual 181, 3) := by decide +kernel
theorem dX4_workPair_4 : decode cX4_workPair 4 = .ok (.istore_n 2, 1) := by decide +kernel
theorem dX4_workPair_5 : decode cX4_workPair 5 = .ok (.aload_n 0, 1) := by decide +kernel
theorem dX4_workPair_6 : decode cX4_workPair 6 = .ok (.invokevirtual 181, 3) := by decide +kernel
theorem dX4_workPair_9 : decode cX4_workPair 9 = .ok (.istore_n 3, 1) := by decide +kernel
theorem dX4_workPair_10 : decode cX4_workPair 10 = .ok (.iload_n 1, 1) := by decide +kernel
theorem dX4_workPair_11 : decode cX4_workPair 11 = .ok (.tableswitch 147 8 16 #[49, 59, 69, 147, 147, 79, 96, 113, 130], 49) := by decide +kernel
theorem dX4_workPair_60 : decode cX4_workPair 60 = .ok (.aload_n 0, 1) := by decide +kernel
theorem dX4_workPair_61 : decode cX4_workPair 61 = .ok (.iload_n 3, 1) := by decide +kernel
theorem dX4_workPair_62 : decode cX4_workPair 62 = .ok (.iload_n 2, 1) := by decide +kernel
theorem dX4_workPair_63 : decode cX4_workPair 63 = .ok (.iadd, 1) := by decide +kernel
theorem dX4_workPair_64 : decode cX4_workPair 64 = .ok (.invokevirtual 85, 3) := by decide +kernel
theorem dX4_workPair_67 : decode cX4_workPair 67 = .ok (.goto 98, 3) := by decide +kernel
theorem dX4_workPair_70 : decode cX4_workPair 70 = .ok (.aload_n 0, 1) := by decide +kernel
theorem dX4_workPair_71 : decode cX4_workPair 71 = .ok (.iload_n 3, 1) := by decide +kernel
theorem dX4_workPair_72 : decode cX4_workPair 72 = .ok (.iload_n 2, 1) := by decide +kernel
theorem dX4_workPair_73 : decode cX4_workPair 73 = .ok (.isub, 1) := by decide +kernel
theorem dX4_workPair_74 : decode cX4_workPair 74 = .ok (.invokevirtual 85, 3) := by decide +kernel
theorem dX4_workPair_77 : decode cX4_workPair 77 = .ok (.goto 88, 3) := by decide +kernel
theorem dX4_workPair_80 : decode cX4_workPair 80 = .ok (.aload_n 0, 1) := by decide +kernel
theorem dX4_workPair_81 : decode cX4_workPair 81 = .ok (.iload_n 3, 1) := by decide +kernel
theorem dX4_workPair_82 : decode cX4_workPair 82 = .ok (.iload_n 2, 1) := by decide +kernel
theorem dX4_workPair_83 : decode cX4_workPair 83 = .ok (.imul, 1) := by decide +kernel
theorem dX4_workPair_84 : decode cX4_workPair 84 = .ok (.invokevirtual 85, 3) := by decide +kernel
theorem dX4_workPair_87 : decode cX4_workPair 87 = .ok (.goto 78, 3) := by decide +kernel
theorem dX4_workPair_90 : decode cX4_workPair 90 = .ok (.aload_n 0, 1) := by decide +kernel
theorem dX4_workPair_91 : decode cX4_workPair 91 = .ok (.iload_n 3, 1) := by decide +kernel
theorem dX4_workPair_92 : decode cX4_workPair 92 = .ok (.iload_n 2, 1) := by decide +kernel
theorem dX4_workPair_93 : decode cX4_workPair 93 = .ok (.if_icmp .ne 7, 3) := by decide +kernel
theorem dX4_workPair_96 : decode cX4_workPair 96 = .ok (.iconst 1, 1) := by decide +kernel
theorem dX4_workPair_97 : decode cX4_workPair 97 = .ok (.goto 4, 3) := by decide +kernel
theorem dX4_workPair_100 : decode cX4_workPair 100 = .ok (.iconst 0, 1) := by decide +kernel
theorem dX4_workPair_101 : decode cX4_workPair 101 = .ok (.invokevirtual 85, 3) := by decide +kernel
theorem dX4_workPair_104 : decode cX4_workPair 104 = .ok (.goto 61, 3) := by decide +kernel
theorem dX4_workPair_107 : decode cX4_workPair 107 = .ok (.aload_n 0, 1) := by decide +kernel
theorem dX4_workPair_108 : decode cX4_workPair 108 = .ok (.iload_n 3, 1) := by decide +kernel
theorem dX4_workPair_109 : decode cX4_workPair 109 = .ok (.iload_n 2, 1) := by decide +kernel
theorem dX4_workPair_110 : decode cX4_workPair 110 = .ok (.if_icmp .eq 7, 3) := by decide +kernel
theorem dX4_workPair_113 : decode cX4_workPair 113 = .ok (.iconst 1, 1) := by decide +kernel
theorem dX4_workPair_114 : decode cX4_workPair 114 = .ok (.goto 4, 3) := by decide +kernel
theorem dX4_workPair_117 : decode cX4_workPair 117 = .ok (.iconst 0, 1) := by decide +kernel
theorem dX4_workPair_118 : decode cX4_workPair 118 = .ok (.invokevirtual 85, 3) := by decide +kernel
theorem dX4_workPair_121 : decode cX4_workPair 121 = .ok (.goto 44, 3) := by decide +kernel
theorem dX4_workPair_124 : decode cX4_workPair 124 = .ok (.aload_n 0, 1) := by decide +kernel
theorem dX4_workPair_125 : decode cX4_workPair 125 = .ok (.iload_n 3, 1) := by decide +kernel
theorem dX4_workPair_126 : decode cX4_workPair 126 = .ok (.iload_n 2, 1) := by decide +kernel
theorem dX4_workPair_127 : decode cX4_workPair 127 = .ok (.if_icmp .ge 7, 3) := by decide +kernel
theorem dX4_workPair_130 : decode cX4_workPair 130 = .ok (.iconst 1, 1) := by decide +kernel
theorem dX4_workPair_131 : decode cX4_workPair 131 = .ok (.goto 4, 3) := by decide +kernel
theorem dX4_workPair_134 : decode cX4_workPair 134 = .ok (.iconst 0, 1) := by decide +kernel
theorem dX4_workPair_135 : decode cX4_workPair 135 = .ok (.invokevirtual 85, 3) := by decide +kernel
theorem dX4_workPair_138 : decode cX4_workPair 138 = .ok (.goto 27, 3) := by decide +kernel
theorem dX4_workPair_141 : decode cX4_workPair 141 = .ok (.aload_n 0, 1) := by decide +kernel
theorem dX4_workPair_142 : decode cX4_workPair 142 = .ok (.iload_n 3, 1) := by decide +kernel
theorem dX4_workPair_143 : decode cX4_workPair 143 = .ok (.iload_n 2, 1) := by decide +kernel
theorem dX4_workPair_144 : decode cX4_workPair 144 = .ok (.if_icmp .gt 7, 3) := by decide +kernel
theorem dX4_workPair_147 : decode cX4_workPair 147 = .ok (.iconst 1, 1) := by decide +kernel
theorem dX4_workPair_148 : decode cX4_workPair 148 = .ok (.goto 4, 3) := by decide +kernel
theorem dX4_workPair_151 : decode cX4_workPair 151 = .ok (.iconst 0, 1) := by decide +kernel
theorem dX4_workPair_152 : decode cX4_workPair 152 = .ok (.invokevirtual 85, 3) := by decide +kernel
theorem dX4_workPair_155 : decode cX4_workPair 155 = .ok (.goto 10, 3) := by decide +kernel
theorem dX4_workPair_158 : decode cX4_workPair 158 = .ok (.aload_n 0, 1) := by decide +kernel
theorem dX4_workPair_159 : decode cX4_workPair 159 = .ok (.iload_n 1, 1) := by decide +kernel
theorem dX4_workPair_160 : decode cX4_workPair 160 = .ok (.iload_n 3, 1) := by decide +kernel
theorem dX4_workPair_161 : decode cX4_workPair 161 = .ok (.iload_n 2, 1) := by decide +kernel
theorem dX4_workPair_162 : decode cX4_workPair 162 = .ok (.invokevirtual 184, 3) := by decide +kernel
theorem dX4_workPair_165 : decode cX4_workPair 165 = .ok (.return_, 1) := by decide +kernel
def wX4_workPair_b165 (a0 : Nat) (x1 : Int32)  (Sn : kp_S) (post : kp_S → Prop) : Prop :=
  post Sn
def wX4_workPair_b158 (a0 : Nat) (x1 : Int32) (xn2 : Int32) (xn3 : Int32)  (Sn : kp_S) (post : kp_S → Prop) : Prop :=
  wX4_divide a0 x1 xn3 xn2 Sn (fun T2001 =>
  wX4_workPair_b165 a0 x1   T2001 post)
def wX4_workPair_b101 (a0 : Nat) (x1 : Int32) (xt0 : Int32) (at1 : Nat)  (Sn : kp_S) (post : kp_S → Prop) : Prop :=
  wX4_push at1 xt0 Sn (fun T3001 =>
  wX4_workPair_b165 a0 x1   T3001 post)
def wX4_workPair_b118 (a0 : Nat) (x1 : Int32) (xt0 : Int32) (at1 : Nat)  (Sn : kp_S) (post : kp_S → Prop) : Prop :=
  wX4_push at1 xt0 Sn (fun T4001 =>
  wX4_workPair_b165 a0 x1   T4001 post)
def wX4_workPair_b135 (a0 : Nat) (x1 : Int32) (xt0 : Int32) (at1 : Nat)  (Sn : kp_S) (post : kp_S → Prop) : Prop :=
  wX4_push at1 xt0 Sn (fun T5001 =>
  wX4_workPair_b165 a0 x1   T5001 post)
def wX4_workPair_b152 (a0 : Nat) (x1 : Int32) (xt0 : Int32) (at1 : Nat)  (Sn : kp_S) (post : kp_S → Prop) : Prop :=
  wX4_push at1 xt0 Sn (fun T6001 =>
  wX4_workPair_b165 a0 x1   T6001 post)
def wX4_workPair (a0 : Nat) (x1 : Int32) (S : kp_S) (post : kp_S → Prop) : Prop :=
  wX4_pop a0 S (fun y2 T1 =>
  wX4_pop a0 T1 (fun y4 T3 =>
  ((x1 = 8 →
  wX4_push a0 (y4 + y2) T3 (fun T6 =>
  wX4_workPair_b165 a0 x1   T6 post)) ∧ (¬ x1 = 8 →
  ((x1 = 9 →
  wX4_push a0 (y4 - y2) T3 (fun T8 =>
  wX4_workPair_b165 a0 x1   T8 post)) ∧ (¬ x1 = 9 →
  ((x1 = 10 →
  wX4_push a0 (y4 * y2) T3 (fun T10 =>
  wX4_workPair_b165 a0 x1   T10 post)) ∧ (¬ x1 = 10 →
  ((x1 = 11 →
  wX4_workPair_b158 a0 x1 y2 y4  T3 post) ∧ (¬ x1 = 11 →
  ((x1 = 12 →
  wX4_workPair_b158 a0 x1 y2 y4  T3 post) ∧ (¬ x1 = 12 →
  ((x1 = 13 →
  ((¬ y4 = y2 →
  wX4_workPair_b101 a0 x1 0 a0  T3 post) ∧ (y4 = y2 →
  wX4_workPair_b101 a0 x1 1 a0  T3 post))) ∧ (¬ x1 = 13 →
  ((x1 = 14 →
  ((y4 = y2 →
  wX4_workPair_b118 a0 x1 0 a0  T3 post) ∧ (¬ y4 = y2 →
  wX4_workPair_b118 a0 x1 1 a0  T3 post))) ∧ (¬ x1 = 14 →
  ((x1 = 15 →
  ((y2 ≤ y4 →
  wX4_workPair_b135 a0 x1 0 a0  T3 post) ∧ (¬ y2 ≤ y4 →
  wX4_workPair_b135 a0 x1 1 a0  T3 post))) ∧ (¬ x1 = 15 →
  ((x1 = 16 →
  ((y2 < y4 →
  wX4_workPair_b152 a0 x1 0 a0  T3 post) ∧ (¬ y2 < y4 →
  wX4_workPair_b152 a0 x1 1 a0  T3 post))) ∧ (¬ x1 = 16 →
  wX4_workPair_b158 a0 x1 y2 y4  T3 post))))))))))))))))))))
set_option maxHeartbeats 4000000 in
set_option maxRecDepth 100000 in
theorem c_X4_workPair (l : Launch) (D : va_G) (cy : Nat → ClassId) (ad : (Nat → Nat) × (Nat → Nat)) (S : kp_S) (a0 : Nat) (x1 : Int32) (post : kp_S → Prop) (hS : kp_ok S) (f_a0 : kp_is S a0 4) (hw : wX4_workPair a0 x1 S post) : kp_M l yX4_workPair cX4_workPair 4 none { frames := 3, cells := 0, slots := 0, locals := 67 } D cy ad S [.ref a0, .int x1] 0 0 (fun A => kp_Qv D cy A S post) := by
  refine kp_start (own := RX4) (by decide) rfl (Nat.le_of_ble_eq_true rfl) hS ?_
  intro p e s m below meth c A ls X hr hlocks hname h hl
  have hle : kp_le S S := kp_le.rf
  have hl : lv_has ls 4 [(0, .ref a0), (1, .int x1)] := hl
  have j165 : ∀  (Sn : kp_S) (H : Heap) (locs : List Loc) (ls : Array Slot), lv_has ls 4 [] → kp_H D cy A Sn s.heap H locs → kp_le S Sn → kp_is Sn a0 4 → wX4_workPair_b165 a0 x1   Sn post → W p l e { frames := 3, cells := 0, slots := 0, locals := 67 } s m ([.ref a0, .int x1] : List Value).toArray below meth c H locs 0 0 (MQ below (kp_Qv D cy A S post) ([.ref a0, .int x1] : List Value).toArray s 0 0 A) (F0 m 165 ls []) := by
    intro  Sn H locs ls hl h hle f_a0 hw
    unfold wX4_workPair_b165 at hw
    exact kp_retv X hr hlocks h hle hw dX4_workPair_165
  have j158 : ∀ (xn2 : Int32) (xn3 : Int32) (Sn : kp_S) (H : Heap) (locs : List Loc) (ls : Array Slot), lv_has ls 4 [(0, .ref a0), (1, .int x1), (2, .int xn2), (3, .int xn3)] → kp_H D cy A Sn s.heap H locs → kp_le S Sn → kp_is Sn a0 4 → wX4_workPair_b158 a0 x1 xn2 xn3  Sn post → W p l e { frames := 3, cells := 0, slots := 0, locals := 67 } s m ([.ref a0, .int x1] : List Value).toArray below meth c H locs 0 0 (MQ below (kp_Qv D cy A S post) ([.ref a0, .int x1] : List Value).toArray s 0 0 A) (F0 m 158 ls []) := by
    intro xn2 xn3 Sn H locs ls hl h hle f_a0 hw
    unfold wX4_workPair_b158 at hw
    refine lv_aload_n X.1 X.2.1 dX4_workPair_158 rfl (lv_at hl 0 rfl) ?_
    refine lv_iload_n X.1 X.2.1 dX4_workPair_159 rfl (lv_at hl 1 rfl) ?_
    refine lv_iload_n X.1 X.2.1 dX4_workPair_160 rfl (lv_at hl 3 rfl) ?_
    refine lv_iload_n X.1 X.2.1 dX4_workPair_161 rfl (lv_at hl 2 rfl) ?_
    refine kp_callv X h (kp_runV (rm := { frames := 2, cells := 0, slots := 0, locals := 44 }) (mc := 0) (ms := 0) (rest := []) (Qc := fun A => kp_Qv D cy A Sn _) X h (c_X4_divide l D cy ad Sn a0 x1 xn3 xn2 _ h.2.2.2 f_a0 hw) f_a0 cv_4_184 ⟨by decide, by decide, rfl, rfl, by decide, by decide⟩ rfl hl.1 rfl (Nat.le_of_ble_eq_true rfl) dX4_workPair_162) (fun T2001 hw l_T2001 H locs h => ?_)
    have f_a0 := l_T2001.is f_a0
    have hle := hle.tr l_T2001
    exact j165  T2001 H locs ls (lv_sub hl [] rfl) h hle f_a0 hw
  have j101 : ∀ (xt0 : Int32) (at1 : Nat) (Sn : kp_S) (H : Heap) (locs : List Loc) (ls : Array Slot), lv_has ls 4 [] → kp_H D cy A Sn s.heap H locs → kp_le S Sn → kp_is Sn at1 4 → kp_is Sn a0 4 → wX4_workPair_b101 a0 x1 xt0 at1  Sn post → W p l e { frames := 3, cells := 0, slots := 0, locals := 67 } s m ([.ref a0, .int x1] : List Value).toArray below meth c H locs 0 0 (MQ below (kp_Qv D cy A S post) ([.ref a0, .int x1] : List Value).toArray s 0 0 A) (F0 m 101 ls [.int xt0, .ref at1]) := by
    intro xt0 at1 Sn H locs ls hl h hle f_at1 f_a0 hw
    unfold wX4_workPair_b101 at hw
    refine kp_callv X h (kp_runV (rm := { frames := 0, cells := 0, slots := 0, locals := 0 }) (mc := 0) (ms := 0) (rest := []) (Qc := fun A => kp_Qv D cy A Sn _) X h (c_X4_push l D cy ad Sn at1 xt0 _ h.2.2.2 f_at1 hw) f_at1 cv_4_85 ⟨by decide, by decide, rfl, rfl, by decide, by decide⟩ rfl hl.1 rfl (Nat.le_of_ble_eq_true rfl) dX4_workPair_101) (fun T3001 hw l_T3001 H locs h => ?_)
    have f_at1 := l_T3001.is f_at1
    have f_a0 := l_T3001.is f_a0
    have hle := hle.tr l_T3001
    refine lv_goto (tgt := 165) X.1 X.2.1 dX4_workPair_104 (by decide) ?_
    exact j165  T3001 H locs ls (lv_sub hl [] rfl) h hle f_a0 hw
  have j118 : ∀ (xt0 : Int32) (at1 : Nat) (Sn : kp_S) (H : Heap) (locs : List Loc) (ls : Array Slot), lv_has ls 4 [] → kp_H D cy A Sn s.heap H locs → kp_le S Sn → kp_is Sn at1 4 → kp_is Sn a0 4 → wX4_workPair_b118 a0 x1 xt0 at1  Sn post → W p l e { frames := 3, cells := 0, slots := 0, locals := 67 } s m ([.ref a0, .int x1] : List Value).toArray below meth c H locs 0 0 (MQ below (kp_Qv D cy A S post) ([.ref a0, .int x1] : List Value).toArray s 0 0 A) (F0 m 118 ls [.int xt0, .ref at1]) := by
    intro xt0 at1 Sn H locs ls hl h hle f_at1 f_a0 hw
    unfold wX4_workPair_b118 at hw
    refine kp_callv X h (kp_runV (rm := { frames := 0, cells := 0, slots := 0, locals := 0 }) (mc := 0) (ms := 0) (rest := []) (Qc := fun A => kp_Qv D cy A Sn _) X h (c_X4_push l D cy ad Sn at1 xt0 _ h.2.2.2 f_at1 hw) f_at1 cv_4_85 ⟨by decide, by decide, rfl, rfl, by decide, by decide⟩ rfl hl.1 rfl (Nat.le_of_ble_eq_true rfl) dX4_workPair_118) (fun T4001 hw l_T4001 H locs h => ?_)
    have f_at1 := l_T4001.is f_at1
    have f_a0 := l_T4001.is f_a0
    have hle := hle.tr l_T4001
    refine lv_goto (tgt := 165) X.1 X.2.1 dX4_workPair_121 (by decide) ?_
    exact j165  T4001 H locs ls (lv_sub hl [] rfl) h hle f_a0 hw
  have j135 : ∀ (xt0 : Int32) (at1 : Nat) (Sn : kp_S) (H : Heap) (locs : List Loc) (ls : Array Slot), lv_has ls 4 [] → kp_H D cy A Sn s.heap H locs → kp_le S Sn → kp_is Sn at1 4 → kp_is Sn a0 4 → wX4_workPair_b135 a0 x1 xt0 at1  Sn post → W p l e { frames := 3, cells := 0, slots := 0, locals := 67 } s m ([.ref a0, .int x1] : List Value).toArray below meth c H locs 0 0 (MQ below (kp_Qv D cy A S post) ([.ref a0, .int x1] : List Value).toArray s 0 0 A) (F0 m 135 ls [.int xt0, .ref at1]) := by
    intro xt0 at1 Sn H locs ls hl h hle f_at1 f_a0 hw
    unfold wX4_workPair_b135 at hw
    refine kp_callv X h (kp_runV (rm := { frames := 0, cells := 0, slots := 0, locals := 0 }) (mc := 0) (ms := 0) (rest := []) (Qc := fun A => kp_Qv D cy A Sn _) X h (c_X4_push l D cy ad Sn at1 xt0 _ h.2.2.2 f_at1 hw) f_at1 cv_4_85 ⟨by decide, by decide, rfl, rfl, by decide, by decide⟩ rfl hl.1 rfl (Nat.le_of_ble_eq_true rfl) dX4_workPair_135) (fun T5001 hw l_T5001 H locs h => ?_)
    have f_at1 := l_T5001.is f_at1
    have f_a0 := l_T5001.is f_a0
    have hle := hle.tr l_T5001
    refine lv_goto (tgt := 165) X.1 X.2.1 dX4_workPair_138 (by decide) ?_
    exact j165  T5001 H locs ls (lv_sub hl [] rfl) h hle f_a0 hw
  have j152 : ∀ (xt0 : Int32) (at1 : Nat) (Sn : kp_S) (H : Heap) (locs : List Loc) (ls : Array Slot), lv_has ls 4 [] → kp_H D cy A Sn s.heap H locs → kp_le S Sn → kp_is Sn at1 4 → kp_is Sn a0 4 → wX4_workPair_b152 a0 x1 xt0 at1  Sn post → W p l e { frames := 3, cells := 0, slots := 0, locals := 67 } s m ([.ref a0, .int x1] : List Value).toArray below meth c H locs 0 0 (MQ below (kp_Qv D cy A S post) ([.ref a0, .int x1] : List Value).toArray s 0 0 A) (F0 m 152 ls [.int xt0, .ref at1]) := by
    intro xt0 at1 Sn H locs ls hl h hle f_at1 f_a0 hw
    unfold wX4_workPair_b152 at hw
    refine kp_callv X h (kp_runV (rm := { frames := 0, cells := 0, slots := 0, locals := 0 }) (mc := 0) (ms := 0) (rest := []) (Qc := fun A => kp_Qv D cy A Sn _) X h (c_X4_push l D cy ad Sn at1 xt0 _ h.2.2.2 f_at1 hw) f_at1 cv_4_85 ⟨by decide, by decide, rfl, rfl, by decide, by decide⟩ rfl hl.1 rfl (Nat.le_of_ble_eq_true rfl) dX4_workPair_152) (fun T6001 hw l_T6001 H locs h => ?_)
    have f_at1 := l_T6001.is f_at1
    have f_a0 := l_T6001.is f_a0
    have hle := hle.tr l_T6001
    refine lv_goto (tgt := 165) X.1 X.2.1 dX4_workPair_155 (by decide) ?_
    exact j165  T6001 H locs ls (lv_sub hl [] rfl) h hle f_a0 hw
  unfold wX4_workPair at hw
  have h : kp_H D cy A S s.heap s.heap [] := h
  revert h
  intro h
  refine lv_aload_n X.1 X.2.1 dX4_workPair_0 rfl (lv_at hl 0 rfl) ?_
  refine kp_calli X h (kp_runV (rm := { frames := 0, cells := 0, slots := 0, locals := 0 }) (mc := 0) (ms := 0) (rest := []) (Qc := fun A => kp_Qi D cy A S _) X h (c_X4_pop l D cy ad S a0 _ h.2.2.2 f_a0 hw) f_a0 cv_4_181 ⟨by decide, by decide, rfl, rfl, by decide, by decide⟩ rfl hl.1 rfl (Nat.le_of_ble_eq_true rfl) dX4_workPair_1) (fun y2 T1 hw l_T1 H locs h => ?_)
  have f_a0 := l_T1.is f_a0
  have hle := hle.tr l_T1
  refine lv_istore_n (lv' := [(2, .int y2), (0, .ref a0), (1, .int x1)]) X.1 X.2.1 dX4_workPair_4 rfl hl (by decide) rfl (fun ls hl => ?_)
  refine lv_aload_n X.1 X.2.1 dX4_workPair_5 rfl (lv_at hl 1 rfl) ?_
  refine kp_calli X h (kp_runV (rm := { frames := 0, cells := 0, slots := 0, locals := 0 }) (mc := 0) (ms := 0) (rest := []) (Qc := fun A => kp_Qi D cy A T1 _) X h (c_X4_pop l D cy ad T1 a0 _ h.2.2.2 f_a0 hw) f_a0 cv_4_181 ⟨by decide, by decide, rfl, rfl, by decide, by decide⟩ rfl hl.1 rfl (Nat.le_of_ble_eq_true rfl) dX4_workPair_6) (fun y4 T3 hw l_T3 H locs h => ?_)
  have f_a0 := l_T3.is f_a0
  have hle := hle.tr l_T3
  refine lv_istore_n (lv' := [(3, .int y4), (2, .int y2), (0, .ref a0), (1, .int x1)]) X.1 X.2.1 dX4_workPair_9 rfl hl (by decide) rfl (fun ls hl => ?_)
  refine lv_iload_n X.1 X.2.1 dX4_workPair_10 rfl (lv_at hl 3 rfl) ?_
  by_cases c5 : x1 = 8
  · have hw := hw.1 c5
    refine lv_tableIn (off := 49) (tgt := 60) X.1 X.2.1 dX4_workPair_11 (by rw [c5]; decide) (by rw [c5]; decide) (by rw [c5]; decide) (by decide) ?_
    refine lv_aload_n X.1 X.2.1 dX4_workPair_60 rfl (lv_at hl 2 rfl) ?_
    refine lv_iload_n X.1 X.2.1 dX4_workPair_61 rfl (lv_at hl 0 rfl) ?_
    refine lv_iload_n X.1 X.2.1 dX4_workPair_62 rfl (lv_at hl 1 rfl) ?_
    refine lv_iadd X.1 X.2.1 dX4_workPair_63 ?_
    refine kp_callv X h (kp_runV (rm := { frames := 0, cells := 0, slots := 0, locals := 0 }) (mc := 0) (ms := 0) (rest := []) (Qc := fun A => kp_Qv D cy A T3 _) X h (c_X4_push l D cy ad T3 a0 (y4 + y2) _ h.2.2.2 f_a0 hw) f_a0 cv_4_85 ⟨by decide, by decide, rfl, rfl, by decide, by decide⟩ rfl hl.1 rfl (Nat.le_of_ble_eq_true rfl) dX4_workPair_64) (fun T6 hw l_T6 H locs h => ?_)
    have f_a0 := l_T6.is f_a0
    have hle := hle.tr l_T6
    refine lv_goto (tgt := 165) X.1 X.2.1 dX4_workPair_67 (by decide) ?_
    exact j165  T6 _ _ ls (lv_sub hl [] rfl) h hle f_a0 hw
  have hw := hw.2 c5
  by_cases c7 : x1 = 9
  · have hw := hw.1 c7
    refine lv_tableIn (off := 59) (tgt := 70) X.1 X.2.1 dX4_workPair_11 (by rw [c7]; decide) (by rw [c7]; decide) (by rw [c7]; decide) (by decide) ?_
    refine lv_aload_n X.1 X.2.1 dX4_workPair_70 rfl (lv_at hl 2 rfl) ?_
    refine lv_iload_n X.1 X.2.1 dX4_workPair_71 rfl (lv_at hl 0 rfl) ?_
    refine lv_iload_n X.1 X.2.1 dX4_workPair_72 rfl (lv_at hl 1 rfl) ?_
    refine lv_isub X.1 X.2.1 dX4_workPair_73 ?_
    refine kp_callv X h (kp_runV (rm := { frames := 0, cells := 0, slots := 0, locals := 0 }) (mc := 0) (ms := 0) (rest := []) (Qc := fun A => kp_Qv D cy A T3 _) X h (c_X4_push l D cy ad T3 a0 (y4 - y2) _ h.2.2.2 f_a0 hw) f_a0 cv_4_85 ⟨by decide, by decide, rfl, rfl, by decide, by decide⟩ rfl hl.1 rfl (Nat.le_of_ble_eq_true rfl) dX4_workPair_74) (fun T8 hw l_T8 H locs h => ?_)
    have f_a0 := l_T8.is f_a0
    have hle := hle.tr l_T8
    refine lv_goto (tgt := 165) X.1 X.2.1 dX4_workPair_77 (by decide) ?_
    exact j165  T8 _ _ ls (lv_sub hl [] rfl) h hle f_a0 hw
  have hw := hw.2 c7
  by_cases c9 : x1 = 10
  · have hw := hw.1 c9
    refine lv_tableIn (off := 69) (tgt := 80) X.1 X.2.1 dX4_workPair_11 (by rw [c9]; decide) (by rw [c9]; decide) (by rw [c9]; decide) (by decide) ?_
    refine lv_aload_n X.1 X.2.1 dX4_workPair_80 rfl (lv_at hl 2 rfl) ?_
    refine lv_iload_n X.1 X.2.1 dX4_workPair_81 rfl (lv_at hl 0 rfl) ?_
    refine lv_iload_n X.1 X.2.1 dX4_workPair_82 rfl (lv_at hl 1 rfl) ?_
    refine lv_imul X.1 X.2.1 dX4_workPair_83 ?_
    refine kp_callv X h (kp_runV (rm := { frames := 0, cells := 0, slots := 0, locals := 0 }) (mc := 0) (ms := 0) (rest := []) (Qc := fun A => kp_Qv D cy A T3 _) X h (c_X4_push l D cy ad T3 a0 (y4 * y2) _ h.2.2.2 f_a0 hw) f_a0 cv_4_85 ⟨by decide, by decide, rfl, rfl, by decide, by decide⟩ rfl hl.1 rfl (Nat.le_of_ble_eq_true rfl) dX4_workPair_84) (fun T10 hw l_T10 H locs h => ?_)
    have f_a0 := l_T10.is f_a0
    have hle := hle.tr l_T10
    refine lv_goto (tgt := 165) X.1 X.2.1 dX4_workPair_87 (by decide) ?_
    exact j165  T10 _ _ ls (lv_sub hl [] rfl) h hle f_a0 hw
  have hw := hw.2 c9
  by_cases c11 : x1 = 11
  · have hw := hw.1 c11
    refine lv_tableIn (off := 147) (tgt := 158) X.1 X.2.1 dX4_workPair_11 (by rw [c11]; decide) (by rw [c11]; decide) (by rw [c11]; decide) (by decide) ?_
    exact j158 y2 y4 T3 _ _ ls (lv_sub hl [2, 3, 1, 0] rfl) h hle f_a0 hw
  have hw := hw.2 c11
  by_cases c12 : x1 = 12
  · have hw := hw.1 c12
    refine lv_tableIn (off := 147) (tgt := 158) X.1 X.2.1 dX4_workPair_11 (by rw [c12]; decide) (by rw [c12]; decide) (by rw [c12]; decide) (by decide) ?_
    exact j158 y2 y4 T3 _ _ ls (lv_sub hl [2, 3, 1, 0] rfl) h hle f_a0 hw
  have hw := hw.2 c12
  by_cases c13 : x1 = 13
  · have hw := hw.1 c13
    refine lv_tableIn (off := 79) (tgt := 90) X.1 X.2.1 dX4_workPair_11 (by rw [c13]; decide) (by rw [c13]; decide) (by rw [c13]; decide) (by decide) ?_
    refine lv_aload_n X.1 X.2.1 dX4_workPair_90 rfl (lv_at hl 2 rfl) ?_
    refine lv_iload_n X.1 X.2.1 dX4_workPair_91 rfl (lv_at hl 0 rfl) ?_
    refine lv_iload_n X.1 X.2.1 dX4_workPair_92 rfl (lv_at hl 1 rfl) ?_
    refine lv_icmp_ne (tgt := 100) X.1 X.2.1 dX4_workPair_93 (by decide) (fun c14 => ?_) (fun c14 => ?_)
    · have hw := hw.1 c14
      refine lv_iconst (v := 0) X.1 X.2.1 dX4_workPair_100 (by decide) ?_
      exact j101 0 a0 T3 _ _ ls (lv_sub hl [] rfl) h hle f_a0 f_a0 hw
    · have hw := hw.2 c14
      refine lv_iconst (v := 1) X.1 X.2.1 dX4_workPair_96 (by decide) ?_
      refine lv_goto (tgt := 101) X.1 X.2.1 dX4_workPair_97 (by decide) ?_
      exact j101 1 a0 T3 _ _ ls (lv_sub hl [] rfl) h hle f_a0 f_a0 hw
  have hw := hw.2 c13
  by_cases c15 : x1 = 14
  · have hw := hw.1 c15
    refine lv_tableIn (off := 96) (tgt := 107) X.1 X.2.1 dX4_workPair_11 (by rw [c15]; decide) (by rw [c15]; decide) (by rw [c15]; decide) (by decide) ?_
    refine lv_aload_n X.1 X.2.1 dX4_workPair_107 rfl (lv_at hl 2 rfl) ?_
    refine lv_iload_n X.1 X.2.1 dX4_workPair_108 rfl (lv_at hl 0 rfl) ?_
    refine lv_iload_n X.1 X.2.1 dX4_workPair_109 rfl (lv_at hl 1 rfl) ?_
    refine lv_icmp_eq (tgt := 117) X.1 X.2.1 dX4_workPair_110 (by decide) (fun c16 => ?_) (fun c16 => ?_)
    · have hw := hw.1 c16
      refine lv_iconst (v := 0) X.1 X.2.1 dX4_workPair_117 (by decide) ?_
      exact j118 0 a0 T3 _ _ ls (lv_sub hl [] rfl) h hle f_a0 f_a0 hw
    · have hw := hw.2 c16
      refine lv_iconst (v := 1) X.1 X.2.1 dX4_workPair_113 (by decide) ?_
      refine lv_goto (tgt := 118) X.1 X.2.1 dX4_workPair_114 (by decide) ?_
      exact j118 1 a0 T3 _ _ ls (lv_sub hl [] rfl) h hle f_a0 f_a0 hw
  have hw := hw.2 c15
  by_cases c17 : x1 = 15
  · have hw := hw.1 c17
    refine lv_tableIn (off := 113) (tgt := 124) X.1 X.2.1 dX4_workPair_11 (by rw [c17]; decide) (by rw [c17]; decide) (by rw [c17]; decide) (by decide) ?_
    refine lv_aload_n X.1 X.2.1 dX4_workPair_124 rfl (lv_at hl 2 rfl) ?_
    refine lv_iload_n X.1 X.2.1 dX4_workPair_125 rfl (lv_at hl 0 rfl) ?_
    refine lv_iload_n X.1 X.2.1 dX4_workPair_126 rfl (lv_at hl 1 rfl) ?_
    refine lv_icmp_ge (tgt := 134) X.1 X.2.1 dX4_workPair_127 (by decide) (fun c18 => ?_) (fun c18 => ?_)
    · have hw := hw.1 c18
      refine lv_iconst (v := 0) X.1 X.2.1 dX4_workPair_134 (by decide) ?_
      exact j135 0 a0 T3 _ _ ls (lv_sub hl [] rfl) h hle f_a0 f_a0 hw
    · have hw := hw.2 c18
      refine lv_iconst (v := 1) X.1 X.2.1 dX4_workPair_130 (by decide) ?_
      refine lv_goto (tgt := 135) X.1 X.2.1 dX4_workPair_131 (by decide) ?_
      exact j135 1 a0 T3 _ _ ls (lv_sub hl [] rfl) h hle f_a0 f_a0 hw
  have hw := hw.2 c17
  by_cases c19 : x1 = 16
  · have hw := hw.1 c19
    refine lv_tableIn (off := 130) (tgt := 141) X.1 X.2.1 dX4_workPair_11 (by rw [c19]; decide) (by rw [c19]; decide) (by rw [c19]; decide) (by decide) ?_
    refine lv_aload_n X.1 X.2.1 dX4_workPair_141 rfl (lv_at hl 2 rfl) ?_
    refine lv_iload_n X.1 X.2.1 dX4_workPair_142 rfl (lv_at hl 0 rfl) ?_
    refine lv_iload_n X.1 X.2.1 dX4_workPair_143 rfl (lv_at hl 1 rfl) ?_
    refine lv_icmp_gt (tgt := 151) X.1 X.2.1 dX4_workPair_144 (by decide) (fun c20 => ?_) (fun c20 => ?_)
    · have hw := hw.1 c20
      refine lv_iconst (v := 0) X.1 X.2.1 dX4_workPair_151 (by decide) ?_
      exact j152 0 a0 T3 _ _ ls (lv_sub hl [] rfl) h hle f_a0 f_a0 hw
    · have hw := hw.2 c20
      refine lv_iconst (v := 1) X.1 X.2.1 dX4_workPair_147 (by decide) ?_
      refine lv_goto (tgt := 152) X.1 X.2.1 dX4_workPair_148 (by decide) ?_
      exact j152 1 a0 T3 _ _ ls (lv_sub hl [] rfl) h hle f_a0 f_a0 hw
  have hw := hw.2 c19
  have t_c5 := lv_neT (a := 8) c5 (by decide)
  have t_c7 := lv_neT (a := 9) c7 (by decide)
  have t_c9 := lv_neT (a := 10) c9 (by decide)
  have t_c11 := lv_neT (a := 11) c11 (by decide)
  have t_c12 := lv_neT (a := 12) c12 (by decide)
  have t_c13 := lv_neT (a := 13) c13 (by decide)
  have t_c15 := lv_neT (a := 14) c15 (by decide)
  have t_c17 := lv_neT (a := 15) c17 (by decide)
  have t_c19 := lv_neT (a := 16) c19 (by decide)
  refine lv_tableOut (tgt := 158) X.1 X.2.1 dX4_workPair_11 (by omega) (by decide) ?_
  exact j158 y2 y4 T3 _ _ ls (lv_sub hl [2, 3, 1, 0] rfl) h hle f_a0 hw
theorem dX4_workQuery_0 : decode cX4_workQuery 0 = .ok (.aload_n 0, 1) := by decide +kernel
theorem dX4_workQuery_1 : decode cX4_workQuery 1 = .ok (.invokevirtual 181, 3) := by decide +kernel
theorem dX4_workQuery_4 : decode cX4_workQuery 4 = .ok (.istore_n 2, 1) := by decide +kernel
theorem dX4_workQuery_5 : decode cX4_workQuery 5 = .ok (.iload_n 1, 1) := by decide +kernel
theorem dX4_workQuery_6 : decode cX4_workQuery 6 = .ok (.tableswitch 82 17 20 #[30, 42, 54, 70], 30) := by decide +kernel
theorem dX4_workQuery_36 : decode cX4_workQuery 36 = .ok (.aload_n 0, 1) := by decide +kernel
theorem dX4_workQuery_37 : decode cX4_workQuery 37 = .ok (.getfield 34, 3) := by decide +kernel
theorem dX4_workQuery_40 : decode cX4_workQuery 40 = .ok (.iload_n 2, 1) := by decide +kernel
theorem dX4_workQuery_41 : decode cX4_workQuery 41 = .ok (.invokevirtual 191, 3) := by decide +kernel
theorem dX4_workQuery_44 : decode cX4_workQuery 44 = .ok (.istore_n 3, 1) := by decide +kernel
theorem dX4_workQuery_45 : decode cX4_workQuery 45 = .ok (.goto 52, 3) := by decide +kernel
theorem dX4_workQuery_48 : decode cX4_workQuery 48 = .ok (.aload_n 0, 1) := by decide +kernel
theorem dX4_workQuery_49 : decode cX4_workQuery 49 = .ok (.getfield 34, 3) := by decide +kernel
theorem dX4_workQuery_52 : decode cX4_workQuery 52 = .ok (.iload_n 2, 1) := by decide +kernel
theorem dX4_workQuery_53 : decode cX4_workQuery 53 = .ok (.invokevirtual 194, 3) := by decide +kernel
theorem dX4_workQuery_56 : decode cX4_workQuery 56 = .ok (.istore_n 3, 1) := by decide +kernel
theorem dX4_workQuery_57 : decode cX4_workQuery 57 = .ok (.goto 40, 3) := by decide +kernel
theorem dX4_workQuery_60 : decode cX4_workQuery 60 = .ok (.aload_n 0, 1) := by decide +kernel
theorem dX4_workQuery_61 : decode cX4_workQuery 61 = .ok (.getfield 34, 3) := by decide +kernel
theorem dX4_workQuery_64 : decode cX4_workQuery 64 = .ok (.aload_n 0, 1) := by decide +kernel
theorem dX4_workQuery_65 : decode cX4_workQuery 65 = .ok (.invokevirtual 181, 3) := by decide +kernel
theorem dX4_workQuery_68 : decode cX4_workQuery 68 = .ok (.iload_n 2, 1) := by decide +kernel
theorem dX4_workQuery_69 : decode cX4_workQuery 69 = .ok (.invokevirtual 197, 3) := by decide +kernel
theorem dX4_workQuery_72 : decode cX4_workQuery 72 = .ok (.istore_n 3, 1) := by decide +kernel
theorem dX4_workQuery_73 : decode cX4_workQuery 73 = .ok (.goto 24, 3) := by decide +kernel
theorem dX4_workQuery_76 : decode cX4_workQuery 76 = .ok (.aload_n 0, 1) := by decide +kernel
theorem dX4_workQuery_77 : decode cX4_workQuery 77 = .ok (.getfield 34, 3) := by decide +kernel
theorem dX4_workQuery_80 : decode cX4_workQuery 80 = .ok (.iload_n 2, 1) := by decide +kernel
theorem dX4_workQuery_81 : decode cX4_workQuery 81 = .ok (.invokevirtual 201, 3) := by decide +kernel
theorem dX4_workQuery_84 : decode cX4_workQuery 84 = .ok (.istore_n 3, 1) := by decide +kernel
theorem dX4_workQuery_85 : decode cX4_workQuery 85 = .ok (.goto 12, 3) := by decide +kernel
theorem dX4_workQuery_88 : decode cX4_workQuery 88 = .ok (.aload_n 0, 1) := by decide +kernel
theorem dX4_workQuery_89 : decode cX4_workQuery 89 = .ok (.getfield 34, 3) := by decide +kernel
theorem dX4_workQuery_92 : decode cX4_workQuery 92 = .ok (.iload_n 2, 1) := by decide +kernel
theorem dX4_workQuery_93 : decode cX4_workQuery 93 = .ok (.invokevirtual 204, 3) := by decide +kernel
theorem dX4_workQuery_96 : decode cX4_workQuery 96 = .ok (.istore_n 3, 1) := by decide +kernel
theorem dX4_workQuery_97 : decode cX4_workQuery 97 = .ok (.iload_n 3, 1) := by decide +kernel
theorem dX4_workQuery_98 : decode cX4_workQuery 98 = .ok (.iconst (-1), 1) := by decide +kernel
theorem dX4_workQuery_99 : decode cX4_workQuery 99 = .ok (.if_icmp .ne 11, 3) := by decide +kernel
theorem dX4_workQuery_102 : decode cX4_workQuery 102 = .ok (.aload_n 0, 1) := by decide +kernel
theorem dX4_workQuery_103 : decode cX4_workQuery 103 = .ok (.iconst 3, 1) := by decide +kernel
theorem dX4_workQuery_104 : decode cX4_workQuery 104 = .ok (.invokevirtual 188, 3) := by decide +kernel
theorem dX4_workQuery_107 : decode cX4_workQuery 107 = .ok (.goto 8, 3) := by decide +kernel
theorem dX4_workQuery_110 : decode cX4_workQuery 110 = .ok (.aload_n 0, 1) := by decide +kernel
theorem dX4_workQuery_111 : decode cX4_workQuery 111 = .ok (.iload_n 3, 1) := by decide +kernel
theorem dX4_workQuery_112 : decode cX4_workQuery 112 = .ok (.invokevirtual 85, 3) := by decide +kernel
theorem dX4_workQuery_115 : decode cX4_workQuery 115 = .ok (.return_, 1) := by decide +kernel
def wX4_workQuery_b115 (a0 : Nat) (x1 : Int32)  (Sn : kp_S) (post : kp_S → Prop) : Prop :=
  post Sn
def wX4_workQuery_b97 (a0 : Nat) (x1 : Int32) (xn3 : Int32)  (Sn : kp_S) (post : kp_S → Prop) : Prop :=
  ((¬ xn3 = (-1) →
  wX4_push a0 xn3 Sn (fun T2001 =>
  wX4_workQuery_b115 a0 x1   T2001 post)) ∧ (xn3 = (-1) →
  wX4_trouble a0 3 Sn (fun T2002 =>
  wX4_workQuery_b115 a0 x1   T2002 post)))
def wX4_workQuery (a0 : Nat) (x1 : Int32) (S : kp_S) (post : kp_S → Prop) : Prop :=
  wX4_pop a0 S (fun y2 T1 =>
  ((x1 = 17 →
  ∃ b4 : Nat, kp_R T1 800 a0 = some b4 ∧
  wX1_levelOf b4 y2 T1 (fun y6 T5 =>
  wX4_workQuery_b97 a0 x1 y6  T5 post)) ∧ (¬ x1 = 17 →
  ((x1 = 18 →
  ∃ b8 : Nat, kp_R T1 800 a0 = some b8 ∧
  wX1_reachLevelOf b8 y2 T1 (fun y10 T9 =>
  wX4_workQuery_b97 a0 x1 y10  T9 post)) ∧ (¬ x1 = 18 →
  ((x1 = 19 →
  ∃ b12 : Nat, kp_R T1 800 a0 = some b12 ∧
  wX4_pop a0 T1 (fun y14 T13 =>
  wX1_gateOf b12 y14 y2 T13 (fun y16 T15 =>
  wX4_workQuery_b97 a0 x1 y16  T15 post))) ∧ (¬ x1 = 19 →
  ((x1 = 20 →
  ∃ b18 : Nat, kp_R T1 800 a0 = some b18 ∧
  wX1_placeOf b18 y2 T1 (fun y20 T19 =>
  wX4_workQuery_b97 a0 x1 y20  T19 post)) ∧ (¬ x1 = 20 →
  ∃ b21 : Nat, kp_R T1 800 a0 = some b21 ∧
  wX1_holdsOf b21 y2 T1 (fun y23 T22 =>
  wX4_workQuery_b97 a0 x1 y23  T22 post))))))))))
set_option maxHeartbeats 4000000 in
set_option maxRecDepth 100000 in
theorem c_X4_workQuery (l : Launch) (D : va_G) (cy : Nat → ClassId) (ad : (Nat → Nat) × (Nat → Nat)) (S : kp_S) (a0 : Nat) (x1 : Int32) (post : kp_S → Prop) (hS : kp_ok S) (f_a0 : kp_is S a0 4) (hw : wX4_workQuery a0 x1 S post) : kp_M l yX4_workQuery cX4_workQuery 4 none { frames := 2, cells := 0, slots := 0, locals := 44 } D cy ad S [.ref a0, .int x1] 0 0 (fun A => kp_Qv D cy A S post) := by
  refine kp_start (own := RX4) (by decide) rfl (Nat.le_of_ble_eq_true rfl) hS ?_
  intro p e s m below meth c A ls X hr hlocks hname h hl
  have hle : kp_le S S := kp_le.rf
  have hl : lv_has ls 4 [(0, .ref a0), (1, .int x1)] := hl
  have j115 : ∀  (Sn : kp_S) (H : Heap) (locs : List Loc) (ls : Array Slot), lv_has ls 4 [] → kp_H D cy A Sn s.heap H locs → kp_le S Sn → kp_is Sn a0 4 → wX4_workQuery_b115 a0 x1   Sn post → W p l e { frames := 2, cells := 0, slots := 0, locals := 44 } s m ([.ref a0, .int x1] : List Value).toArray below meth c H locs 0 0 (MQ below (kp_Qv D cy A S post) ([.ref a0, .int x1] : List Value).toArray s 0 0 A) (F0 m 115 ls []) := by
    intro  Sn H locs ls hl h hle f_a0 hw
    unfold wX4_workQuery_b115 at hw
    exact kp_retv X hr hlocks h hle hw dX4_workQuery_115
  have j97 : ∀ (xn3 : Int32) (Sn : kp_S) (H : Heap) (locs : List Loc) (ls : Array Slot), lv_has ls 4 [(0, .ref a0), (3, .int xn3)] → kp_H D cy A Sn s.heap H locs → kp_le S Sn → kp_is Sn a0 4 → wX4_workQuery_b97 a0 x1 xn3  Sn post → W p l e { frames := 2, cells := 0, slots := 0, locals := 44 } s m ([.ref a0, .int x1] : List Value).toArray below meth c H locs 0 0 (MQ below (kp_Qv D cy A S post) ([.ref a0, .int x1] : List Value).toArray s 0 0 A) (F0 m 97 ls []) := by
    intro xn3 Sn H locs ls hl h hle f_a0 hw
    unfold wX4_workQuery_b97 at hw
    refine lv_iload_n X.1 X.2.1 dX4_workQuery_97 rfl (lv_at hl 1 rfl) ?_
    refine lv_iconst (v := (-1)) X.1 X.2.1 dX4_workQuery_98 (by decide) ?_
    refine lv_icmp_ne (tgt := 110) X.1 X.2.1 dX4_workQuery_99 (by decide) (fun c2003 => ?_) (fun c2003 => ?_)
    · have hw := hw.1 c2003
      refine lv_aload_n X.1 X.2.1 dX4_workQuery_110 rfl (lv_at hl 0 rfl) ?_
      refine lv_iload_n X.1 X.2.1 dX4_workQuery_111 rfl (lv_at hl 1 rfl) ?_
      refine kp_callv X h (kp_runV (rm := { frames := 0, cells := 0, slots := 0, locals := 0 }) (mc := 0) (ms := 0) (rest := []) (Qc := fun A => kp_Qv D cy A Sn _) X h (c_X4_push l D cy ad Sn a0 xn3 _ h.2.2.2 f_a0 hw) f_a0 cv_4_85 ⟨by decide, by decide, rfl, rfl, by decide, by decide⟩ rfl hl.1 rfl (Nat.le_of_ble_eq_true rfl) dX4_workQuery_112) (fun T2001 hw l_T2001 H locs h => ?_)
      have f_a0 := l_T2001.is f_a0
      have hle := hle.tr l_T2001
      exact j115  T2001 H locs ls (lv_sub hl [] rfl) h hle f_a0 hw
    · have hw := hw.2 c2003
      refine lv_aload_n X.1 X.2.1 dX4_workQuery_102 rfl (lv_at hl 0 rfl) ?_
      refine lv_iconst (v := 3) X.1 X.2.1 dX4_workQuery_103 (by decide) ?_
      refine kp_callv X h (kp_runV (rm := { frames := 1, cells := 0, slots := 0, locals := 23 }) (mc := 0) (ms := 0) (rest := []) (Qc := fun A => kp_Qv D cy A Sn _) X h (c_X4_trouble l D cy ad Sn a0 3 _ h.2.2.2 f_a0 hw) f_a0 cv_4_188 ⟨by decide, by decide, rfl, rfl, by decide, by decide⟩ rfl hl.1 rfl (Nat.le_of_ble_eq_true rfl) dX4_workQuery_104) (fun T2002 hw l_T2002 H locs h => ?_)
      have f_a0 := l_T2002.is f_a0
      have hle := hle.tr l_T2002
      refine lv_goto (tgt := 115) X.1 X.2.1 dX4_workQuery_107 (by decide) ?_
      exact j115  T2002 H locs ls (lv_sub hl [] rfl) h hle f_a0 hw
  unfold wX4_workQuery at hw
  have h : kp_H D cy A S s.heap s.heap [] := h
  revert h
  intro h
  refine lv_aload_n X.1 X.2.1 dX4_workQuery_0 rfl (lv_at hl 0 rfl) ?_
  refine kp_calli X h (kp_runV (rm := { frames := 0, cells := 0, slots := 0, locals := 0 }) (mc := 0) (ms := 0) (rest := []) (Qc := fun A => kp_Qi D cy A S _) X h (c_X4_pop l D cy ad S a0 _ h.2.2.2 f_a0 hw) f_a0 cv_4_181 ⟨by decide, by decide, rfl, rfl, by decide, by decide⟩ rfl hl.1 rfl (Nat.le_of_ble_eq_true rfl) dX4_workQuery_1) (fun y2 T1 hw l_T1 H locs h => ?_)
  have f_a0 := l_T1.is f_a0
  have hle := hle.tr l_T1
  refine lv_istore_n (lv' := [(2, .int y2), (0, .ref a0), (1, .int x1)]) X.1 X.2.1 dX4_workQuery_4 rfl hl (by decide) rfl (fun ls hl => ?_)
  refine lv_iload_n X.1 X.2.1 dX4_workQuery_5 rfl (lv_at hl 2 rfl) ?_
  by_cases c3 : x1 = 17
  · have hw := hw.1 c3
    refine lv_tableIn (off := 30) (tgt := 36) X.1 X.2.1 dX4_workQuery_6 (by rw [c3]; decide) (by rw [c3]; decide) (by rw [c3]; decide) (by decide) ?_
    refine lv_aload_n X.1 X.2.1 dX4_workQuery_36 rfl (lv_at hl 1 rfl) ?_
    obtain ⟨b4, e_b4, hw⟩ := hw
    have f_b4 := h.2.2.2.rf (c := 4) (k := 0) f_a0 (by decide) (by decide) e_b4 (t := 1) rfl
    refine kp_get X h f_a0 ff_4_34.l (v := .ref b4) (congrArg va_rf e_b4) dX4_workQuery_37 ?_
    refine lv_iload_n X.1 X.2.1 dX4_workQuery_40 rfl (lv_at hl 0 rfl) ?_
    refine kp_calli X h (kp_runV (rm := { frames := 1, cells := 0, slots := 0, locals := 20 }) (mc := 0) (ms := 0) (rest := []) (Qc := fun A => kp_Qi D cy A T1 _) X h (c_X1_levelOf l D cy ad T1 b4 y2 _ h.2.2.2 f_b4 hw) f_b4 cv_4_191 ⟨by decide, by decide, rfl, rfl, by decide, by decide⟩ rfl hl.1 rfl (Nat.le_of_ble_eq_true rfl) dX4_workQuery_41) (fun y6 T5 hw l_T5 H locs h => ?_)
    have f_a0 := l_T5.is f_a0
    have f_b4 := l_T5.is f_b4
    have hle := hle.tr l_T5
    refine lv_istore_n (lv' := [(3, .int y6), (2, .int y2), (0, .ref a0), (1, .int x1)]) X.1 X.2.1 dX4_workQuery_44 rfl hl (by decide) rfl (fun ls hl => ?_)
    refine lv_goto (tgt := 97) X.1 X.2.1 dX4_workQuery_45 (by decide) ?_
    exact j97 y6 T5 _ _ ls (lv_sub hl [2, 0] rfl) h hle f_a0 hw
  have hw := hw.2 c3
  by_cases c7 : x1 = 18
  · have hw := hw.1 c7
    refine lv_tableIn (off := 42) (tgt := 48) X.1 X.2.1 dX4_workQuery_6 (by rw [c7]; decide) (by rw [c7]; decide) (by rw [c7]; decide) (by decide) ?_
    refine lv_aload_n X.1 X.2.1 dX4_workQuery_48 rfl (lv_at hl 1 rfl) ?_
    obtain ⟨b8, e_b8, hw⟩ := hw
    have f_b8 := h.2.2.2.rf (c := 4) (k := 0) f_a0 (by decide) (by decide) e_b8 (t := 1) rfl
    refine kp_get X h f_a0 ff_4_34.l (v := .ref b8) (congrArg va_rf e_b8) dX4_workQuery_49 ?_
    refine lv_iload_n X.1 X.2.1 dX4_workQuery_52 rfl (lv_at hl 0 rfl) ?_
    refine kp_calli X h (kp_runV (rm := { frames := 1, cells := 0, slots := 0, locals := 20 }) (mc := 0) (ms := 0) (rest := []) (Qc := fun A => kp_Qi D cy A T1 _) X h (c_X1_reachLevelOf l D cy ad T1 b8 y2 _ h.2.2.2 f_b8 hw) f_b8 cv_4_194 ⟨by decide, by decide, rfl, rfl, by decide, by decide⟩ rfl hl.1 rfl (Nat.le_of_ble_eq_true rfl) dX4_workQuery_53) (fun y10 T9 hw l_T9 H locs h => ?_)
    have f_a0 := l_T9.is f_a0
    have f_b8 := l_T9.is f_b8
    have hle := hle.tr l_T9
    refine lv_istore_n (lv' := [(3, .int y10), (2, .int y2), (0, .ref a0), (1, .int x1)]) X.1 X.2.1 dX4_workQuery_56 rfl hl (by decide) rfl (fun ls hl => ?_)
    refine lv_goto (tgt := 97) X.1 X.2.1 dX4_workQuery_57 (by decide) ?_
    exact j97 y10 T9 _ _ ls (lv_sub hl [2, 0] rfl) h hle f_a0 hw
  have hw := hw.2 c7
  by_cases c11 : x1 = 19
  · have hw := hw.1 c11
    refine lv_tableIn (off := 54) (tgt := 60) X.1 X.2.1 dX4_workQuery_6 (by rw [c11]; decide) (by rw [c11]; decide) (by rw [c11]; decide) (by decide) ?_
    refine lv_aload_n X.1 X.2.1 dX4_workQuery_60 rfl (lv_at hl 1 rfl) ?_
    obtain ⟨b12, e_b12, hw⟩ := hw
    have f_b12 := h.2.2.2.rf (c := 4) (k := 0) f_a0 (by decide) (by decide) e_b12 (t := 1) rfl
    refine kp_get X h f_a0 ff_4_34.l (v := .ref b12) (congrArg va_rf e_b12) dX4_workQuery_61 ?_
    refine lv_aload_n X.1 X.2.1 dX4_workQuery_64 rfl (lv_at hl 1 rfl) ?_
    refine kp_calli X h (kp_runV (rm := { frames := 0, cells := 0, slots := 0, locals := 0 }) (mc := 0) (ms := 0) (rest := [.ref b12]) (Qc := fun A => kp_Qi D cy A T1 _) X h (c_X4_pop l D cy ad T1 a0 _ h.2.2.2 f_a0 hw) f_a0 cv_4_181 ⟨by decide, by decide, rfl, rfl, by decide, by decide⟩ rfl hl.1 rfl (Nat.le_of_ble_eq_true rfl) dX4_workQuery_65) (fun y14 T13 hw l_T13 H locs h => ?_)
    have f_a0 := l_T13.is f_a0
    have f_b12 := l_T13.is f_b12
    have hle := hle.tr l_T13
    refine lv_iload_n X.1 X.2.1 dX4_workQuery_68 rfl (lv_at hl 0 rfl) ?_
    refine kp_calli X h (kp_runV (rm := { frames := 1, cells := 0, slots := 0, locals := 21 }) (mc := 0) (ms := 0) (rest := []) (Qc := fun A => kp_Qi D cy A T13 _) X h (c_X1_gateOf l D cy ad T13 b12 y14 y2 _ h.2.2.2 f_b12 hw) f_b12 cv_4_197 ⟨by decide, by decide, rfl, rfl, by decide, by decide⟩ rfl hl.1 rfl (Nat.le_of_ble_eq_true rfl) dX4_workQuery_69) (fun y16 T15 hw l_T15 H locs h => ?_)
    have f_a0 := l_T15.is f_a0
    have f_b12 := l_T15.is f_b12
    have hle := hle.tr l_T15
    refine lv_istore_n (lv' := [(3, .int y16), (2, .int y2), (0, .ref a0), (1, .int x1)]) X.1 X.2.1 dX4_workQuery_72 rfl hl (by decide) rfl (fun ls hl => ?_)
    refine lv_goto (tgt := 97) X.1 X.2.1 dX4_workQuery_73 (by decide) ?_
    exact j97 y16 T15 _ _ ls (lv_sub hl [2, 0] rfl) h hle f_a0 hw
  have hw := hw.2 c11
  by_cases c17 : x1 = 20
  · have hw := hw.1 c17
    refine lv_tableIn (off := 70) (tgt := 76) X.1 X.2.1 dX4_workQuery_6 (by rw [c17]; decide) (by rw [c17]; decide) (by rw [c17]; decide) (by decide) ?_
    refine lv_aload_n X.1 X.2.1 dX4_workQuery_76 rfl (lv_at hl 1 rfl) ?_
    obtain ⟨b18, e_b18, hw⟩ := hw
    have f_b18 := h.2.2.2.rf (c := 4) (k := 0) f_a0 (by decide) (by decide) e_b18 (t := 1) rfl
    refine kp_get X h f_a0 ff_4_34.l (v := .ref b18) (congrArg va_rf e_b18) dX4_workQuery_77 ?_
    refine lv_iload_n X.1 X.2.1 dX4_workQuery_80 rfl (lv_at hl 0 rfl) ?_
    refine kp_calli X h (kp_runV (rm := { frames := 1, cells := 0, slots := 0, locals := 20 }) (mc := 0) (ms := 0) (rest := []) (Qc := fun A => kp_Qi D cy A T1 _) X h (c_X1_placeOf l D cy ad T1 b18 y2 _ h.2.2.2 f_b18 hw) f_b18 cv_4_201 ⟨by decide, by decide, rfl, rfl, by decide, by decide⟩ rfl hl.1 rfl (Nat.le_of_ble_eq_true rfl) dX4_workQuery_81) (fun y20 T19 hw l_T19 H locs h => ?_)
    have f_a0 := l_T19.is f_a0
    have f_b18 := l_T19.is f_b18
    have hle := hle.tr l_T19
    refine lv_istore_n (lv' := [(3, .int y20), (2, .int y2), (0, .ref a0), (1, .int x1)]) X.1 X.2.1 dX4_workQuery_84 rfl hl (by decide) rfl (fun ls hl => ?_)
    refine lv_goto (tgt := 97) X.1 X.2.1 dX4_workQuery_85 (by decide) ?_
    exact j97 y20 T19 _ _ ls (lv_sub hl [2, 0] rfl) h hle f_a0 hw
  have hw := hw.2 c17
  have t_c3 := lv_neT (a := 17) c3 (by decide)
  have t_c7 := lv_neT (a := 18) c7 (by decide)
  have t_c11 := lv_neT (a := 19) c11 (by decide)
  have t_c17 := lv_neT (a := 20) c17 (by decide)
  refine lv_tableOut (tgt := 88) X.1 X.2.1 dX4_workQuery_6 (by omega) (by decide) ?_
  refine lv_aload_n X.1 X.2.1 dX4_workQuery_88 rfl (lv_at hl 1 rfl) ?_
  obtain ⟨b21, e_b21, hw⟩ := hw
  have f_b21 := h.2.2.2.rf (c := 4) (k := 0) f_a0 (by decide) (by decide) e_b21 (t := 1) rfl
  refine kp_get X h f_a0 ff_4_34.l (v := .ref b21) (congrArg va_rf e_b21) dX4_workQuery_89 ?_
  refine lv_iload_n X.1 X.2.1 dX4_workQuery_92 rfl (lv_at hl 0 rfl) ?_
  refine kp_calli X h (kp_runV (rm := { frames := 1, cells := 0, slots := 0, locals := 20 }) (mc := 0) (ms := 0) (rest := []) (Qc := fun A => kp_Qi D cy A T1 _) X h (c_X1_holdsOf l D cy ad T1 b21 y2 _ h.2.2.2 f_b21 hw) f_b21 cv_4_204 ⟨by decide, by decide, rfl, rfl, by decide, by decide⟩ rfl hl.1 rfl (Nat.le_of_ble_eq_true rfl) dX4_workQuery_93) (fun y23 T22 hw l_T22 H locs h => ?_)
  have f_a0 := l_T22.is f_a0
  have f_b21 := l_T22.is f_b21
  have hle := hle.tr l_T22
  refine lv_istore_n (lv' := [(3, .int y23), (2, .int y2), (0, .ref a0), (1, .int x1)]) X.1 X.2.1 dX4_workQuery_96 rfl hl (by decide) rfl (fun ls hl => ?_)
  exact j97 y23 T22 _ _ ls (lv_sub hl [2, 0] rfl) h hle f_a0 hw
theorem dX4_jumpIf_0 : decode cX4_jumpIf 0 = .ok (.iload_n 1, 1) := by decide +kernel
theorem dX4_jumpIf_1 : decode cX4_jumpIf 1 = .ok (.ifCond .eq 8, 3) := by decide +kernel
theorem dX4_jumpIf_4 : decode cX4_jumpIf 4 = .ok (.aload_n 0, 1) := by decide +kernel
theorem dX4_jumpIf_5 : decode cX4_jumpIf 5 = .ok (.iload_n 2, 1) := by decide +kernel
theorem dX4_jumpIf_6 : decode cX4_jumpIf 6 = .ok (.putfield 145, 3) := by decide +kernel
theorem dX4_jumpIf_9 : decode cX4_jumpIf 9 = .ok (.return_, 1) := by decide +kernel
def wX4_jumpIf_b9 (a0 : Nat) (x1 : Int32) (x2 : Int32)  (Sn : kp_S) (post : kp_S → Prop) : Prop :=
  post Sn
def wX4_jumpIf (a0 : Nat) (x1 : Int32) (x2 : Int32) (S : kp_S) (post : kp_S → Prop) : Prop :=
  ((x1 = 0 →
  wX4_jumpIf_b9 a0 x1 x2   S post) ∧ (¬ x1 = 0 →
  ∀ T1 : kp_S, T1 = kp_sI S 810 a0 x2 →
  wX4_jumpIf_b9 a0 x1 x2   T1 post))
set_option maxHeartbeats 4000000 in
set_option maxRecDepth 100000 in
theorem c_X4_jumpIf (l : Launch) (D : va_G) (cy : Nat → ClassId) (ad : (Nat → Nat) × (Nat → Nat)) (S : kp_S) (a0 : Nat) (x1 : Int32) (x2 : Int32) (post : kp_S → Prop) (hS : kp_ok S) (f_a0 : kp_is S a0 4) (hw : wX4_jumpIf a0 x1 x2 S post) : kp_M l yX4_jumpIf cX4_jumpIf 3 none { frames := 0, cells := 0, slots := 0, locals := 0 } D cy ad S [.ref a0, .int x1, .int x2] 0 0 (fun A => kp_Qv D cy A S post) := by
  refine kp_start (own := RX4) (by decide) rfl (Nat.le_of_ble_eq_true rfl) hS ?_
  intro p e s m below meth c A ls X hr hlocks hname h hl
  have hle : kp_le S S := kp_le.rf
  have hl : lv_has ls 3 [(0, .ref a0), (1, .int x1), (2, .int x2)] := hl
  have j9 : ∀  (Sn : kp_S) (H : Heap) (locs : List Loc) (ls : Array Slot), lv_has ls 3 [] → kp_H D cy A Sn s.heap H locs → kp_le S Sn → kp_is Sn a0 4 → wX4_jumpIf_b9 a0 x1 x2   Sn post → W p l e { frames := 0, cells := 0, slots := 0, locals := 0 } s m ([.ref a0, .int x1, .int x2] : List Value).toArray below meth c H locs 0 0 (MQ below (kp_Qv D cy A S post) ([.ref a0, .int x1, .int x2] : List Value).toArray s 0 0 A) (F0 m 9 ls []) := by
    intro  Sn H locs ls hl h hle f_a0 hw
    unfold wX4_jumpIf_b9 at hw
    exact kp_retv X hr hlocks h hle hw dX4_jumpIf_9
  unfold wX4_jumpIf at hw
  have h : kp_H D cy A S s.heap s.heap [] := h
  revert h
  intro h
  refine lv_iload_n X.1 X.2.1 dX4_jumpIf_0 rfl (lv_at hl 1 rfl) ?_
  refine lv_if_eq (tgt := 9) X.1 X.2.1 dX4_jumpIf_1 (by decide) (fun c2 => ?_) (fun c2 => ?_)
  · have hw := hw.1 c2
    exact j9  S _ _ ls (lv_sub hl [] rfl) h hle f_a0 hw
  · have hw := hw.2 c2
    refine lv_aload_n X.1 X.2.1 dX4_jumpIf_4 rfl (lv_at hl 0 rfl) ?_
    refine lv_iload_n X.1 X.2.1 dX4_jumpIf_5 rfl (lv_at hl 2 rfl) ?_
    refine kp_putI X h f_a0 fp_4_145 rfl ⟨rfl, rfl⟩ dX4_jumpIf_6 (fun T1 e_T1 l_T1 H locs h => ?_)
    have hw := hw T1 e_T1
    have f_a0 := l_T1.is f_a0
    have hle := hle.tr l_T1
    exact j9  T1 _ _ ls (lv_sub hl [] rfl) h hle f_a0 hw
theorem dX4_settle_0 : decode cX4_settle 0 = .ok (.aload_n 0, 1) := by decide +kernel
theorem dX4_settle_1 : decode cX4_settle 1 = .ok (.invokevirtual 181, 3) := by decide +kernel
theorem dX4_settle_4 : decode cX4_settle 4 = .ok (.istore_n 3, 1) := by decide +kernel
theorem dX4_settle_5 : decode cX4_settle 5 = .ok (.iload_n 1, 1) := by decide +kernel
theorem dX4_settle_6 : decode cX4_settle 6 = .ok (.ifCond .eq 21, 3) := by decide +kernel
theorem dX4_settle_9 : decode cX4_settle 9 = .ok (.aload_n 0, 1) := by decide +kernel
theorem dX4_settle_10 : decode cX4_settle 10 = .ok (.iload_n 3, 1) := by decide +kernel
theorem dX4_settle_11 : decode cX4_settle 11 = .ok (.ifCond .eq 7, 3) := by decide +kernel
theorem dX4_settle_14 : decode cX4_settle 14 = .ok (.iconst 1, 1) := by decide +kernel
theorem dX4_settle_15 : decode cX4_settle 15 = .ok (.goto 4, 3) := by decide +kernel
theorem dX4_settle_18 : decode cX4_settle 18 = .ok (.iconst 0, 1) := by decide +kernel
theorem dX4_settle_19 : decode cX4_settle 19 = .ok (.invokevirtual 85, 3) := by decide +kernel
theorem dX4_settle_22 : decode cX4_settle 22 = .ok (.aload_n 0, 1) := by decide +kernel
theorem dX4_settle_23 : decode cX4_settle 23 = .ok (.iload_n 2, 1) := by decide +kernel
theorem dX4_settle_24 : decode cX4_settle 24 = .ok (.putfield 145, 3) := by decide +kernel
theorem dX4_settle_27 : decode cX4_settle 27 = .ok (.return_, 1) := by decide +kernel
def wX4_settle_b27 (a0 : Nat) (x1 : Int32) (x2 : Int32)  (Sn : kp_S) (post : kp_S → Prop) : Prop :=
  post Sn
def wX4_settle_b19 (a0 : Nat) (x1 : Int32) (x2 : Int32) (xt0 : Int32) (at1 : Nat)  (Sn : kp_S) (post : kp_S → Prop) : Prop :=
  wX4_push at1 xt0 Sn (fun T2001 =>
  ∀ T2002 : kp_S, T2002 = kp_sI T2001 810 a0 x2 →
  wX4_settle_b27 a0 x1 x2   T2002 post)
def wX4_settle (a0 : Nat) (x1 : Int32) (x2 : Int32) (S : kp_S) (post : kp_S → Prop) : Prop :=
  wX4_pop a0 S (fun y2 T1 =>
  ((x1 = 0 →
  wX4_settle_b27 a0 x1 x2   T1 post) ∧ (¬ x1 = 0 →
  ((y2 = 0 →
  wX4_settle_b19 a0 x1 x2 0 a0  T1 post) ∧ (¬ y2 = 0 →
  wX4_settle_b19 a0 x1 x2 1 a0  T1 post)))))
set_option maxHeartbeats 4000000 in
set_option maxRecDepth 100000 in
theorem c_X4_settle (l : Launch) (D : va_G) (cy : Nat → ClassId) (ad : (Nat → Nat) × (Nat → Nat)) (S : kp_S) (a0 : Nat) (x1 : Int32) (x2 : Int32) (post : kp_S → Prop) (hS : kp_ok S) (f_a0 : kp_is S a0 4) (hw : wX4_settle a0 x1 x2 S post) : kp_M l yX4_settle cX4_settle 4 none { frames := 1, cells := 0, slots := 0, locals := 21 } D cy ad S [.ref a0, .int x1, .int x2] 0 0 (fun A => kp_Qv D cy A S post) := by
  refine kp_start (own := RX4) (by decide) rfl (Nat.le_of_ble_eq_true rfl) hS ?_
  intro p e s m below meth c A ls X hr hlocks hname h hl
  have hle : kp_le S S := kp_le.rf
  have hl : lv_has ls 4 [(0, .ref a0), (1, .int x1), (2, .int x2)] := hl
  have j27 : ∀  (Sn : kp_S) (H : Heap) (locs : List Loc) (ls : Array Slot), lv_has ls 4 [] → kp_H D cy A Sn s.heap H locs → kp_le S Sn → kp_is Sn a0 4 → wX4_settle_b27 a0 x1 x2   Sn post → W p l e { frames := 1, cells := 0, slots := 0, locals := 21 } s m ([.ref a0, .int x1, .int x2] : List Value).toArray below meth c H locs 0 0 (MQ below (kp_Qv D cy A S post) ([.ref a0, .int x1, .int x2] : List Value).toArray s 0 0 A) (F0 m 27 ls []) := by
    intro  Sn H locs ls hl h hle f_a0 hw
    unfold wX4_settle_b27 at hw
    exact kp_retv X hr hlocks h hle hw dX4_settle_27
  have j19 : ∀ (xt0 : Int32) (at1 : Nat) (Sn : kp_S) (H : Heap) (locs : List Loc) (ls : Array Slot), lv_has ls 4 [(0, .ref a0), (2, .int x2)] → kp_H D cy A Sn s.heap H locs → kp_le S Sn → kp_is Sn a0 4 → kp_is Sn at1 4 → wX4_settle_b19 a0 x1 x2 xt0 at1  Sn post → W p l e { frames := 1, cells := 0, slots := 0, locals := 21 } s m ([.ref a0, .int x1, .int x2] : List Value).toArray below meth c H locs 0 0 (MQ below (kp_Qv D cy A S post) ([.ref a0, .int x1, .int x2] : List Value).toArray s 0 0 A) (F0 m 19 ls [.int xt0, .ref at1]) := by
    intro xt0 at1 Sn H locs ls hl h hle f_a0 f_at1 hw
    unfold wX4_settle_b19 at hw
    refine kp_callv X h (kp_runV (rm := { frames := 0, cells := 0, slots := 0, locals := 0 }) (mc := 0) (ms := 0) (rest := []) (Qc := fun A => kp_Qv D cy A Sn _) X h (c_X4_push l D cy ad Sn at1 xt0 _ h.2.2.2 f_at1 hw) f_at1 cv_4_85 ⟨by decide, by decide, rfl, rfl, by decide, by decide⟩ rfl hl.1 rfl (Nat.le_of_ble_eq_true rfl) dX4_settle_19) (fun T2001 hw l_T2001 H locs h => ?_)
    have f_a0 := l_T2001.is f_a0
    have f_at1 := l_T2001.is f_at1
    have hle := hle.tr l_T2001
    refine lv_aload_n X.1 X.2.1 dX4_settle_22 rfl (lv_at hl 0 rfl) ?_
    refine lv_iload_n X.1 X.2.1 dX4_settle_23 rfl (lv_at hl 1 rfl) ?_
    refine kp_putI X h f_a0 fp_4_145 rfl ⟨rfl, rfl⟩ dX4_settle_24 (fun T2002 e_T2002 l_T2002 H locs h => ?_)
    have hw := hw T2002 e_T2002
    have f_a0 := l_T2002.is f_a0
    have f_at1 := l_T2002.is f_at1
    have hle := hle.tr l_T2002
    exact j27  T2002 H locs ls (lv_sub hl [] rfl) h hle f_a0 hw
  unfold wX4_settle at hw
  have h : kp_H D cy A S s.heap s.heap [] := h
  revert h
  intro h
  refine lv_aload_n X.1 X.2.1 dX4_settle_0 rfl (lv_at hl 0 rfl) ?_
  refine kp_calli X h (kp_runV (rm := { frames := 0, cells := 0, slots := 0, locals := 0 }) (mc := 0) (ms := 0) (rest := []) (Qc := fun A => kp_Qi D cy A S _) X h (c_X4_pop l D cy ad S a0 _ h.2.2.2 f_a0 hw) f_a0 cv_4_181 ⟨by decide, by decide, rfl, rfl, by decide, by decide⟩ rfl hl.1 rfl (Nat.le_of_ble_eq_true rfl) dX4_settle_1) (fun y2 T1 hw l_T1 H locs h => ?_)
  have f_a0 := l_T1.is f_a0
  have hle := hle.tr l_T1
  refine lv_istore_n (lv' := [(3, .int y2), (0, .ref a0), (1, .int x1), (2, .int x2)]) X.1 X.2.1 dX4_settle_4 rfl hl (by decide) rfl (fun ls hl => ?_)
  refine lv_iload_n X.1 X.2.1 dX4_settle_5 rfl (lv_at hl 2 rfl) ?_
  refine lv_if_eq (tgt := 27) X.1 X.2.1 dX4_settle_6 (by decide) (fun c4 => ?_) (fun c4 => ?_)
  · have hw := hw.1 c4
    exact j27  T1 _ _ ls (lv_sub hl [] rfl) h hle f_a0 hw
  · have hw := hw.2 c4
    refine lv_aload_n X.1 X.2.1 dX4_settle_9 rfl (lv_at hl 1 rfl) ?_
    refine lv_iload_n X.1 X.2.1 dX4_settle_10 rfl (lv_at hl 0 rfl) ?_
    refine lv_if_eq (tgt := 18) X.1 X.2.1 dX4_settle_11 (by decide) (fun c3 => ?_) (fun c3 => ?_)
    · have hw := hw.1 c3
      refine lv_iconst (v := 0) X.1 X.2.1 dX4_settle_18 (by decide) ?_
      exact j19 0 a0 T1 _ _ ls (lv_sub hl [1, 3] rfl) h hle f_a0 f_a0 hw
    · have hw := hw.2 c3
      refine lv_iconst (v := 1) X.1 X.2.1 dX4_settle_14 (by decide) ?_
      refine lv_goto (tgt := 19) X.1 X.2.1 dX4_settle_15 (by decide) ?_
      exact j19 1 a0 T1 _ _ ls (lv_sub hl [1, 3] rfl) h hle f_a0 f_a0 hw
theorem dX4_match_0 : decode cX4_match 0 = .ok (.iload_n 1, 1) := by decide +kernel
theorem dX4_match_1 : decode cX4_match 1 = .ok (.aload_n 0, 1) := by decide +kernel
theorem dX4_match_2 : decode cX4_match 2 = .ok (.iconst 0, 1) := by decide +kernel
theorem dX4_match_3 : decode cX4_match 3 = .ok (.invokevirtual 211, 3) := by decide +kernel
theorem dX4_match_6 : decode cX4_match 6 = .ok (.if_icmp .ne 13, 3) := by decide +kernel
theorem dX4_match_9 : decode cX4_match 9 = .ok (.aload_n 0, 1) := by decide +kernel
theorem dX4_match_10 : decode cX4_match 10 = .ok (.invokevirtual 181, 3) := by decide +kernel
theorem dX4_match_13 : decode cX4_match 13 = .ok (.pop, 1) := by decide +kernel
theorem dX4_match_14 : decode cX4_match 14 = .ok (.aload_n 0, 1) := by decide +kernel
theorem dX4_match_15 : decode cX4_match 15 = .ok (.iload_n 2, 1) := by decide +kernel
theorem dX4_match_16 : decode cX4_match 16 = .ok (.putfield 145, 3) := by decide +kernel
theorem dX4_match_19 : decode cX4_match 19 = .ok (.return_, 1) := by decide +kernel
def wX4_match_b19 (a0 : Nat) (x1 : Int32) (x2 : Int32)  (Sn : kp_S) (post : kp_S → Prop) : Prop :=
  post Sn
def wX4_match (a0 : Nat) (x1 : Int32) (x2 : Int32) (S : kp_S) (post : kp_S → Prop) : Prop :=
  wX4_peek a0 0 S (fun y2 T1 =>
  ((¬ x1 = y2 →
  wX4_match_b19 a0 x1 x2   T1 post) ∧ (x1 = y2 →
  wX4_pop a0 T1 (fun y4 T3 =>
  ∀ T5 : kp_S, T5 = kp_sI T3 810 a0 x2 →
  wX4_match_b19 a0 x1 x2   T5 post))))
set_option maxHeartbeats 4000000 in
set_option maxRecDepth 100000 in
theorem c_X4_match (l : Launch) (D : va_G) (cy : Nat → ClassId) (ad : (Nat → Nat) × (Nat → Nat)) (S : kp_S) (a0 : Nat) (x1 : Int32) (x2 : Int32) (post : kp_S → Prop) (hS : kp_ok S) (f_a0 : kp_is S a0 4) (hw : wX4_match a0 x1 x2 S post) : kp_M l yX4_match cX4_match 3 none { frames := 1, cells := 0, slots := 0, locals := 22 } D cy ad S [.ref a0, .int x1, .int x2] 0 0 (fun A => kp_Qv D cy A S post) := by
  refine kp_start (own := RX4) (by decide) rfl (Nat.le_of_ble_eq_true rfl) hS ?_
  intro p e s m below meth c A ls X hr hlocks hname h hl
  have hle : kp_le S S := kp_le.rf
  have hl : lv_has ls 3 [(0, .ref a0), (1, .int x1), (2, .int x2)] := hl
  have j19 : ∀  (Sn : kp_S) (H : Heap) (locs : List Loc) (ls : Array Slot), lv_has ls 3 [] → kp_H D cy A Sn s.heap H locs → kp_le S Sn → kp_is Sn a0 4 → wX4_match_b19 a0 x1 x2   Sn post → W p l e { frames := 1, cells := 0, slots := 0, locals := 22 } s m ([.ref a0, .int x1, .int x2] : List Value).toArray below meth c H locs 0 0 (MQ below (kp_Qv D cy A S post) ([.ref a0, .int x1, .int x2] : List Value).toArray s 0 0 A) (F0 m 19 ls []) := by
    intro  Sn H locs ls hl h hle f_a0 hw
    unfold wX4_match_b19 at hw
    exact kp_retv X hr hlocks h hle hw dX4_match_19
  unfold wX4_match at hw
  have h : kp_H D cy A S s.heap s.heap [] := h
  revert h
  intro h
  refine lv_iload_n X.1 X.2.1 dX4_match_0 rfl (lv_at hl 1 rfl) ?_
  refine lv_aload_n X.1 X.2.1 dX4_match_1 rfl (lv_at hl 0 rfl) ?_
  refine lv_iconst (v := 0) X.1 X.2.1 dX4_match_2 (by decide) ?_
  refine kp_calli X h (kp_runV (rm := { frames := 0, cells := 0, slots := 0, locals := 0 }) (mc := 0) (ms := 0) (rest := [.int x1]) (Qc := fun A => kp_Qi D cy A S _) X h (c_X4_peek l D cy ad S a0 0 _ h.2.2.2 f_a0 hw) f_a0 cv_4_211 ⟨by decide, by decide, rfl, rfl, by decide, by decide⟩ rfl hl.1 rfl (Nat.le_of_ble_eq_true rfl) dX4_match_3) (fun y2 T1 hw l_T1 H locs h => ?_)
  have f_a0 := l_T1.is f_a0
  have hle := hle.tr l_T1
  refine lv_icmp_ne (tgt := 19) X.1 X.2.1 dX4_match_6 (by decide) (fun c6 => ?_) (fun c6 => ?_)
  · have hw := hw.1 c6
    exact j19  T1 _ _ ls (lv_sub hl [] rfl) h hle f_a0 hw
  · have hw := hw.2 c6
    refine lv_aload_n X.1 X.2.1 dX4_match_9 rfl (lv_at hl 0 rfl) ?_
    refine kp_calli X h (kp_runV (rm := { frames := 0, cells := 0, slots := 0, locals := 0 }) (mc := 0) (ms := 0) (rest := []) (Qc := fun A => kp_Qi D cy A T1 _) X h (c_X4_pop l D cy ad T1 a0 _ h.2.2.2 f_a0 hw) f_a0 cv_4_181 ⟨by decide, by decide, rfl, rfl, by decide, by decide⟩ rfl hl.1 rfl (Nat.le_of_ble_eq_true rfl) dX4_match_10) (fun y4 T3 hw l_T3 H locs h => ?_)
    have f_a0 := l_T3.is f_a0
    have hle := hle.tr l_T3
    refine lv_pop X.1 X.2.1 dX4_match_13 rfl ?_
    refine lv_aload_n X.1 X.2.1 dX4_match_14 rfl (lv_at hl 0 rfl) ?_
    refine lv_iload_n X.1 X.2.1 dX4_match_15 rfl (lv_at hl 2 rfl) ?_
    refine kp_putI X h f_a0 fp_4_145 rfl ⟨rfl, rfl⟩ dX4_match_16 (fun T5 e_T5 l_T5 H locs h => ?_)
    have hw := hw T5 e_T5
    have f_a0 := l_T5.is f_a0
    have hle := hle.tr l_T5
    exact j19  T5 _ _ ls (lv_sub hl [] rfl) h hle f_a0 hw
theorem dX4_beginRoundOfEach_0 : decode cX4_beginRoundOfEach 0 = .ok (.aload_n 0, 1) := by decide +kernel
theorem dX4_beginRoundOfEach_1 : decode cX4_beginRoundOfEach 1 = .ok (.iconst 1, 1) := by decide +kernel
theorem dX4_beginRoundOfEach_2 : decode cX4_beginRoundOfEach 2 = .ok (.invokevirtual 211, 3) := by decide +kernel
theorem dX4_beginRoundOfEach_5 : decode cX4_beginRoundOfEach 5 = .ok (.aload_n 0, 1) := by decide +kernel
theorem dX4_beginRoundOfEach_6 : decode cX4_beginRoundOfEach 6 = .ok (.iconst 0, 1) := by decide +kernel
theorem dX4_beginRoundOfEach_7 : decode cX4_beginRoundOfEach 7 = .ok (.invokevirtual 211, 3) := by decide +kernel
theorem dX4_beginRoundOfEach_10 : decode cX4_beginRoundOfEach 10 = .ok (.if_icmp .le 11, 3) := by decide +kernel
theorem dX4_beginRoundOfEach_13 : decode cX4_beginRoundOfEach 13 = .ok (.aload_n 0, 1) := by decide +kernel
theorem dX4_beginRoundOfEach_14 : decode cX4_beginRoundOfEach 14 = .ok (.iload_n 2, 1) := by decide +kernel
theorem dX4_beginRoundOfEach_15 : decode cX4_beginRoundOfEach 15 = .ok (.putfield 145, 3) := by decide +kernel
theorem dX4_beginRoundOfEach_18 : decode cX4_beginRoundOfEach 18 = .ok (.goto 23, 3) := by decide +kernel
theorem dX4_beginRoundOfEach_21 : decode cX4_beginRoundOfEach 21 = .ok (.aload_n 0, 1) := by decide +kernel
theorem dX4_beginRoundOfEach_22 : decode cX4_beginRoundOfEach 22 = .ok (.invokevirtual 229, 3) := by decide +kernel
theorem dX4_beginRoundOfEach_25 : decode cX4_beginRoundOfEach 25 = .ok (.ifCond .eq 16, 3) := by decide +kernel
theorem dX4_beginRoundOfEach_28 : decode cX4_beginRoundOfEach 28 = .ok (.aload_n 0, 1) := by decide +kernel
theorem dX4_beginRoundOfEach_29 : decode cX4_beginRoundOfEach 29 = .ok (.invokevirtual 172, 3) := by decide +kernel
theorem dX4_beginRoundOfEach_32 : decode cX4_beginRoundOfEach 32 = .ok (.iload_n 1, 1) := by decide +kernel
theorem dX4_beginRoundOfEach_33 : decode cX4_beginRoundOfEach 33 = .ok (.aload_n 0, 1) := by decide +kernel
theorem dX4_beginRoundOfEach_34 : decode cX4_beginRoundOfEach 34 = .ok (.iconst 1, 1) := by decide +kernel
theorem dX4_beginRoundOfEach_35 : decode cX4_beginRoundOfEach 35 = .ok (.invokevirtual 211, 3) := by decide +kernel
theorem dX4_beginRoundOfEach_38 : decode cX4_beginRoundOfEach 38 = .ok (.invokevirtual 222, 3) := by decide +kernel
theorem dX4_beginRoundOfEach_41 : decode cX4_beginRoundOfEach 41 = .ok (.return_, 1) := by decide +kernel
def wX4_beginRoundOfEach_b41 (a0 : Nat) (x1 : Int32) (x2 : Int32)  (Sn : kp_S) (post : kp_S → Prop) : Prop :=
  post Sn
def wX4_beginRoundOfEach (a0 : Nat) (x1 : Int32) (x2 : Int32) (S : kp_S) (post : kp_S → Prop) : Prop :=
  wX4_peek a0 1 S (fun y2 T1 =>
  wX4_peek a0 0 T1 (fun y4 T3 =>
  ((y2 ≤ y4 →
  wX4_spend a0 T3 (fun y6 T5 =>
  ((y6 = 0 →
  wX4_beginRoundOfEach_b41 a0 x1 x2   T5 post) ∧ (¬ y6 = 0 →
  wX4_frame a0 T5 (fun b8 T7 =>
  wX4_peek a0 1 T7 (fun y10 T9 =>
  wX3_set b8 x1 y10 T9 (fun T11 =>
  wX4_beginRoundOfEach_b41 a0 x1 x2   T11 post))))))) ∧ (¬ y2 ≤ y4 →
  ∀ T13 : kp_S, T13 = kp_sI T3 810 a0 x2 →
  wX4_beginRoundOfEach_b41 a0 x1 x2   T13 post))))
set_option maxHeartbeats 4000000 in
set_option maxRecDepth 100000 in
theorem c_X4_beginRoundOfEach (l : Launch) (D : va_G) (cy : Nat → ClassId) (ad : (Nat → Nat) × (Nat → Nat)) (S : kp_S) (a0 : Nat) (x1 : Int32) (x2 : Int32) (post : kp_S → Prop) (hS : kp_ok S) (f_a0 : kp_is S a0 4) (hw : wX4_beginRoundOfEach a0 x1 x2 S post) : kp_M l yX4_beginRoundOfEach cX4_beginRoundOfEach 3 none { frames := 1, cells := 0, slots := 0, locals := 22 } D cy ad S [.ref a0, .int x1, .int x2] 0 0 (fun A => kp_Qv D cy A S post) := by
  refine kp_start (own := RX4) (by decide) rfl (Nat.le_of_ble_eq_true rfl) hS ?_
  intro p e s m below meth c A ls X hr hlocks hname h hl
  have hle : kp_le S S := kp_le.rf
  have hl : lv_has ls 3 [(0, .ref a0), (1, .int x1), (2, .int x2)] := hl
  have j41 : ∀  (Sn : kp_S) (H : Heap) (locs : List Loc) (ls : Array Slot), lv_has ls 3 [] → kp_H D cy A Sn s.heap H locs → kp_le S Sn → kp_is Sn a0 4 → wX4_beginRoundOfEach_b41 a0 x1 x2   Sn post → W p l e { frames := 1, cells := 0, slots := 0, locals := 22 } s m ([.ref a0, .int x1, .int x2] : List Value).toArray below meth c H locs 0 0 (MQ below (kp_Qv D cy A S post) ([.ref a0, .int x1, .int x2] : List Value).toArray s 0 0 A) (F0 m 41 ls []) := by
    intro  Sn H locs ls hl h hle f_a0 hw
    unfold wX4_beginRoundOfEach_b41 at hw
    exact kp_retv X hr hlocks h hle hw dX4_beginRoundOfEach_41
  unfold wX4_beginRoundOfEach at hw
  have h : kp_H D cy A S s.heap s.heap [] := h
  revert h
  intro h
  refine lv_aload_n X.1 X.2.1 dX4_beginRoundOfEach_0 rfl (lv_at hl 0 rfl) ?_
  refine lv_iconst (v := 1) X.1 X.2.1 dX4_beginRoundOfEach_1 (by decide) ?_
  refine kp_calli X h (kp_runV (rm := { frames := 0, cells := 0, slots := 0, locals := 0 }) (mc := 0) (ms := 0) (rest := []) (Qc := fun A => kp_Qi D cy A S _) X h (c_X4_peek l D cy ad S a0 1 _ h.2.2.2 f_a0 hw) f_a0 cv_4_211 ⟨by decide, by decide, rfl, rfl, by decide, by decide⟩ rfl hl.1 rfl (Nat.le_of_ble_eq_true rfl) dX4_beginRoundOfEach_2) (fun y2 T1 hw l_T1 H locs h => ?_)
  have f_a0 := l_T1.is f_a0
  have hle := hle.tr l_T1
  refine lv_aload_n X.1 X.2.1 dX4_beginRoundOfEach_5 rfl (lv_at hl 0 rfl) ?_
  refine lv_iconst (v := 0) X.1 X.2.1 dX4_beginRoundOfEach_6 (by decide) ?_
  refine kp_calli X h (kp_runV (rm := { frames := 0, cells := 0, slots := 0, locals := 0 }) (mc := 0) (ms := 0) (rest := [.int y2]) (Qc := fun A => kp_Qi D cy A T1 _) X h (c_X4_peek l D cy ad T1 a0 0 _ h.2.2.2 f_a0 hw) f_a0 cv_4_211 ⟨by decide, by decide, rfl, rfl, by decide, by decide⟩ rfl hl.1 rfl (Nat.le_of_ble_eq_true rfl) dX4_beginRoundOfEach_7) (fun y4 T3 hw l_T3 H locs h => ?_)
  have f_a0 := l_T3.is f_a0
  have hle := hle.tr l_T3
  refine lv_icmp_le (tgt := 21) X.1 X.2.1 dX4_beginRoundOfEach_10 (by decide) (fun c14 => ?_) (fun c14 => ?_)
  · have hw := hw.1 c14
    refine lv_aload_n X.1 X.2.1 dX4_beginRoundOfEach_21 rfl (lv_at hl 0 rfl) ?_
    refine kp_calli X h (kp_runV (rm := { frames := 0, cells := 0, slots := 0, locals := 0 }) (mc := 0) (ms := 0) (rest := []) (Qc := fun A => kp_Qi D cy A T3 _) X h (c_X4_spend l D cy ad T3 a0 _ h.2.2.2 f_a0 hw) f_a0 cv_4_229 ⟨by decide, by decide, rfl, rfl, by decide, by decide⟩ rfl hl.1 rfl (Nat.le_of_ble_eq_true rfl) dX4_beginRoundOfEach_22) (fun y6 T5 hw l_T5 H locs h => ?_)
    have f_a0 := l_T5.is f_a0
    have hle := hle.tr l_T5
    refine lv_if_eq (tgt := 41) X.1 X.2.1 dX4_beginRoundOfEach_25 (by decide) (fun c12 => ?_) (fun c12 => ?_)
    · have hw := hw.1 c12
      exact j41  T5 _ _ ls (lv_sub hl [] rfl) h hle f_a0 hw
    · have hw := hw.2 c12
      refine lv_aload_n X.1 X.2.1 dX4_beginRoundOfEach_28 rfl (lv_at hl 0 rfl) ?_
      refine kp_callr X h (kp_runV (rm := { frames := 0, cells := 0, slots := 0, locals := 0 }) (mc := 0) (ms := 0) (rest := []) (Qc := fun A => kp_Qr D cy A T5 3 _) X h (c_X4_frame l D cy ad T5 a0 _ h.2.2.2 f_a0 hw) f_a0 cv_4_172 ⟨by decide, by decide, rfl, rfl, by decide, by decide⟩ rfl hl.1 rfl (Nat.le_of_ble_eq_true rfl) dX4_beginRoundOfEach_29) (fun b8 T7 hw l_T7 f_b8 H locs h => ?_)
      have f_a0 := l_T7.is f_a0
      have hle := hle.tr l_T7
      refine lv_iload_n X.1 X.2.1 dX4_beginRoundOfEach_32 rfl (lv_at hl 1 rfl) ?_
      refine lv_aload_n X.1 X.2.1 dX4_beginRoundOfEach_33 rfl (lv_at hl 0 rfl) ?_
      refine lv_iconst (v := 1) X.1 X.2.1 dX4_beginRoundOfEach_34 (by decide) ?_
      refine kp_calli X h (kp_runV (rm := { frames := 0, cells := 0, slots := 0, locals := 0 }) (mc := 0) (ms := 0) (rest := [.int x1, .ref b8]) (Qc := fun A => kp_Qi D cy A T7 _) X h (c_X4_peek l D cy ad T7 a0 1 _ h.2.2.2 f_a0 hw) f_a0 cv_4_211 ⟨by decide, by decide, rfl, rfl, by decide, by decide⟩ rfl hl.1 rfl (Nat.le_of_ble_eq_true rfl) dX4_beginRoundOfEach_35) (fun y10 T9 hw l_T9 H locs h => ?_)
      have f_a0 := l_T9.is f_a0
      have f_b8 := l_T9.is f_b8
      have hle := hle.tr l_T9
      refine kp_callv X h (kp_runV (rm := { frames := 0, cells := 0, slots := 0, locals := 0 }) (mc := 0) (ms := 0) (rest := []) (Qc := fun A => kp_Qv D cy A T9 _) X h (c_X3_set l D cy ad T9 b8 x1 y10 _ h.2.2.2 f_b8 hw) f_b8 cv_4_222 ⟨by decide, by decide, rfl, rfl, by decide, by decide⟩ rfl hl.1 rfl (Nat.le_of_ble_eq_true rfl) dX4_beginRoundOfEach_38) (fun T11 hw l_T11 H locs h => ?_)
      have f_a0 := l_T11.is f_a0
      have f_b8 := l_T11.is f_b8
      have hle := hle.tr l_T11
      exact j41  T11 _ _ ls (lv_sub hl [] rfl) h hle f_a0 hw
  · have hw := hw.2 c14
    refine lv_aload_n X.1 X.2.1 dX4_beginRoundOfEach_13 rfl (lv_at hl 0 rfl) ?_
    refine lv_iload_n X.1 X.2.1 dX4_beginRoundOfEach_14 rfl (lv_at hl 2 rfl) ?_
    refine kp_putI X h f_a0 fp_4_145 rfl ⟨rfl, rfl⟩ dX4_beginRoundOfEach_15 (fun T13 e_T13 l_T13 H locs h => ?_)
    have hw := hw T13 e_T13
    have f_a0 := l_T13.is f_a0
    have hle := hle.tr l_T13
    refine lv_goto (tgt := 41) X.1 X.2.1 dX4_beginRoundOfEach_18 (by decide) ?_
    exact j41  T13 _ _ ls (lv_sub hl [] rfl) h hle f_a0 hw
theorem dX4_stepEach_0 : decode cX4_stepEach 0 = .ok (.aload_n 0, 1) := by decide +kernel
theorem dX4_stepEach_1 : decode cX4_stepEach 1 = .ok (.invokevirtual 181, 3) := by decide +kernel
theorem dX4_stepEach_4 : decode cX4_stepEach 4 = .ok (.istore_n 2, 1) := by decide +kernel
theorem dX4_stepEach_5 : decode cX4_stepEach 5 = .ok (.aload_n 0, 1) := by decide +kernel
theorem dX4_stepEach_6 : decode cX4_stepEach 6 = .ok (.invokevirtual 181, 3) := by decide +kernel
theorem dX4_stepEach_9 : decode cX4_stepEach 9 = .ok (.istore_n 3, 1) := by decide +kernel
theorem dX4_stepEach_10 : decode cX4_stepEach 10 = .ok (.aload_n 0, 1) := by decide +kernel
theorem dX4_stepEach_11 : decode cX4_stepEach 11 = .ok (.iload_n 3, 1) := by decide +kernel
theorem dX4_stepEach_12 : decode cX4_stepEach 12 = .ok (.iload_n 2, 1) := by decide +kernel
theorem dX4_stepEach_13 : decode cX4_stepEach 13 = .ok (.if_icmp .ne 7, 3) := by decide +kernel
theorem dX4_stepEach_16 : decode cX4_stepEach 16 = .ok (.iload_n 3, 1) := by decide +kernel
theorem dX4_stepEach_17 : decode cX4_stepEach 17 = .ok (.goto 6, 3) := by decide +kernel
theorem dX4_stepEach_20 : decode cX4_stepEach 20 = .ok (.iload_n 3, 1) := by decide +kernel
theorem dX4_stepEach_21 : decode cX4_stepEach 21 = .ok (.iconst 1, 1) := by decide +kernel
theorem dX4_stepEach_22 : decode cX4_stepEach 22 = .ok (.iadd, 1) := by decide +kernel
theorem dX4_stepEach_23 : decode cX4_stepEach 23 = .ok (.invokevirtual 85, 3) := by decide +kernel
theorem dX4_stepEach_26 : decode cX4_stepEach 26 = .ok (.aload_n 0, 1) := by decide +kernel
theorem dX4_stepEach_27 : decode cX4_stepEach 27 = .ok (.iload_n 2, 1) := by decide +kernel
theorem dX4_stepEach_28 : decode cX4_stepEach 28 = .ok (.invokevirtual 85, 3) := by decide +kernel
theorem dX4_stepEach_31 : decode cX4_stepEach 31 = .ok (.aload_n 0, 1) := by decide +kernel
theorem dX4_stepEach_32 : decode cX4_stepEach 32 = .ok (.iload_n 3, 1) := by decide +kernel
theorem dX4_stepEach_33 : decode cX4_stepEach 33 = .ok (.iload_n 2, 1) := by decide +kernel
theorem dX4_stepEach_34 : decode cX4_stepEach 34 = .ok (.if_icmp .eq 7, 3) := by decide +kernel
theorem dX4_stepEach_37 : decode cX4_stepEach 37 = .ok (.iconst 1, 1) := by decide +kernel
theorem dX4_stepEach_38 : decode cX4_stepEach 38 = .ok (.goto 4, 3) := by decide +kernel
theorem dX4_stepEach_41 : decode cX4_stepEach 41 = .ok (.iconst 0, 1) := by decide +kernel
theorem dX4_stepEach_42 : decode cX4_stepEach 42 = .ok (.iload_n 1, 1) := by decide +kernel
theorem dX4_stepEach_43 : decode cX4_stepEach 43 = .ok (.invokevirtual 207, 3) := by decide +kernel
theorem dX4_stepEach_46 : decode cX4_stepEach 46 = .ok (.return_, 1) := by decide +kernel
def wX4_stepEach_b42 (a0 : Nat) (x1 : Int32) (xt0 : Int32) (at1 : Nat)  (Sn : kp_S) (post : kp_S → Prop) : Prop :=
  wX4_jumpIf at1 xt0 x1 Sn (fun T1001 =>
  post T1001)
def wX4_stepEach_b23 (a0 : Nat) (x1 : Int32) (xn2 : Int32) (xn3 : Int32) (xt0 : Int32) (at1 : Nat)  (Sn : kp_S) (post : kp_S → Prop) : Prop :=
  wX4_push at1 xt0 Sn (fun T2001 =>
  wX4_push a0 xn2 T2001 (fun T2002 =>
  ((xn3 = xn2 →
  wX4_stepEach_b42 a0 x1 0 a0  T2002 post) ∧ (¬ xn3 = xn2 →
  wX4_stepEach_b42 a0 x1 1 a0  T2002 post))))
def wX4_stepEach (a0 : Nat) (x1 : Int32) (S : kp_S) (post : kp_S → Prop) : Prop :=
  wX4_pop a0 S (fun y2 T1 =>
  wX4_pop a0 T1 (fun y4 T3 =>
  ((¬ y4 = y2 →
  wX4_stepEach_b23 a0 x1 y2 y4 (y4 + 1) a0  T3 post) ∧ (y4 = y2 →
  wX4_stepEach_b23 a0 x1 y2 y4 y4 a0  T3 post))))
set_option maxHeartbeats 4000000 in
set_option maxRecDepth 100000 in
theorem c_X4_stepEach (l : Launch) (D : va_G) (cy : Nat → ClassId) (ad : (Nat → Nat) × (Nat → Nat)) (S : kp_S) (a0 : Nat) (x1 : Int32) (post : kp_S → Prop) (hS : kp_ok S) (f_a0 : kp_is S a0 4) (hw : wX4_stepEach a0 x1 S post) : kp_M l yX4_stepEach cX4_stepEach 4 none { frames := 1, cells := 0, slots := 0, locals := 22 } D cy ad S [.ref a0, .int x1] 0 0 (fun A => kp_Qv D cy A S post) := by
  refine kp_start (own := RX4) (by decide) rfl (Nat.le_of_ble_eq_true rfl) hS ?_
  intro p e s m below meth c A ls X hr hlocks hname h hl
  have hle : kp_le S S := kp_le.rf
  have hl : lv_has ls 4 [(0, .ref a0), (1, .int x1)] := hl
  have j42 : ∀ (xt0 : Int32) (at1 : Nat) (Sn : kp_S) (H : Heap) (locs : List Loc) (ls : Array Slot), lv_has ls 4 [(1, .int x1)] → kp_H D cy A Sn s.heap H locs → kp_le S Sn → kp_is Sn at1 4 → kp_is Sn a0 4 → wX4_stepEach_b42 a0 x1 xt0 at1  Sn post → W p l e { frames := 1, cells := 0, slots := 0, locals := 22 } s m ([.ref a0, .int x1] : List Value).toArray below meth c H locs 0 0 (MQ below (kp_Qv D cy A S post) ([.ref a0, .int x1] : List Value).toArray s 0 0 A) (F0 m 42 ls [.int xt0, .ref at1]) := by
    intro xt0 at1 Sn H locs ls hl h hle f_at1 f_a0 hw
    unfold wX4_stepEach_b42 at hw
    refine lv_iload_n X.1 X.2.1 dX4_stepEach_42 rfl (lv_at hl 0 rfl) ?_
    refine kp_callv X h (kp_runV (rm := { frames := 0, cells := 0, slots := 0, locals := 0 }) (mc := 0) (ms := 0) (rest := []) (Qc := fun A => kp_Qv D cy A Sn _) X h (c_X4_jumpIf l D cy ad Sn at1 xt0 x1 _ h.2.2.2 f_at1 hw) f_at1 cv_4_207 ⟨by decide, by decide, rfl, rfl, by decide, by decide⟩ rfl hl.1 rfl (Nat.le_of_ble_eq_true rfl) dX4_stepEach_43) (fun T1001 hw l_T1001 H locs h => ?_)
    have f_at1 := l_T1001.is f_at1
    have f_a0 := l_T1001.is f_a0
    have hle := hle.tr l_T1001
    exact kp_retv X hr hlocks h hle hw dX4_stepEach_46
  have j23 : ∀ (xn2 : Int32) (xn3 : Int32) (xt0 : Int32) (at1 : Nat) (Sn : kp_S) (H : Heap) (locs : List Loc) (ls : Array Slot), lv_has ls 4 [(0, .ref a0), (1, .int x1), (2, .int xn2), (3, .int xn3)] → kp_H D cy A Sn s.heap H locs → kp_le S Sn → kp_is Sn a0 4 → kp_is Sn at1 4 → wX4_stepEach_b23 a0 x1 xn2 xn3 xt0 at1  Sn post → W p l e { frames := 1, cells := 0, slots := 0, locals := 22 } s m ([.ref a0, .int x1] : List Value).toArray below meth c H locs 0 0 (MQ below (kp_Qv D cy A S post) ([.ref a0, .int x1] : List Value).toArray s 0 0 A) (F0 m 23 ls [.int xt0, .ref at1]) := by
    intro xn2 xn3 xt0 at1 Sn H locs ls hl h hle f_a0 f_at1 hw
    unfold wX4_stepEach_b23 at hw
    refine kp_callv X h (kp_runV (rm := { frames := 0, cells := 0, slots := 0, locals := 0 }) (mc := 0) (ms := 0) (rest := []) (Qc := fun A => kp_Qv D cy A Sn _) X h (c_X4_push l D cy ad Sn at1 xt0 _ h.2.2.2 f_at1 hw) f_at1 cv_4_85 ⟨by decide, by decide, rfl, rfl, by decide, by decide⟩ rfl hl.1 rfl (Nat.le_of_ble_eq_true rfl) dX4_stepEach_23) (fun T2001 hw l_T2001 H locs h => ?_)
    have f_a0 := l_T2001.is f_a0
    have f_at1 := l_T2001.is f_at1
    have hle := hle.tr l_T2001
    refine lv_aload_n X.1 X.2.1 dX4_stepEach_26 rfl (lv_at hl 0 rfl) ?_
    refine lv_iload_n X.1 X.2.1 dX4_stepEach_27 rfl (lv_at hl 2 rfl) ?_
    refine kp_callv X h (kp_runV (rm := { frames := 0, cells := 0, slots := 0, locals := 0 }) (mc := 0) (ms := 0) (rest := []) (Qc := fun A => kp_Qv D cy A T2001 _) X h (c_X4_push l D cy ad T2001 a0 xn2 _ h.2.2.2 f_a0 hw) f_a0 cv_4_85 ⟨by decide, by decide, rfl, rfl, by decide, by decide⟩ rfl hl.1 rfl (Nat.le_of_ble_eq_true rfl) dX4_stepEach_28) (fun T2002 hw l_T2002 H locs h => ?_)
    have f_a0 := l_T2002.is f_a0
    have f_at1 := l_T2002.is f_at1
    have hle := hle.tr l_T2002
    refine lv_aload_n X.1 X.2.1 dX4_stepEach_31 rfl (lv_at hl 0 rfl) ?_
    refine lv_iload_n X.1 X.2.1 dX4_stepEach_32 rfl (lv_at hl 3 rfl) ?_
    refine lv_iload_n X.1 X.2.1 dX4_stepEach_33 rfl (lv_at hl 2 rfl) ?_
    refine lv_icmp_eq (tgt := 41) X.1 X.2.1 dX4_stepEach_34 (by decide) (fun c2003 => ?_) (fun c2003 => ?_)
    · have hw := hw.1 c2003
      refine lv_iconst (v := 0) X.1 X.2.1 dX4_stepEach_41 (by decide) ?_
      exact j42 0 a0 T2002 H locs ls (lv_sub hl [1] rfl) h hle f_a0 f_a0 hw
    · have hw := hw.2 c2003
      refine lv_iconst (v := 1) X.1 X.2.1 dX4_stepEach_37 (by decide) ?_
      refine lv_goto (tgt := 42) X.1 X.2.1 dX4_stepEach_38 (by decide) ?_
      exact j42 1 a0 T2002 H locs ls (lv_sub hl [1] rfl) h hle f_a0 f_a0 hw
  unfold wX4_stepEach at hw
  have h : kp_H D cy A S s.heap s.heap [] := h
  revert h
  intro h
  refine lv_aload_n X.1 X.2.1 dX4_stepEach_0 rfl (lv_at hl 0 rfl) ?_
  refine kp_calli X h (kp_runV (rm := { frames := 0, cells := 0, slots := 0, locals := 0 }) (mc := 0) (ms := 0) (rest := []) (Qc := fun A => kp_Qi D cy A S _) X h (c_X4_pop l D cy ad S a0 _ h.2.2.2 f_a0 hw) f_a0 cv_4_181 ⟨by decide, by decide, rfl, rfl, by decide, by decide⟩ rfl hl.1 rfl (Nat.le_of_ble_eq_true rfl) dX4_stepEach_1) (fun y2 T1 hw l_T1 H locs h => ?_)
  have f_a0 := l_T1.is f_a0
  have hle := hle.tr l_T1
  refine lv_istore_n (lv' := [(2, .int y2), (0, .ref a0), (1, .int x1)]) X.1 X.2.1 dX4_stepEach_4 rfl hl (by decide) rfl (fun ls hl => ?_)
  refine lv_aload_n X.1 X.2.1 dX4_stepEach_5 rfl (lv_at hl 1 rfl) ?_
  refine kp_calli X h (kp_runV (rm := { frames := 0, cells := 0, slots := 0, locals := 0 }) (mc := 0) (ms := 0) (rest := []) (Qc := fun A => kp_Qi D cy A T1 _) X h (c_X4_pop l D cy ad T1 a0 _ h.2.2.2 f_a0 hw) f_a0 cv_4_181 ⟨by decide, by decide, rfl, rfl, by decide, by decide⟩ rfl hl.1 rfl (Nat.le_of_ble_eq_true rfl) dX4_stepEach_6) (fun y4 T3 hw l_T3 H locs h => ?_)
  have f_a0 := l_T3.is f_a0
  have hle := hle.tr l_T3
  refine lv_istore_n (lv' := [(3, .int y4), (2, .int y2), (0, .ref a0), (1, .int x1)]) X.1 X.2.1 dX4_stepEach_9 rfl hl (by decide) rfl (fun ls hl => ?_)
  refine lv_aload_n X.1 X.2.1 dX4_stepEach_10 rfl (lv_at hl 2 rfl) ?_
  refine lv_iload_n X.1 X.2.1 dX4_stepEach_11 rfl (lv_at hl 0 rfl) ?_
  refine lv_iload_n X.1 X.2.1 dX4_stepEach_12 rfl (lv_at hl 1 rfl) ?_
  refine lv_icmp_ne (tgt := 20) X.1 X.2.1 dX4_stepEach_13 (by decide) (fun c5 => ?_) (fun c5 => ?_)
  · have hw := hw.1 c5
    refine lv_iload_n X.1 X.2.1 dX4_stepEach_20 rfl (lv_at hl 0 rfl) ?_
    refine lv_iconst (v := 1) X.1 X.2.1 dX4_stepEach_21 (by decide) ?_
    refine lv_iadd X.1 X.2.1 dX4_stepEach_22 ?_
    exact j23 y2 y4 (y4 + 1) a0 T3 _ _ ls (lv_sub hl [2, 3, 1, 0] rfl) h hle f_a0 f_a0 hw
  · have hw := hw.2 c5
    refine lv_iload_n X.1 X.2.1 dX4_stepEach_16 rfl (lv_at hl 0 rfl) ?_
    refine lv_goto (tgt := 23) X.1 X.2.1 dX4_stepEach_17 (by decide) ?_
    exact j23 y2 y4 y4 a0 T3 _ _ ls (lv_sub hl [2, 3, 1, 0] rfl) h hle f_a0 f_a0 hw
theorem dX4_flow_0 : decode cX4_flow 0 = .ok (.iload_n 1, 1) := by decide +kernel
theorem dX4_flow_1 : decode cX4_flow 1 = .ok (.bipush 32, 2) := by decide +kernel
theorem dX4_flow_3 : decode cX4_flow 3 = .ok (.if_icmp .ne 7, 3) := by decide +kernel
theorem dX4_flow_6 : decode cX4_flow 6 = .ok (.iconst 0, 1) := by decide +kernel
theorem dX4_flow_7 : decode cX4_flow 7 = .ok (.goto 7, 3) := by decide +kernel
theorem dX4_flow_10 : decode cX4_flow 10 = .ok (.aload_n 0, 1) := by decide +kernel
theorem dX4_flow_11 : decode cX4_flow 11 = .ok (.invokevirtual 123, 3) := by decide +kernel
theorem dX4_flow_14 : decode cX4_flow 14 = .ok (.istore_n 2, 1) := by decide +kernel
theorem dX4_flow_15 : decode cX4_flow 15 = .ok (.iload_n 1, 1) := by decide +kernel
theorem dX4_flow_16 : decode cX4_flow 16 = .ok (.tableswitch 251 22 33 #[64, 72, 92, 113, 134, 151, 166, 178, 208, 223, 231, 239], 64) := by decide +kernel
theorem dX4_flow_80 : decode cX4_flow 80 = .ok (.aload_n 0, 1) := by decide +kernel
theorem dX4_flow_81 : decode cX4_flow 81 = .ok (.iload_n 2, 1) := by decide +kernel
theorem dX4_flow_82 : decode cX4_flow 82 = .ok (.putfield 145, 3) := by decide +kernel
theorem dX4_flow_85 : decode cX4_flow 85 = .ok (.goto 187, 3) := by decide +kernel
theorem dX4_flow_88 : decode cX4_flow 88 = .ok (.aload_n 0, 1) := by decide +kernel
theorem dX4_flow_89 : decode cX4_flow 89 = .ok (.aload_n 0, 1) := by decide +kernel
theorem dX4_flow_90 : decode cX4_flow 90 = .ok (.invokevirtual 181, 3) := by decide +kernel
theorem dX4_flow_93 : decode cX4_flow 93 = .ok (.ifCond .ne 7, 3) := by decide +kernel
theorem dX4_flow_96 : decode cX4_flow 96 = .ok (.iconst 1, 1) := by decide +kernel
theorem dX4_flow_97 : decode cX4_flow 97 = .ok (.goto 4, 3) := by decide +kernel
theorem dX4_flow_100 : decode cX4_flow 100 = .ok (.iconst 0, 1) := by decide +kernel
theorem dX4_flow_101 : decode cX4_flow 101 = .ok (.iload_n 2, 1) := by decide +kernel
theorem dX4_flow_102 : decode cX4_flow 102 = .ok (.invokevirtual 207, 3) := by decide +kernel
theorem dX4_flow_105 : decode cX4_flow 105 = .ok (.goto 167, 3) := by decide +kernel
theorem dX4_flow_108 : decode cX4_flow 108 = .ok (.aload_n 0, 1) := by decide +kernel
theorem dX4_flow_109 : decode cX4_flow 109 = .ok (.aload_n 0, 1) := by decide +kernel
theorem dX4_flow_110 : decode cX4_flow 110 = .ok (.iconst 0, 1) := by decide +kernel
theorem dX4_flow_111 : decode cX4_flow 111 = .ok (.invokevirtual 211, 3) := by decide +kernel
theorem dX4_flow_114 : decode cX4_flow 114 = .ok (.ifCond .eq 7, 3) := by decide +kernel
theorem dX4_flow_117 : decode cX4_flow 117 = .ok (.iconst 1, 1) := by decide +kernel
theorem dX4_flow_118 : decode cX4_flow 118 = .ok (.goto 4, 3) := by decide +kernel
theorem dX4_flow_121 : decode cX4_flow 121 = .ok (.iconst 0, 1) := by decide +kernel
theorem dX4_flow_122 : decode cX4_flow 122 = .ok (.iload_n 2, 1) := by decide +kernel
theorem dX4_flow_123 : decode cX4_flow 123 = .ok (.invokevirtual 214, 3) := by decide +kernel
theorem dX4_flow_126 : decode cX4_flow 126 = .ok (.goto 146, 3) := by decide +kernel
theorem dX4_flow_129 : decode cX4_flow 129 = .ok (.aload_n 0, 1) := by decide +kernel
theorem dX4_flow_130 : decode cX4_flow 130 = .ok (.aload_n 0, 1) := by decide +kernel
theorem dX4_flow_131 : decode cX4_flow 131 = .ok (.iconst 0, 1) := by decide +kernel
theorem dX4_flow_132 : decode cX4_flow 132 = .ok (.invokevirtual 211, 3) := by decide +kernel
theorem dX4_flow_135 : decode cX4_flow 135 = .ok (.ifCond .ne 7, 3) := by decide +kernel
theorem dX4_flow_138 : decode cX4_flow 138 = .ok (.iconst 1, 1) := by decide +kernel
theorem dX4_flow_139 : decode cX4_flow 139 = .ok (.goto 4, 3) := by decide +kernel
theorem dX4_flow_142 : decode cX4_flow 142 = .ok (.iconst 0, 1) := by decide +kernel
theorem dX4_flow_143 : decode cX4_flow 143 = .ok (.iload_n 2, 1) := by decide +kernel
theorem dX4_flow_144 : decode cX4_flow 144 = .ok (.invokevirtual 214, 3) := by decide +kernel
theorem dX4_flow_147 : decode cX4_flow 147 = .ok (.goto 125, 3) := by decide +kernel
theorem dX4_flow_150 : decode cX4_flow 150 = .ok (.aload_n 0, 1) := by decide +kernel
theorem dX4_flow_151 : decode cX4_flow 151 = .ok (.aload_n 0, 1) := by decide +kernel
theorem dX4_flow_152 : decode cX4_flow 152 = .ok (.getfield 53, 3) := by decide +kernel
theorem dX4_flow_155 : decode cX4_flow 155 = .ok (.iload_n 2, 1) := by decide +kernel
theorem dX4_flow_156 : decode cX4_flow 156 = .ok (.isub, 1) := by decide +kernel
theorem dX4_flow_157 : decode cX4_flow 157 = .ok (.iconst 0, 1) := by decide +kernel
theorem dX4_flow_158 : decode cX4_flow 158 = .ok (.invokestatic 217, 3) := by decide +kernel
theorem dX4_flow_161 : decode cX4_flow 161 = .ok (.putfield 53, 3) := by decide +kernel
theorem dX4_flow_164 : decode cX4_flow 164 = .ok (.goto 108, 3) := by decide +kernel
theorem dX4_flow_167 : decode cX4_flow 167 = .ok (.aload_n 0, 1) := by decide +kernel
theorem dX4_flow_168 : decode cX4_flow 168 = .ok (.invokevirtual 172, 3) := by decide +kernel
theorem dX4_flow_171 : decode cX4_flow 171 = .ok (.iload_n 2, 1) := by decide +kernel
theorem dX4_flow_172 : decode cX4_flow 172 = .ok (.aload_n 0, 1) := by decide +kernel
theorem dX4_flow_173 : decode cX4_flow 173 = .ok (.invokevirtual 181, 3) := by decide +kernel
theorem dX4_flow_176 : decode cX4_flow 176 = .ok (.invokevirtual 222, 3) := by decide +kernel
theorem dX4_flow_179 : decode cX4_flow 179 = .ok (.goto 93, 3) := by decide +kernel
theorem dX4_flow_182 : decode cX4_flow 182 = .ok (.aload_n 0, 1) := by decide +kernel
theorem dX4_flow_183 : decode cX4_flow 183 = .ok (.aload_n 0, 1) := by decide +kernel
theorem dX4_flow_184 : decode cX4_flow 184 = .ok (.invokevirtual 181, 3) := by decide +kernel
theorem dX4_flow_187 : decode cX4_flow 187 = .ok (.iload_n 2, 1) := by decide +kernel
theorem dX4_flow_188 : decode cX4_flow 188 = .ok (.invokevirtual 223, 3) := by decide +kernel
theorem dX4_flow_191 : decode cX4_flow 191 = .ok (.goto 81, 3) := by decide +kernel
theorem dX4_flow_194 : decode cX4_flow 194 = .ok (.aload_n 0, 1) := by decide +kernel
theorem dX4_flow_195 : decode cX4_flow 195 = .ok (.aload_n 0, 1) := by decide +kernel
theorem dX4_flow_196 : decode cX4_flow 196 = .ok (.invokevirtual 181, 3) := by decide +kernel
theorem dX4_flow_199 : decode cX4_flow 199 = .ok (.aload_n 0, 1) := by decide +kernel
theorem dX4_flow_200 : decode cX4_flow 200 = .ok (.invokevirtual 149, 3) := by decide +kernel
theorem dX4_flow_203 : decode cX4_flow 203 = .ok (.getfield 226, 3) := by decide +kernel
theorem dX4_flow_206 : decode cX4_flow 206 = .ok (.getfield 111, 3) := by decide +kernel
theorem dX4_flow_209 : decode cX4_flow 209 = .ok (.if_icmp .ne 7, 3) := by decide +kernel
theorem dX4_flow_212 : decode cX4_flow 212 = .ok (.iconst 1, 1) := by decide +kernel
theorem dX4_flow_213 : decode cX4_flow 213 = .ok (.goto 4, 3) := by decide +kernel
theorem dX4_flow_216 : decode cX4_flow 216 = .ok (.iconst 0, 1) := by decide +kernel
theorem dX4_flow_217 : decode cX4_flow 217 = .ok (.iload_n 2, 1) := by decide +kernel
theorem dX4_flow_218 : decode cX4_flow 218 = .ok (.invokevirtual 207, 3) := by decide +kernel
theorem dX4_flow_221 : decode cX4_flow 221 = .ok (.goto 51, 3) := by decide +kernel
theorem dX4_flow_224 : decode cX4_flow 224 = .ok (.aload_n 0, 1) := by decide +kernel
theorem dX4_flow_225 : decode cX4_flow 225 = .ok (.invokevirtual 229, 3) := by decide +kernel
theorem dX4_flow_228 : decode cX4_flow 228 = .ok (.ifCond .eq 44, 3) := by decide +kernel
theorem dX4_flow_231 : decode cX4_flow 231 = .ok (.aload_n 0, 1) := by decide +kernel
theorem dX4_flow_232 : decode cX4_flow 232 = .ok (.iload_n 2, 1) := by decide +kernel
theorem dX4_flow_233 : decode cX4_flow 233 = .ok (.putfield 66, 3) := by decide +kernel
theorem dX4_flow_236 : decode cX4_flow 236 = .ok (.goto 36, 3) := by decide +kernel
theorem dX4_flow_239 : decode cX4_flow 239 = .ok (.aload_n 0, 1) := by decide +kernel
theorem dX4_flow_240 : decode cX4_flow 240 = .ok (.iload_n 2, 1) := by decide +kernel
theorem dX4_flow_241 : decode cX4_flow 241 = .ok (.putfield 66, 3) := by decide +kernel
theorem dX4_flow_244 : decode cX4_flow 244 = .ok (.goto 28, 3) := by decide +kernel
theorem dX4_flow_247 : decode cX4_flow 247 = .ok (.aload_n 0, 1) := by decide +kernel
theorem dX4_flow_248 : decode cX4_flow 248 = .ok (.invokevirtual 229, 3) := by decide +kernel
theorem dX4_flow_251 : decode cX4_flow 251 = .ok (.pop, 1) := by decide +kernel
theorem dX4_flow_252 : decode cX4_flow 252 = .ok (.goto 20, 3) := by decide +kernel
theorem dX4_flow_255 : decode cX4_flow 255 = .ok (.aload_n 0, 1) := by decide +kernel
theorem dX4_flow_256 : decode cX4_flow 256 = .ok (.iload_n 2, 1) := by decide +kernel
theorem dX4_flow_257 : decode cX4_flow 257 = .ok (.aload_n 0, 1) := by decide +kernel
theorem dX4_flow_258 : decode cX4_flow 258 = .ok (.invokevirtual 123, 3) := by decide +kernel
theorem dX4_flow_261 : decode cX4_flow 261 = .ok (.invokevirtual 233, 3) := by decide +kernel
theorem dX4_flow_264 : decode cX4_flow 264 = .ok (.goto 8, 3) := by decide +kernel
theorem dX4_flow_267 : decode cX4_flow 267 = .ok (.aload_n 0, 1) := by decide +kernel
theorem dX4_flow_268 : decode cX4_flow 268 = .ok (.iload_n 2, 1) := by decide +kernel
theorem dX4_flow_269 : decode cX4_flow 269 = .ok (.invokevirtual 236, 3) := by decide +kernel
theorem dX4_flow_272 : decode cX4_flow 272 = .ok (.return_, 1) := by decide +kernel
def wX4_flow_b272 (a0 : Nat) (x1 : Int32)  (Sn : kp_S) (post : kp_S → Prop) : Prop :=
  post Sn
def wX4_flow_b101 (a0 : Nat) (x1 : Int32) (xn2 : Int32) (xt0 : Int32) (at1 : Nat)  (Sn : kp_S) (post : kp_S → Prop) : Prop :=
  wX4_jumpIf at1 xt0 xn2 Sn (fun T2001 =>
  wX4_flow_b272 a0 x1   T2001 post)
def wX4_flow_b122 (a0 : Nat) (x1 : Int32) (xn2 : Int32) (xt0 : Int32) (at1 : Nat)  (Sn : kp_S) (post : kp_S → Prop) : Prop :=
  wX4_settle at1 xt0 xn2 Sn (fun T3001 =>
  wX4_flow_b272 a0 x1   T3001 post)
def wX4_flow_b143 (a0 : Nat) (x1 : Int32) (xn2 : Int32) (xt0 : Int32) (at1 : Nat)  (Sn : kp_S) (post : kp_S → Prop) : Prop :=
  wX4_settle at1 xt0 xn2 Sn (fun T4001 =>
  wX4_flow_b272 a0 x1   T4001 post)
def wX4_flow_b217 (a0 : Nat) (x1 : Int32) (xn2 : Int32) (xt0 : Int32) (at1 : Nat)  (Sn : kp_S) (post : kp_S → Prop) : Prop :=
  wX4_jumpIf at1 xt0 xn2 Sn (fun T5001 =>
  wX4_flow_b272 a0 x1   T5001 post)
def wX4_flow_b14 (a0 : Nat) (x1 : Int32) (xt0 : Int32)  (Sn : kp_S) (post : kp_S → Prop) : Prop :=
  ((x1 = 22 →
  ∀ T6002 : kp_S, T6002 = kp_sI Sn 810 a0 xt0 →
  wX4_flow_b272 a0 x1   T6002 post) ∧ (¬ x1 = 22 →
  ((x1 = 23 →
  wX4_pop a0 Sn (fun y6005 T6004 =>
  ((¬ y6005 = 0 →
  wX4_flow_b101 a0 x1 xt0 0 a0  T6004 post) ∧ (y6005 = 0 →
  wX4_flow_b101 a0 x1 xt0 1 a0  T6004 post)))) ∧ (¬ x1 = 23 →
  ((x1 = 24 →
  wX4_peek a0 0 Sn (fun y6009 T6008 =>
  ((y6009 = 0 →
  wX4_flow_b122 a0 x1 xt0 0 a0  T6008 post) ∧ (¬ y6009 = 0 →
  wX4_flow_b122 a0 x1 xt0 1 a0  T6008 post)))) ∧ (¬ x1 = 24 →
  ((x1 = 25 →
  wX4_peek a0 0 Sn (fun y6013 T6012 =>
  ((¬ y6013 = 0 →
  wX4_flow_b143 a0 x1 xt0 0 a0  T6012 post) ∧ (y6013 = 0 →
  wX4_flow_b143 a0 x1 xt0 1 a0  T6012 post)))) ∧ (¬ x1 = 25 →
  ((x1 = 26 →
  ∀ T6016 : kp_S, T6016 = kp_sI Sn 803 a0 (if ((kp_I Sn 803 a0) - xt0) < (0 : Int32) then 0 else ((kp_I Sn 803 a0) - xt0)) →
  wX4_flow_b272 a0 x1   T6016 post) ∧ (¬ x1 = 26 →
  ((x1 = 27 →
  wX4_frame a0 Sn (fun b6019 T6018 =>
  wX4_pop a0 T6018 (fun y6021 T6020 =>
  wX3_set b6019 xt0 y6021 T6020 (fun T6022 =>
  wX4_flow_b272 a0 x1   T6022 post)))) ∧ (¬ x1 = 27 →
  ((x1 = 28 →
  wX4_pop a0 Sn (fun y6025 T6024 =>
  wX4_match a0 y6025 xt0 T6024 (fun T6026 =>
  wX4_flow_b272 a0 x1   T6026 post))) ∧ (¬ x1 = 28 →
  ((x1 = 29 →
  wX4_pop a0 Sn (fun y6029 T6028 =>
  wX4_top a0 T6028 (fun b6031 T6030 =>
  ∃ b6032 : Nat, kp_R T6030 1208 b6031 = some b6032 ∧
  ((¬ y6029 = (kp_I T6030 2001 b6032) →
  wX4_flow_b217 a0 x1 xt0 0 a0  T6030 post) ∧ (y6029 = (kp_I T6030 2001 b6032) →
  wX4_flow_b217 a0 x1 xt0 1 a0  T6030 post))))) ∧ (¬ x1 = 29 →
  ((x1 = 30 →
  wX4_spend a0 Sn (fun y6036 T6035 =>
  ((y6036 = 0 →
  wX4_flow_b272 a0 x1   T6035 post) ∧ (¬ y6036 = 0 →
  ∀ T6037 : kp_S, T6037 = kp_sI T6035 811 a0 xt0 →
  wX4_flow_b272 a0 x1   T6037 post)))) ∧ (¬ x1 = 30 →
  ((x1 = 31 →
  ∀ T6040 : kp_S, T6040 = kp_sI Sn 811 a0 xt0 →
  wX4_flow_b272 a0 x1   T6040 post) ∧ (¬ x1 = 31 →
  ((x1 = 32 →
  wX4_spend a0 Sn (fun y6043 T6042 =>
  wX4_flow_b272 a0 x1   T6042 post)) ∧ (¬ x1 = 32 →
  ((x1 = 33 →
  wX4_take a0 Sn (fun y6046 T6045 =>
  wX4_beginRoundOfEach a0 xt0 y6046 T6045 (fun T6047 =>
  wX4_flow_b272 a0 x1   T6047 post))) ∧ (¬ x1 = 33 →
  wX4_stepEach a0 xt0 Sn (fun T6048 =>
  wX4_flow_b272 a0 x1   T6048 post)))))))))))))))))))))))))
def wX4_flow (a0 : Nat) (x1 : Int32) (S : kp_S) (post : kp_S → Prop) : Prop :=
  ((¬ x1 = 32 →
  wX4_take a0 S (fun y2 T1 =>
  wX4_flow_b14 a0 x1 y2  T1 post)) ∧ (x1 = 32 →
  wX4_flow_b14 a0 x1 0  S post))
set_option maxHeartbeats 4000000 in
set_option maxRecDepth 100000 in
theorem c_X4_flow (l : Launch) (D : va_G) (cy : Nat → ClassId) (ad : (Nat → Nat) × (Nat → Nat)) (S : kp_S) (a0 : Nat) (x1 : Int32) (post : kp_S → Prop) (hS : kp_ok S) (f_a0 : kp_is S a0 4) (hw : wX4_flow a0 x1 S post) : kp_M l yX4_flow cX4_flow 3 none { frames := 2, cells := 0, slots := 0, locals := 45 } D cy ad S [.ref a0, .int x1] 0 0 (fun A => kp_Qv D cy A S post) := by
  refine kp_start (own := RX4) (by decide) rfl (Nat.le_of_ble_eq_true rfl) hS ?_
  intro p e s m below meth c A ls X hr hlocks hname h hl
  have hle : kp_le S S := kp_le.rf
  have hl : lv_has ls 3 [(0, .ref a0), (1, .int x1)] := hl
  have j272 : ∀  (Sn : kp_S) (H : Heap) (locs : List Loc) (ls : Array Slot), lv_has ls 3 [] → kp_H D cy A Sn s.heap H locs → kp_le S Sn → kp_is Sn a0 4 → wX4_flow_b272 a0 x1   Sn post → W p l e { frames := 2, cells := 0, slots := 0, locals := 45 } s m ([.ref a0, .int x1] : List Value).toArray below meth c H locs 0 0 (MQ below (kp_Qv D cy A S post) ([.ref a0, .int x1] : List Value).toArray s 0 0 A) (F0 m 272 ls []) := by
    intro  Sn H locs ls hl h hle f_a0 hw
    unfold wX4_flow_b272 at hw
    exact kp_retv X hr hlocks h hle hw dX4_flow_272
  have j101 : ∀ (xn2 : Int32) (xt0 : Int32) (at1 : Nat) (Sn : kp_S) (H : Heap) (locs : List Loc) (ls : Array Slot), lv_has ls 3 [(2, .int xn2)] → kp_H D cy A Sn s.heap H locs → kp_le S Sn → kp_is Sn at1 4 → kp_is Sn a0 4 → wX4_flow_b101 a0 x1 xn2 xt0 at1  Sn post → W p l e { frames := 2, cells := 0, slots := 0, locals := 45 } s m ([.ref a0, .int x1] : List Value).toArray below meth c H locs 0 0 (MQ below (kp_Qv D cy A S post) ([.ref a0, .int x1] : List Value).toArray s 0 0 A) (F0 m 101 ls [.int xt0, .ref at1]) := by
    intro xn2 xt0 at1 Sn H locs ls hl h hle f_at1 f_a0 hw
    unfold wX4_flow_b101 at hw
    refine lv_iload_n X.1 X.2.1 dX4_flow_101 rfl (lv_at hl 0 rfl) ?_
    refine kp_callv X h (kp_runV (rm := { frames := 0, cells := 0, slots := 0, locals := 0 }) (mc := 0) (ms := 0) (rest := []) (Qc := fun A => kp_Qv D cy A Sn _) X h (c_X4_jumpIf l D cy ad Sn at1 xt0 xn2 _ h.2.2.2 f_at1 hw) f_at1 cv_4_207 ⟨by decide, by decide, rfl, rfl, by decide, by decide⟩ rfl hl.1 rfl (Nat.le_of_ble_eq_true rfl) dX4_flow_102) (fun T2001 hw l_T2001 H locs h => ?_)
    have f_at1 := l_T2001.is f_at1
    have f_a0 := l_T2001.is f_a0
    have hle := hle.tr l_T2001
    refine lv_goto (tgt := 272) X.1 X.2.1 dX4_flow_105 (by decide) ?_
    exact j272  T2001 H locs ls (lv_sub hl [] rfl) h hle f_a0 hw
  have j122 : ∀ (xn2 : Int32) (xt0 : Int32) (at1 : Nat) (Sn : kp_S) (H : Heap) (locs : List Loc) (ls : Array Slot), lv_has ls 3 [(2, .int xn2)] → kp_H D cy A Sn s.heap H locs → kp_le S Sn → kp_is Sn at1 4 → kp_is Sn a0 4 → wX4_flow_b122 a0 x1 xn2 xt0 at1  Sn post → W p l e { frames := 2, cells := 0, slots := 0, locals := 45 } s m ([.ref a0, .int x1] : List Value).toArray below meth c H locs 0 0 (MQ below (kp_Qv D cy A S post) ([.ref a0, .int x1] : List Value).toArray s 0 0 A) (F0 m 122 ls [.int xt0, .ref at1]) := by
    intro xn2 xt0 at1 Sn H locs ls hl h hle f_at1 f_a0 hw
    unfold wX4_flow_b122 at hw
    refine lv_iload_n X.1 X.2.1 dX4_flow_122 rfl (lv_at hl 0 rfl) ?_
    refine kp_callv X h (kp_runV (rm := { frames := 1, cells := 0, slots := 0, locals := 21 }) (mc := 0) (ms := 0) (rest := []) (Qc := fun A => kp_Qv D cy A Sn _) X h (c_X4_settle l D cy ad Sn at1 xt0 xn2 _ h.2.2.2 f_at1 hw) f_at1 cv_4_214 ⟨by decide, by decide, rfl, rfl, by decide, by decide⟩ rfl hl.1 rfl (Nat.le_of_ble_eq_true rfl) dX4_flow_123) (fun T3001 hw l_T3001 H locs h => ?_)
    have f_at1 := l_T3001.is f_at1
    have f_a0 := l_T3001.is f_a0
    have hle := hle.tr l_T3001
    refine lv_goto (tgt := 272) X.1 X.2.1 dX4_flow_126 (by decide) ?_
    exact j272  T3001 H locs ls (lv_sub hl [] rfl) h hle f_a0 hw
  have j143 : ∀ (xn2 : Int32) (xt0 : Int32) (at1 : Nat) (Sn : kp_S) (H : Heap) (locs : List Loc) (ls : Array Slot), lv_has ls 3 [(2, .int xn2)] → kp_H D cy A Sn s.heap H locs → kp_le S Sn → kp_is Sn at1 4 → kp_is Sn a0 4 → wX4_flow_b143 a0 x1 xn2 xt0 at1  Sn post → W p l e { frames := 2, cells := 0, slots := 0, locals := 45 } s m ([.ref a0, .int x1] : List Value).toArray below meth c H locs 0 0 (MQ below (kp_Qv D cy A S post) ([.ref a0, .int x1] : List Value).toArray s 0 0 A) (F0 m 143 ls [.int xt0, .ref at1]) := by
    intro xn2 xt0 at1 Sn H locs ls hl h hle f_at1 f_a0 hw
    unfold wX4_flow_b143 at hw
    refine lv_iload_n X.1 X.2.1 dX4_flow_143 rfl (lv_at hl 0 rfl) ?_
    refine kp_callv X h (kp_runV (rm := { frames := 1, cells := 0, slots := 0, locals := 21 }) (mc := 0) (ms := 0) (rest := []) (Qc := fun A => kp_Qv D cy A Sn _) X h (c_X4_settle l D cy ad Sn at1 xt0 xn2 _ h.2.2.2 f_at1 hw) f_at1 cv_4_214 ⟨by decide, by decide, rfl, rfl, by decide, by decide⟩ rfl hl.1 rfl (Nat.le_of_ble_eq_true rfl) dX4_flow_144) (fun T4001 hw l_T4001 H locs h => ?_)
    have f_at1 := l_T4001.is f_at1
    have f_a0 := l_T4001.is f_a0
    have hle := hle.tr l_T4001
    refine lv_goto (tgt := 272) X.1 X.2.1 dX4_flow_147 (by decide) ?_
    exact j272  T4001 H locs ls (lv_sub hl [] rfl) h hle f_a0 hw
  have j217 : ∀ (xn2 : Int32) (xt0 : Int32) (at1 : Nat) (Sn : kp_S) (H : Heap) (locs : List Loc) (ls : Array Slot), lv_has ls 3 [(2, .int xn2)] → kp_H D cy A Sn s.heap H locs → kp_le S Sn → kp_is Sn at1 4 → kp_is Sn a0 4 → wX4_flow_b217 a0 x1 xn2 xt0 at1  Sn post → W p l e { frames := 2, cells := 0, slots := 0, locals := 45 } s m ([.ref a0, .int x1] : List Value).toArray below meth c H locs 0 0 (MQ below (kp_Qv D cy A S post) ([.ref a0, .int x1] : List Value).toArray s 0 0 A) (F0 m 217 ls [.int xt0, .ref at1]) := by
    intro xn2 xt0 at1 Sn H locs ls hl h hle f_at1 f_a0 hw
    unfold wX4_flow_b217 at hw
    refine lv_iload_n X.1 X.2.1 dX4_flow_217 rfl (lv_at hl 0 rfl) ?_
    refine kp_callv X h (kp_runV (rm := { frames := 0, cells := 0, slots := 0, locals := 0 }) (mc := 0) (ms := 0) (rest := []) (Qc := fun A => kp_Qv D cy A Sn _) X h (c_X4_jumpIf l D cy ad Sn at1 xt0 xn2 _ h.2.2.2 f_at1 hw) f_at1 cv_4_207 ⟨by decide, by decide, rfl, rfl, by decide, by decide⟩ rfl hl.1 rfl (Nat.le_of_ble_eq_true rfl) dX4_flow_218) (fun T5001 hw l_T5001 H locs h => ?_)
    have f_at1 := l_T5001.is f_at1
    have f_a0 := l_T5001.is f_a0
    have hle := hle.tr l_T5001
    refine lv_goto (tgt := 272) X.1 X.2.1 dX4_flow_221 (by decide) ?_
    exact j272  T5001 H locs ls (lv_sub hl [] rfl) h hle f_a0 hw
  have j14 : ∀ (xt0 : Int32) (Sn : kp_S) (H : Heap) (locs : List Loc) (ls : Array Slot), lv_has ls 3 [(0, .ref a0), (1, .int x1)] → kp_H D cy A Sn s.heap H locs → kp_le S Sn → kp_is Sn a0 4 → wX4_flow_b14 a0 x1 xt0  Sn post → W p l e { frames := 2, cells := 0, slots := 0, locals := 45 } s m ([.ref a0, .int x1] : List Value).toArray below meth c H locs 0 0 (MQ below (kp_Qv D cy A S post) ([.ref a0, .int x1] : List Value).toArray s 0 0 A) (F0 m 14 ls [.int xt0]) := by
    intro xt0 Sn H locs ls hl h hle f_a0 hw
    unfold wX4_flow_b14 at hw
    refine lv_istore_n (lv' := [(2, .int xt0), (0, .ref a0), (1, .int x1)]) X.1 X.2.1 dX4_flow_14 rfl hl (by decide) rfl (fun ls hl => ?_)
    refine lv_iload_n X.1 X.2.1 dX4_flow_15 rfl (lv_at hl 2 rfl) ?_
    by_cases c6001 : x1 = 22
    · have hw := hw.1 c6001
      refine lv_tableIn (off := 64) (tgt := 80) X.1 X.2.1 dX4_flow_16 (by rw [c6001]; decide) (by rw [c6001]; decide) (by rw [c6001]; decide) (by decide) ?_
      refine lv_aload_n X.1 X.2.1 dX4_flow_80 rfl (lv_at hl 1 rfl) ?_
      refine lv_iload_n X.1 X.2.1 dX4_flow_81 rfl (lv_at hl 0 rfl) ?_
      refine kp_putI X h f_a0 fp_4_145 rfl ⟨rfl, rfl⟩ dX4_flow_82 (fun T6002 e_T6002 l_T6002 H locs h => ?_)
      have hw := hw T6002 e_T6002
      have f_a0 := l_T6002.is f_a0
      have hle := hle.tr l_T6002
      refine lv_goto (tgt := 272) X.1 X.2.1 dX4_flow_85 (by decide) ?_
      exact j272  T6002 H locs ls (lv_sub hl [] rfl) h hle f_a0 hw
    have hw := hw.2 c6001
    by_cases c6003 : x1 = 23
    · have hw := hw.1 c6003
      refine lv_tableIn (off := 72) (tgt := 88) X.1 X.2.1 dX4_flow_16 (by rw [c6003]; decide) (by rw [c6003]; decide) (by rw [c6003]; decide) (by decide) ?_
      refine lv_aload_n X.1 X.2.1 dX4_flow_88 rfl (lv_at hl 1 rfl) ?_
      refine lv_aload_n X.1 X.2.1 dX4_flow_89 rfl (lv_at hl 1 rfl) ?_
      refine kp_calli X h (kp_runV (rm := { frames := 0, cells := 0, slots := 0, locals := 0 }) (mc := 0) (ms := 0) (rest := [.ref a0]) (Qc := fun A => kp_Qi D cy A Sn _) X h (c_X4_pop l D cy ad Sn a0 _ h.2.2.2 f_a0 hw) f_a0 cv_4_181 ⟨by decide, by decide, rfl, rfl, by decide, by decide⟩ rfl hl.1 rfl (Nat.le_of_ble_eq_true rfl) dX4_flow_90) (fun y6005 T6004 hw l_T6004 H locs h => ?_)
      have f_a0 := l_T6004.is f_a0
      have hle := hle.tr l_T6004
      refine lv_if_ne (tgt := 100) X.1 X.2.1 dX4_flow_93 (by decide) (fun c6006 => ?_) (fun c6006 => ?_)
      · have hw := hw.1 c6006
        refine lv_iconst (v := 0) X.1 X.2.1 dX4_flow_100 (by decide) ?_
        exact j101 xt0 0 a0 T6004 H locs ls (lv_sub hl [0] rfl) h hle f_a0 f_a0 hw
      · have hw := hw.2 c6006
        refine lv_iconst (v := 1) X.1 X.2.1 dX4_flow_96 (by decide) ?_
        refine lv_goto (tgt := 101) X.1 X.2.1 dX4_flow_97 (by decide) ?_
        exact j101 xt0 1 a0 T6004 H locs ls (lv_sub hl [0] rfl) h hle f_a0 f_a0 hw
    have hw := hw.2 c6003
    by_cases c6007 : x1 = 24
    · have hw := hw.1 c6007
      refine lv_tableIn (off := 92) (tgt := 108) X.1 X.2.1 dX4_flow_16 (by rw [c6007]; decide) (by rw [c6007]; decide) (by rw [c6007]; decide) (by decide) ?_
      refine lv_aload_n X.1 X.2.1 dX4_flow_108 rfl (lv_at hl 1 rfl) ?_
      refine lv_aload_n X.1 X.2.1 dX4_flow_109 rfl (lv_at hl 1 rfl) ?_
      refine lv_iconst (v := 0) X.1 X.2.1 dX4_flow_110 (by decide) ?_
      refine kp_calli X h (kp_runV (rm := { frames := 0, cells := 0, slots := 0, locals := 0 }) (mc := 0) (ms := 0) (rest := [.ref a0]) (Qc := fun A => kp_Qi D cy A Sn _) X h (c_X4_peek l D cy ad Sn a0 0 _ h.2.2.2 f_a0 hw) f_a0 cv_4_211 ⟨by decide, by decide, rfl, rfl, by decide, by decide⟩ rfl hl.1 rfl (Nat.le_of_ble_eq_true rfl) dX4_flow_111) (fun y6009 T6008 hw l_T6008 H locs h => ?_)
      have f_a0 := l_T6008.is f_a0
      have hle := hle.tr l_T6008
      refine lv_if_eq (tgt := 121) X.1 X.2.1 dX4_flow_114 (by decide) (fun c6010 => ?_) (fun c6010 => ?_)
      · have hw := hw.1 c6010
        refine lv_iconst (v := 0) X.1 X.2.1 dX4_flow_121 (by decide) ?_
        exact j122 xt0 0 a0 T6008 H locs ls (lv_sub hl [0] rfl) h hle f_a0 f_a0 hw
      · have hw := hw.2 c6010
        refine lv_iconst (v := 1) X.1 X.2.1 dX4_flow_117 (by decide) ?_
        refine lv_goto (tgt := 122) X.1 X.2.1 dX4_flow_118 (by decide) ?_
        exact j122 xt0 1 a0 T6008 H locs ls (lv_sub hl [0] rfl) h hle f_a0 f_a0 hw
    have hw := hw.2 c6007
    by_cases c6011 : x1 = 25
    · have hw := hw.1 c6011
      refine lv_tableIn (off := 113) (tgt := 129) X.1 X.2.1 dX4_flow_16 (by rw [c6011]; decide) (by rw [c6011]; decide) (by rw [c6011]; decide) (by decide) ?_
      refine lv_aload_n X.1 X.2.1 dX4_flow_129 rfl (lv_at hl 1 rfl) ?_
      refine lv_aload_n X.1 X.2.1 dX4_flow_130 rfl (lv_at hl 1 rfl) ?_
      refine lv_iconst (v := 0) X.1 X.2.1 dX4_flow_131 (by decide) ?_
      refine kp_calli X h (kp_runV (rm := { frames := 0, cells := 0, slots := 0, locals := 0 }) (mc := 0) (ms := 0) (rest := [.ref a0]) (Qc := fun A => kp_Qi D cy A Sn _) X h (c_X4_peek l D cy ad Sn a0 0 _ h.2.2.2 f_a0 hw) f_a0 cv_4_211 ⟨by decide, by decide, rfl, rfl, by decide, by decide⟩ rfl hl.1 rfl (Nat.le_of_ble_eq_true rfl) dX4_flow_132) (fun y6013 T6012 hw l_T6012 H locs h => ?_)
      have f_a0 := l_T6012.is f_a0
      have hle := hle.tr l_T6012
      refine lv_if_ne (tgt := 142) X.1 X.2.1 dX4_flow_135 (by decide) (fun c6014 => ?_) (fun c6014 => ?_)
      · have hw := hw.1 c6014
        refine lv_iconst (v := 0) X.1 X.2.1 dX4_flow_142 (by decide) ?_
        exact j143 xt0 0 a0 T6012 H locs ls (lv_sub hl [0] rfl) h hle f_a0 f_a0 hw
      · have hw := hw.2 c6014
        refine lv_iconst (v := 1) X.1 X.2.1 dX4_flow_138 (by decide) ?_
        refine lv_goto (tgt := 143) X.1 X.2.1 dX4_flow_139 (by decide) ?_
        exact j143 xt0 1 a0 T6012 H locs ls (lv_sub hl [0] rfl) h hle f_a0 f_a0 hw
    have hw := hw.2 c6011
    by_cases c6015 : x1 = 26
    · have hw := hw.1 c6015
      refine lv_tableIn (off := 134) (tgt := 150) X.1 X.2.1 dX4_flow_16 (by rw [c6015]; decide) (by rw [c6015]; decide) (by rw [c6015]; decide) (by decide) ?_
      refine lv_aload_n X.1 X.2.1 dX4_flow_150 rfl (lv_at hl 1 rfl) ?_
      refine lv_aload_n X.1 X.2.1 dX4_flow_151 rfl (lv_at hl 1 rfl) ?_
      refine kp_get X h f_a0 fp_4_53.l (v := .int (kp_I Sn 803 a0)) rfl dX4_flow_152 ?_
      refine lv_iload_n X.1 X.2.1 dX4_flow_155 rfl (lv_at hl 0 rfl) ?_
      refine lv_isub X.1 X.2.1 dX4_flow_156 ?_
      refine lv_iconst (v := 0) X.1 X.2.1 dX4_flow_157 (by decide) ?_
      refine kp_mmax X hl.1 mm_4_217 (by decide) (Nat.le_of_ble_eq_true rfl) (by decide) (by decide) dX4_flow_158 ?_
      refine kp_putI X h f_a0 fp_4_53 rfl ⟨rfl, rfl⟩ dX4_flow_161 (fun T6016 e_T6016 l_T6016 H locs h => ?_)
      have hw := hw T6016 e_T6016
      have f_a0 := l_T6016.is f_a0
      have hle := hle.tr l_T6016
      refine lv_goto (tgt := 272) X.1 X.2.1 dX4_flow_164 (by decide) ?_
      exact j272  T6016 H locs ls (lv_sub hl [] rfl) h hle f_a0 hw
    have hw := hw.2 c6015
    by_cases c6017 : x1 = 27
    · have hw := hw.1 c6017
      refine lv_tableIn (off := 151) (tgt := 167) X.1 X.2.1 dX4_flow_16 (by rw [c6017]; decide) (by rw [c6017]; decide) (by rw [c6017]; decide) (by decide) ?_
      refine lv_aload_n X.1 X.2.1 dX4_flow_167 rfl (lv_at hl 1 rfl) ?_
      refine kp_callr X h (kp_runV (rm := { frames := 0, cells := 0, slots := 0, locals := 0 }) (mc := 0) (ms := 0) (rest := []) (Qc := fun A => kp_Qr D cy A Sn 3 _) X h (c_X4_frame l D cy ad Sn a0 _ h.2.2.2 f_a0 hw) f_a0 cv_4_172 ⟨by decide, by decide, rfl, rfl, by decide, by decide⟩ rfl hl.1 rfl (Nat.le_of_ble_eq_true rfl) dX4_flow_168) (fun b6019 T6018 hw l_T6018 f_b6019 H locs h => ?_)
      have f_a0 := l_T6018.is f_a0
      have hle := hle.tr l_T6018
      refine lv_iload_n X.1 X.2.1 dX4_flow_171 rfl (lv_at hl 0 rfl) ?_
      refine lv_aload_n X.1 X.2.1 dX4_flow_172 rfl (lv_at hl 1 rfl) ?_
      refine kp_calli X h (kp_runV (rm := { frames := 0, cells := 0, slots := 0, locals := 0 }) (mc := 0) (ms := 0) (rest := [.int xt0, .ref b6019]) (Qc := fun A => kp_Qi D cy A T6018 _) X h (c_X4_pop l D cy ad T6018 a0 _ h.2.2.2 f_a0 hw) f_a0 cv_4_181 ⟨by decide, by decide, rfl, rfl, by decide, by decide⟩ rfl hl.1 rfl (Nat.le_of_ble_eq_true rfl) dX4_flow_173) (fun y6021 T6020 hw l_T6020 H locs h => ?_)
      have f_a0 := l_T6020.is f_a0
      have f_b6019 := l_T6020.is f_b6019
      have hle := hle.tr l_T6020
      refine kp_callv X h (kp_runV (rm := { frames := 0, cells := 0, slots := 0, locals := 0 }) (mc := 0) (ms := 0) (rest := []) (Qc := fun A => kp_Qv D cy A T6020 _) X h (c_X3_set l D cy ad T6020 b6019 xt0 y6021 _ h.2.2.2 f_b6019 hw) f_b6019 cv_4_222 ⟨by decide, by decide, rfl, rfl, by decide, by decide⟩ rfl hl.1 rfl (Nat.le_of_ble_eq_true rfl) dX4_flow_176) (fun T6022 hw l_T6022 H locs h => ?_)
      have f_a0 := l_T6022.is f_a0
      have f_b6019 := l_T6022.is f_b6019
      have hle := hle.tr l_T6022
      refine lv_goto (tgt := 272) X.1 X.2.1 dX4_flow_179 (by decide) ?_
      exact j272  T6022 H locs ls (lv_sub hl [] rfl) h hle f_a0 hw
    have hw := hw.2 c6017
    by_cases c6023 : x1 = 28
    · have hw := hw.1 c6023
      refine lv_tableIn (off := 166) (tgt := 182) X.1 X.2.1 dX4_flow_16 (by rw [c6023]; decide) (by rw [c6023]; decide) (by rw [c6023]; decide) (by decide) ?_
      refine lv_aload_n X.1 X.2.1 dX4_flow_182 rfl (lv_at hl 1 rfl) ?_
      refine lv_aload_n X.1 X.2.1 dX4_flow_183 rfl (lv_at hl 1 rfl) ?_
      refine kp_calli X h (kp_runV (rm := { frames := 0, cells := 0, slots := 0, locals := 0 }) (mc := 0) (ms := 0) (rest := [.ref a0]) (Qc := fun A => kp_Qi D cy A Sn _) X h (c_X4_pop l D cy ad Sn a0 _ h.2.2.2 f_a0 hw) f_a0 cv_4_181 ⟨by decide, by decide, rfl, rfl, by decide, by decide⟩ rfl hl.1 rfl (Nat.le_of_ble_eq_true rfl) dX4_flow_184) (fun y6025 T6024 hw l_T6024 H locs h => ?_)
      have f_a0 := l_T6024.is f_a0
      have hle := hle.tr l_T6024
      refine lv_iload_n X.1 X.2.1 dX4_flow_187 rfl (lv_at hl 0 rfl) ?_
      refine kp_callv X h (kp_runV (rm := { frames := 1, cells := 0, slots := 0, locals := 22 }) (mc := 0) (ms := 0) (rest := []) (Qc := fun A => kp_Qv D cy A T6024 _) X h (c_X4_match l D cy ad T6024 a0 y6025 xt0 _ h.2.2.2 f_a0 hw) f_a0 cv_4_223 ⟨by decide, by decide, rfl, rfl, by decide, by decide⟩ rfl hl.1 rfl (Nat.le_of_ble_eq_true rfl) dX4_flow_188) (fun T6026 hw l_T6026 H locs h => ?_)
      have f_a0 := l_T6026.is f_a0
      have hle := hle.tr l_T6026
      refine lv_goto (tgt := 272) X.1 X.2.1 dX4_flow_191 (by decide) ?_
      exact j272  T6026 H locs ls (lv_sub hl [] rfl) h hle f_a0 hw
    have hw := hw.2 c6023
    by_cases c6027 : x1 = 29
    · have hw := hw.1 c6027
      refine lv_tableIn (off := 178) (tgt := 194) X.1 X.2.1 dX4_flow_16 (by rw [c6027]; decide) (by rw [c6027]; decide) (by rw [c6027]; decide) (by decide) ?_
      refine lv_aload_n X.1 X.2.1 dX4_flow_194 rfl (lv_at hl 1 rfl) ?_
      refine lv_aload_n X.1 X.2.1 dX4_flow_195 rfl (lv_at hl 1 rfl) ?_
      refine kp_calli X h (kp_runV (rm := { frames := 0, cells := 0, slots := 0, locals := 0 }) (mc := 0) (ms := 0) (rest := [.ref a0]) (Qc := fun A => kp_Qi D cy A Sn _) X h (c_X4_pop l D cy ad Sn a0 _ h.2.2.2 f_a0 hw) f_a0 cv_4_181 ⟨by decide, by decide, rfl, rfl, by decide, by decide⟩ rfl hl.1 rfl (Nat.le_of_ble_eq_true rfl) dX4_flow_196) (fun y6029 T6028 hw l_T6028 H locs h => ?_)
      have f_a0 := l_T6028.is f_a0
      have hle := hle.tr l_T6028
      refine lv_aload_n X.1 X.2.1 dX4_flow_199 rfl (lv_at hl 1 rfl) ?_
      refine kp_callr X h (kp_runV (rm := { frames := 0, cells := 0, slots := 0, locals := 0 }) (mc := 0) (ms := 0) (rest := [.int y6029, .ref a0]) (Qc := fun A => kp_Qr D cy A T6028 6 _) X h (c_X4_top l D cy ad T6028 a0 _ h.2.2.2 f_a0 hw) f_a0 cv_4_149 ⟨by decide, by decide, rfl, rfl, by decide, by decide⟩ rfl hl.1 rfl (Nat.le_of_ble_eq_true rfl) dX4_flow_200) (fun b6031 T6030 hw l_T6030 f_b6031 H locs h => ?_)
      have f_a0 := l_T6030.is f_a0
      have hle := hle.tr l_T6030
      obtain ⟨b6032, e_b6032, hw⟩ := hw
      have f_b6032 := h.2.2.2.rf (c := 6) (k := 8) f_b6031 (by decide) (by decide) e_b6032 (t := 10) rfl
      refine kp_get X h f_b6031 fl_4_226 (v := .ref b6032) (congrArg va_rf e_b6032) dX4_flow_203 ?_
      refine kp_get X h f_b6032 fp_4_111.l (v := .int (kp_I T6030 2001 b6032)) rfl dX4_flow_206 ?_
      refine lv_icmp_ne (tgt := 216) X.1 X.2.1 dX4_flow_209 (by decide) (fun c6033 => ?_) (fun c6033 => ?_)
      · have hw := hw.1 c6033
        refine lv_iconst (v := 0) X.1 X.2.1 dX4_flow_216 (by decide) ?_
        exact j217 xt0 0 a0 T6030 H locs ls (lv_sub hl [0] rfl) h hle f_a0 f_a0 hw
      · have hw := hw.2 c6033
        refine lv_iconst (v := 1) X.1 X.2.1 dX4_flow_212 (by decide) ?_
        refine lv_goto (tgt := 217) X.1 X.2.1 dX4_flow_213 (by decide) ?_
        exact j217 xt0 1 a0 T6030 H locs ls (lv_sub hl [0] rfl) h hle f_a0 f_a0 hw
    have hw := hw.2 c6027
    by_cases c6034 : x1 = 30
    · have hw := hw.1 c6034
      refine lv_tableIn (off := 208) (tgt := 224) X.1 X.2.1 dX4_flow_16 (by rw [c6034]; decide) (by rw [c6034]; decide) (by rw [c6034]; decide) (by decide) ?_
      refine lv_aload_n X.1 X.2.1 dX4_flow_224 rfl (lv_at hl 1 rfl) ?_
      refine kp_calli X h (kp_runV (rm := { frames := 0, cells := 0, slots := 0, locals := 0 }) (mc := 0) (ms := 0) (rest := []) (Qc := fun A => kp_Qi D cy A Sn _) X h (c_X4_spend l D cy ad Sn a0 _ h.2.2.2 f_a0 hw) f_a0 cv_4_229 ⟨by decide, by decide, rfl, rfl, by decide, by decide⟩ rfl hl.1 rfl (Nat.le_of_ble_eq_true rfl) dX4_flow_225) (fun y6036 T6035 hw l_T6035 H locs h => ?_)
      have f_a0 := l_T6035.is f_a0
      have hle := hle.tr l_T6035
      refine lv_if_eq (tgt := 272) X.1 X.2.1 dX4_flow_228 (by decide) (fun c6038 => ?_) (fun c6038 => ?_)
      · have hw := hw.1 c6038
        exact j272  T6035 H locs ls (lv_sub hl [] rfl) h hle f_a0 hw
      · have hw := hw.2 c6038
        refine lv_aload_n X.1 X.2.1 dX4_flow_231 rfl (lv_at hl 1 rfl) ?_
        refine lv_iload_n X.1 X.2.1 dX4_flow_232 rfl (lv_at hl 0 rfl) ?_
        refine kp_putI X h f_a0 fp_4_66 rfl ⟨rfl, rfl⟩ dX4_flow_233 (fun T6037 e_T6037 l_T6037 H locs h => ?_)
        have hw := hw T6037 e_T6037
        have f_a0 := l_T6037.is f_a0
        have hle := hle.tr l_T6037
        refine lv_goto (tgt := 272) X.1 X.2.1 dX4_flow_236 (by decide) ?_
        exact j272  T6037 H locs ls (lv_sub hl [] rfl) h hle f_a0 hw
    have hw := hw.2 c6034
    by_cases c6039 : x1 = 31
    · have hw := hw.1 c6039
      refine lv_tableIn (off := 223) (tgt := 239) X.1 X.2.1 dX4_flow_16 (by rw [c6039]; decide) (by rw [c6039]; decide) (by rw [c6039]; decide) (by decide) ?_
      refine lv_aload_n X.1 X.2.1 dX4_flow_239 rfl (lv_at hl 1 rfl) ?_
      refine lv_iload_n X.1 X.2.1 dX4_flow_240 rfl (lv_at hl 0 rfl) ?_
      refine kp_putI X h f_a0 fp_4_66 rfl ⟨rfl, rfl⟩ dX4_flow_241 (fun T6040 e_T6040 l_T6040 H locs h => ?_)
      have hw := hw T6040 e_T6040
      have f_a0 := l_T6040.is f_a0
      have hle := hle.tr l_T6040
      refine lv_goto (tgt := 272) X.1 X.2.1 dX4_flow_244 (by decide) ?_
      exact j272  T6040 H locs ls (lv_sub hl [] rfl) h hle f_a0 hw
    have hw := hw.2 c6039
    by_cases c6041 : x1 = 32
    · have hw := hw.1 c6041
      refine lv_tableIn (off := 231) (tgt := 247) X.1 X.2.1 dX4_flow_16 (by rw [c6041]; decide) (by rw [c6041]; decide) (by rw [c6041]; decide) (by decide) ?_
      refine lv_aload_n X.1 X.2.1 dX4_flow_247 rfl (lv_at hl 1 rfl) ?_
      refine kp_calli X h (kp_runV (rm := { frames := 0, cells := 0, slots := 0, locals := 0 }) (mc := 0) (ms := 0) (rest := []) (Qc := fun A => kp_Qi D cy A Sn _) X h (c_X4_spend l D cy ad Sn a0 _ h.2.2.2 f_a0 hw) f_a0 cv_4_229 ⟨by decide, by decide, rfl, rfl, by decide, by decide⟩ rfl hl.1 rfl (Nat.le_of_ble_eq_true rfl) dX4_flow_248) (fun y6043 T6042 hw l_T6042 H locs h => ?_)
      have f_a0 := l_T6042.is f_a0
      have hle := hle.tr l_T6042
      refine lv_pop X.1 X.2.1 dX4_flow_251 rfl ?_
      refine lv_goto (tgt := 272) X.1 X.2.1 dX4_flow_252 (by decide) ?_
      exact j272  T6042 H locs ls (lv_sub hl [] rfl) h hle f_a0 hw
    have hw := hw.2 c6041
    by_cases c6044 : x1 = 33
    · have hw := hw.1 c6044
      refine lv_tableIn (off := 239) (tgt := 255) X.1 X.2.1 dX4_flow_16 (by rw [c6044]; decide) (by rw [c6044]; decide) (by rw [c6044]; decide) (by decide) ?_
      refine lv_aload_n X.1 X.2.1 dX4_flow_255 rfl (lv_at hl 1 rfl) ?_
      refine lv_iload_n X.1 X.2.1 dX4_flow_256 rfl (lv_at hl 0 rfl) ?_
      refine lv_aload_n X.1 X.2.1 dX4_flow_257 rfl (lv_at hl 1 rfl) ?_
      refine kp_calli X h (kp_runV (rm := { frames := 1, cells := 0, slots := 0, locals := 21 }) (mc := 0) (ms := 0) (rest := [.int xt0, .ref a0]) (Qc := fun A => kp_Qi D cy A Sn _) X h (c_X4_take l D cy ad Sn a0 _ h.2.2.2 f_a0 hw) f_a0 cv_4_123 ⟨by decide, by decide, rfl, rfl, by decide, by decide⟩ rfl hl.1 rfl (Nat.le_of_ble_eq_true rfl) dX4_flow_258) (fun y6046 T6045 hw l_T6045 H locs h => ?_)
      have f_a0 := l_T6045.is f_a0
      have hle := hle.tr l_T6045
      refine kp_callv X h (kp_runV (rm := { frames := 1, cells := 0, slots := 0, locals := 22 }) (mc := 0) (ms := 0) (rest := []) (Qc := fun A => kp_Qv D cy A T6045 _) X h (c_X4_beginRoundOfEach l D cy ad T6045 a0 xt0 y6046 _ h.2.2.2 f_a0 hw) f_a0 cv_4_233 ⟨by decide, by decide, rfl, rfl, by decide, by decide⟩ rfl hl.1 rfl (Nat.le_of_ble_eq_true rfl) dX4_flow_261) (fun T6047 hw l_T6047 H locs h => ?_)
      have f_a0 := l_T6047.is f_a0
      have hle := hle.tr l_T6047
      refine lv_goto (tgt := 272) X.1 X.2.1 dX4_flow_264 (by decide) ?_
      exact j272  T6047 H locs ls (lv_sub hl [] rfl) h hle f_a0 hw
    have hw := hw.2 c6044
    have t_c6001 := lv_neT (a := 22) c6001 (by decide)
    have t_c6003 := lv_neT (a := 23) c6003 (by decide)
    have t_c6007 := lv_neT (a := 24) c6007 (by decide)
    have t_c6011 := lv_neT (a := 25) c6011 (by decide)
    have t_c6015 := lv_neT (a := 26) c6015 (by decide)
    have t_c6017 := lv_neT (a := 27) c6017 (by decide)
    have t_c6023 := lv_neT (a := 28) c6023 (by decide)
    have t_c6027 := lv_neT (a := 29) c6027 (by decide)
    have t_c6034 := lv_neT (a := 30) c6034 (by decide)
    have t_c6039 := lv_neT (a := 31) c6039 (by decide)
    have t_c6041 := lv_neT (a := 32) c6041 (by decide)
    have t_c6044 := lv_neT (a := 33) c6044 (by decide)
    refine lv_tableOut (tgt := 267) X.1 X.2.1 dX4_flow_16 (by omega) (by decide) ?_
    refine lv_aload_n X.1 X.2.1 dX4_flow_267 rfl (lv_at hl 1 rfl) ?_
    refine lv_iload_n X.1 X.2.1 dX4_flow_268 rfl (lv_at hl 0 rfl) ?_
    refine kp_callv X h (kp_runV (rm := { frames := 1, cells := 0, slots := 0, locals := 22 }) (mc := 0) (ms := 0) (rest := []) (Qc := fun A => kp_Qv D cy A Sn _) X h (c_X4_stepEach l D cy ad Sn a0 xt0 _ h.2.2.2 f_a0 hw) f_a0 cv_4_236 ⟨by decide, by decide, rfl, rfl, by decide, by decide⟩ rfl hl.1 rfl (Nat.le_of_ble_eq_true rfl) dX4_flow_269) (fun T6048 hw l_T6048 H locs h => ?_)
    have f_a0 := l_T6048.is f_a0
    have hle := hle.tr l_T6048
    exact j272  T6048 H locs ls (lv_sub hl [] rfl) h hle f_a0 hw
  unfold wX4_flow at hw
  have h : kp_H D cy A S s.heap s.heap [] := h
  revert h
  intro h
  refine lv_iload_n X.1 X.2.1 dX4_flow_0 rfl (lv_at hl 1 rfl) ?_
  refine lv_bipush (v := 32) X.1 X.2.1 dX4_flow_1 (by decide) ?_
  refine lv_icmp_ne (tgt := 10) X.1 X.2.1 dX4_flow_3 (by decide) (fun c3 => ?_) (fun c3 => ?_)
  · have hw := hw.1 c3
    refine lv_aload_n X.1 X.2.1 dX4_flow_10 rfl (lv_at hl 0 rfl) ?_
    refine kp_calli X h (kp_runV (rm := { frames := 1, cells := 0, slots := 0, locals := 21 }) (mc := 0) (ms := 0) (rest := []) (Qc := fun A => kp_Qi D cy A S _) X h (c_X4_take l D cy ad S a0 _ h.2.2.2 f_a0 hw) f_a0 cv_4_123 ⟨by decide, by decide, rfl, rfl, by decide, by decide⟩ rfl hl.1 rfl (Nat.le_of_ble_eq_true rfl) dX4_flow_11) (fun y2 T1 hw l_T1 H locs h => ?_)
    have f_a0 := l_T1.is f_a0
    have hle := hle.tr l_T1
    exact j14 y2 T1 _ _ ls (lv_sub hl [0, 1] rfl) h hle f_a0 hw
  · have hw := hw.2 c3
    refine lv_iconst (v := 0) X.1 X.2.1 dX4_flow_6 (by decide) ?_
    refine lv_goto (tgt := 14) X.1 X.2.1 dX4_flow_7 (by decide) ?_
    exact j14 0 S _ _ ls (lv_sub hl [0, 1] rfl) h hle f_a0 hw
theorem dX4_fail_0 : decode cX4_fail 0 = .ok (.aload_n 0, 1) := by decide +kernel
theorem dX4_fail_1 : decode cX4_fail 1 = .ok (.iload_n 1, 1) := by decide +kernel
theorem dX4_fail_2 : decode cX4_fail 2 = .ok (.bipush 10, 2) := by decide +kernel
theorem dX4_fail_4 : decode cX4_fail 4 = .ok (.if_icmp .lt 13, 3) := by decide +kernel
theorem dX4_fail_7 : decode cX4_fail 7 = .ok (.iload_n 1, 1) := by decide +kernel
theorem dX4_fail_8 : decode cX4_fail 8 = .ok (.bipush 99, 2) := by decide +kernel
theorem dX4_fail_10 : decode cX4_fail 10 = .ok (.if_icmp .gt 7, 3) := by decide +kernel
theorem dX4_fail_13 : decode cX4_fail 13 = .ok (.iload_n 1, 1) := by decide +kernel
theorem dX4_fail_14 : decode cX4_fail 14 = .ok (.goto 5, 3) := by decide +kernel
theorem dX4_fail_17 : decode cX4_fail 17 = .ok (.bipush 10, 2) := by decide +kernel
theorem dX4_fail_19 : decode cX4_fail 19 = .ok (.invokevirtual 188, 3) := by decide +kernel
theorem dX4_fail_22 : decode cX4_fail 22 = .ok (.return_, 1) := by decide +kernel
def wX4_fail_b19 (a0 : Nat) (x1 : Int32) (xt0 : Int32) (at1 : Nat)  (Sn : kp_S) (post : kp_S → Prop) : Prop :=
  wX4_trouble at1 xt0 Sn (fun T1001 =>
  post T1001)
def wX4_fail_b17 (a0 : Nat) (x1 : Int32) (at0 : Nat)  (Sn : kp_S) (post : kp_S → Prop) : Prop :=
  wX4_fail_b19 a0 x1 10 at0  Sn post
def wX4_fail (a0 : Nat) (x1 : Int32) (S : kp_S) (post : kp_S → Prop) : Prop :=
  ((x1 < 10 →
  wX4_fail_b17 a0 x1 a0  S post) ∧ (¬ x1 < 10 →
  ((99 < x1 →
  wX4_fail_b17 a0 x1 a0  S post) ∧ (¬ 99 < x1 →
  wX4_fail_b19 a0 x1 x1 a0  S post))))
set_option maxHeartbeats 4000000 in
set_option maxRecDepth 100000 in
theorem c_X4_fail (l : Launch) (D : va_G) (cy : Nat → ClassId) (ad : (Nat → Nat) × (Nat → Nat)) (S : kp_S) (a0 : Nat) (x1 : Int32) (post : kp_S → Prop) (hS : kp_ok S) (f_a0 : kp_is S a0 4) (hw : wX4_fail a0 x1 S post) : kp_M l yX4_fail cX4_fail 2 none { frames := 2, cells := 0, slots := 0, locals := 44 } D cy ad S [.ref a0, .int x1] 0 0 (fun A => kp_Qv D cy A S post) := by
  refine kp_start (own := RX4) (by decide) rfl (Nat.le_of_ble_eq_true rfl) hS ?_
  intro p e s m below meth c A ls X hr hlocks hname h hl
  have hle : kp_le S S := kp_le.rf
  have hl : lv_has ls 2 [(0, .ref a0), (1, .int x1)] := hl
  have j19 : ∀ (xt0 : Int32) (at1 : Nat) (Sn : kp_S) (H : Heap) (locs : List Loc) (ls : Array Slot), lv_has ls 2 [] → kp_H D cy A Sn s.heap H locs → kp_le S Sn → kp_is Sn at1 4 → kp_is Sn a0 4 → wX4_fail_b19 a0 x1 xt0 at1  Sn post → W p l e { frames := 2, cells := 0, slots := 0, locals := 44 } s m ([.ref a0, .int x1] : List Value).toArray below meth c H locs 0 0 (MQ below (kp_Qv D cy A S post) ([.ref a0, .int x1] : List Value).toArray s 0 0 A) (F0 m 19 ls [.int xt0, .ref at1]) := by
    intro xt0 at1 Sn H locs ls hl h hle f_at1 f_a0 hw
    unfold wX4_fail_b19 at hw
    refine kp_callv X h (kp_runV (rm := { frames := 1, cells := 0, slots := 0, locals := 23 }) (mc := 0) (ms := 0) (rest := []) (Qc := fun A => kp_Qv D cy A Sn _) X h (c_X4_trouble l D cy ad Sn at1 xt0 _ h.2.2.2 f_at1 hw) f_at1 cv_4_188 ⟨by decide, by decide, rfl, rfl, by decide, by decide⟩ rfl hl.1 rfl (Nat.le_of_ble_eq_true rfl) dX4_fail_19) (fun T1001 hw l_T1001 H locs h => ?_)
    have f_at1 := l_T1001.is f_at1
    have f_a0 := l_T1001.is f_a0
    have hle := hle.tr l_T1001
    exact kp_retv X hr hlocks h hle hw dX4_fail_22
  have j17 : ∀ (at0 : Nat) (Sn : kp_S) (H : Heap) (locs : List Loc) (ls : Array Slot), lv_has ls 2 [] → kp_H D cy A Sn s.heap H locs → kp_le S Sn → kp_is Sn at0 4 → kp_is Sn a0 4 → wX4_fail_b17 a0 x1 at0  Sn post → W p l e { frames := 2, cells := 0, slots := 0, locals := 44 } s m ([.ref a0, .int x1] : List Value).toArray below meth c H locs 0 0 (MQ below (kp_Qv D cy A S post) ([.ref a0, .int x1] : List Value).toArray s 0 0 A) (F0 m 17 ls [.ref at0]) := by
    intro at0 Sn H locs ls hl h hle f_at0 f_a0 hw
    unfold wX4_fail_b17 at hw
    refine lv_bipush (v := 10) X.1 X.2.1 dX4_fail_17 (by decide) ?_
    exact j19 10 at0 Sn H locs ls (lv_sub hl [] rfl) h hle f_at0 f_a0 hw
  unfold wX4_fail at hw
  have h : kp_H D cy A S s.heap s.heap [] := h
  revert h
  intro h
  refine lv_aload_n X.1 X.2.1 dX4_fail_0 rfl (lv_at hl 0 rfl) ?_
  refine lv_iload_n X.1 X.2.1 dX4_fail_1 rfl (lv_at hl 1 rfl) ?_
  refine lv_bipush (v := 10) X.1 X.2.1 dX4_fail_2 (by decide) ?_
  refine lv_icmp_lt (tgt := 17) X.1 X.2.1 dX4_fail_4 (by decide) (fun c2 => ?_) (fun c2 => ?_)
  · have hw := hw.1 c2
    exact j17 a0 S _ _ ls (lv_sub hl [] rfl) h hle f_a0 f_a0 hw
  · have hw := hw.2 c2
    refine lv_iload_n X.1 X.2.1 dX4_fail_7 rfl (lv_at hl 1 rfl) ?_
    refine lv_bipush (v := 99) X.1 X.2.1 dX4_fail_8 (by decide) ?_
    refine lv_icmp_gt (tgt := 17) X.1 X.2.1 dX4_fail_10 (by decide) (fun c1 => ?_) (fun c1 => ?_)
    · have hw := hw.1 c1
      exact j17 a0 S _ _ ls (lv_sub hl [] rfl) h hle f_a0 f_a0 hw
    · have hw := hw.2 c1
      refine lv_iload_n X.1 X.2.1 dX4_fail_13 rfl (lv_at hl 1 rfl) ?_
      refine lv_goto (tgt := 19) X.1 X.2.1 dX4_fail_14 (by decide) ?_
      exact j19 x1 a0 S _ _ ls (lv_sub hl [] rfl) h hle f_a0 f_a0 hw
theorem dX4_moveGate_0 : decode cX4_moveGate 0 = .ok (.aload_n 0, 1) := by decide +kernel
theorem dX4_moveGate_1 : decode cX4_moveGate 1 = .ok (.invokevirtual 181, 3) := by decide +kernel
theorem dX4_moveGate_4 : decode cX4_moveGate 4 = .ok (.istore_n 2, 1) := by decide +kernel
theorem dX4_moveGate_5 : decode cX4_moveGate 5 = .ok (.aload_n 0, 1) := by decide +kernel
theorem dX4_moveGate_6 : decode cX4_moveGate 6 = .ok (.invokevirtual 181, 3) := by decide +kernel
theorem dX4_moveGate_9 : decode cX4_moveGate 9 = .ok (.istore_n 3, 1) := by decide +kernel
theorem dX4_moveGate_10 : decode cX4_moveGate 10 = .ok (.iload_n 1, 1) := by decide +kernel
theorem dX4_moveGate_11 : decode cX4_moveGate 11 = .ok (.bipush 36, 2) := by decide +kernel
theorem dX4_moveGate_13 : decode cX4_moveGate 13 = .ok (.if_icmp .ne 7, 3) := by decide +kernel
theorem dX4_moveGate_16 : decode cX4_moveGate 16 = .ok (.iconst 1, 1) := by decide +kernel
theorem dX4_moveGate_17 : decode cX4_moveGate 17 = .ok (.goto 4, 3) := by decide +kernel
theorem dX4_moveGate_20 : decode cX4_moveGate 20 = .ok (.iconst 0, 1) := by decide +kernel
theorem dX4_moveGate_21 : decode cX4_moveGate 21 = .ok (.istore 4, 2) := by decide +kernel
theorem dX4_moveGate_23 : decode cX4_moveGate 23 = .ok (.iload 4, 2) := by decide +kernel
theorem dX4_moveGate_25 : decode cX4_moveGate 25 = .ok (.ifCond .eq 15, 3) := by decide +kernel
theorem dX4_moveGate_28 : decode cX4_moveGate 28 = .ok (.aload_n 0, 1) := by decide +kernel
theorem dX4_moveGate_29 : decode cX4_moveGate 29 = .ok (.getfield 34, 3) := by decide +kernel
theorem dX4_moveGate_32 : decode cX4_moveGate 32 = .ok (.iload_n 3, 1) := by decide +kernel
theorem dX4_moveGate_33 : decode cX4_moveGate 33 = .ok (.iload_n 2, 1) := by decide +kernel
theorem dX4_moveGate_34 : decode cX4_moveGate 34 = .ok (.invokevirtual 251, 3) := by decide +kernel
theorem dX4_moveGate_37 : decode cX4_moveGate 37 = .ok (.goto 12, 3) := by decide +kernel
theorem dX4_moveGate_40 : decode cX4_moveGate 40 = .ok (.aload_n 0, 1) := by decide +kernel
theorem dX4_moveGate_41 : decode cX4_moveGate 41 = .ok (.getfield 34, 3) := by decide +kernel
theorem dX4_moveGate_44 : decode cX4_moveGate 44 = .ok (.iload_n 3, 1) := by decide +kernel
theorem dX4_moveGate_45 : decode cX4_moveGate 45 = .ok (.iload_n 2, 1) := by decide +kernel
theorem dX4_moveGate_46 : decode cX4_moveGate 46 = .ok (.invokevirtual 254, 3) := by decide +kernel
theorem dX4_moveGate_49 : decode cX4_moveGate 49 = .ok (.istore 5, 2) := by decide +kernel
theorem dX4_moveGate_51 : decode cX4_moveGate 51 = .ok (.iload 5, 2) := by decide +kernel
theorem dX4_moveGate_53 : decode cX4_moveGate 53 = .ok (.ifCond .eq 10, 3) := by decide +kernel
theorem dX4_moveGate_56 : decode cX4_moveGate 56 = .ok (.aload_n 0, 1) := by decide +kernel
theorem dX4_moveGate_57 : decode cX4_moveGate 57 = .ok (.iload 5, 2) := by decide +kernel
theorem dX4_moveGate_59 : decode cX4_moveGate 59 = .ok (.invokevirtual 188, 3) := by decide +kernel
theorem dX4_moveGate_62 : decode cX4_moveGate 62 = .ok (.return_, 1) := by decide +kernel
theorem dX4_moveGate_63 : decode cX4_moveGate 63 = .ok (.aload_n 0, 1) := by decide +kernel
theorem dX4_moveGate_64 : decode cX4_moveGate 64 = .ok (.getfield 34, 3) := by decide +kernel
theorem dX4_moveGate_67 : decode cX4_moveGate 67 = .ok (.iload_n 3, 1) := by decide +kernel
theorem dX4_moveGate_68 : decode cX4_moveGate 68 = .ok (.iload_n 2, 1) := by decide +kernel
theorem dX4_moveGate_69 : decode cX4_moveGate 69 = .ok (.iload 4, 2) := by decide +kernel
theorem dX4_moveGate_71 : decode cX4_moveGate 71 = .ok (.ifCond .eq 7, 3) := by decide +kernel
theorem dX4_moveGate_74 : decode cX4_moveGate 74 = .ok (.iconst 1, 1) := by decide +kernel
theorem dX4_moveGate_75 : decode cX4_moveGate 75 = .ok (.goto 4, 3) := by decide +kernel
theorem dX4_moveGate_78 : decode cX4_moveGate 78 = .ok (.iconst 0, 1) := by decide +kernel
theorem dX4_moveGate_79 : decode cX4_moveGate 79 = .ok (.invokevirtual 257, 3) := by decide +kernel
theorem dX4_moveGate_82 : decode cX4_moveGate 82 = .ok (.aload_n 0, 1) := by decide +kernel
theorem dX4_moveGate_83 : decode cX4_moveGate 83 = .ok (.getfield 38, 3) := by decide +kernel
theorem dX4_moveGate_86 : decode cX4_moveGate 86 = .ok (.iload 4, 2) := by decide +kernel
theorem dX4_moveGate_88 : decode cX4_moveGate 88 = .ok (.ifCond .eq 7, 3) := by decide +kernel
theorem dX4_moveGate_91 : decode cX4_moveGate 91 = .ok (.iconst 3, 1) := by decide +kernel
theorem dX4_moveGate_92 : decode cX4_moveGate 92 = .ok (.goto 4, 3) := by decide +kernel
theorem dX4_moveGate_95 : decode cX4_moveGate 95 = .ok (.iconst 4, 1) := by decide +kernel
theorem dX4_moveGate_96 : decode cX4_moveGate 96 = .ok (.iconst 2, 1) := by decide +kernel
theorem dX4_moveGate_97 : decode cX4_moveGate 97 = .ok (.iload_n 3, 1) := by decide +kernel
theorem dX4_moveGate_98 : decode cX4_moveGate 98 = .ok (.imul, 1) := by decide +kernel
theorem dX4_moveGate_99 : decode cX4_moveGate 99 = .ok (.iload_n 2, 1) := by decide +kernel
theorem dX4_moveGate_100 : decode cX4_moveGate 100 = .ok (.iadd, 1) := by decide +kernel
theorem dX4_moveGate_101 : decode cX4_moveGate 101 = .ok (.invokevirtual 169, 3) := by decide +kernel
theorem dX4_moveGate_104 : decode cX4_moveGate 104 = .ok (.return_, 1) := by decide +kernel
def wX4_moveGate_b96 (a0 : Nat) (x1 : Int32) (xn2 : Int32) (xn3 : Int32) (xt0 : Int32) (at1 : Nat)  (Sn : kp_S) (post : kp_S → Prop) : Prop :=
  wX7_write at1 xt0 ((2 * xn3) + xn2) Sn (fun T1001 =>
  post T1001)
def wX4_moveGate_b79 (a0 : Nat) (x1 : Int32) (xn2 : Int32) (xn3 : Int32) (xn4 : Int32) (xt0 : Int32) (xt1 : Int32) (xt2 : Int32) (at3 : Nat)  (Sn : kp_S) (post : kp_S → Prop) : Prop :=
  wX1_setGate at3 xt2 xt1 xt0 Sn (fun T2001 =>
  ∃ b2002 : Nat, kp_R T2001 801 a0 = some b2002 ∧
  ((xn4 = 0 →
  wX4_moveGate_b96 a0 x1 xn2 xn3 4 b2002  T2001 post) ∧ (¬ xn4 = 0 →
  wX4_moveGate_b96 a0 x1 xn2 xn3 3 b2002  T2001 post)))
def wX4_moveGate_b49 (a0 : Nat) (x1 : Int32) (xn2 : Int32) (xn3 : Int32) (xn4 : Int32) (xt0 : Int32)  (Sn : kp_S) (post : kp_S → Prop) : Prop :=
  ((xt0 = 0 →
  ∃ b3001 : Nat, kp_R Sn 800 a0 = some b3001 ∧
  ((xn4 = 0 →
  wX4_moveGate_b79 a0 x1 xn2 xn3 xn4 0 xn2 xn3 b3001  Sn post) ∧ (¬ xn4 = 0 →
  wX4_moveGate_b79 a0 x1 xn2 xn3 xn4 1 xn2 xn3 b3001  Sn post))) ∧ (¬ xt0 = 0 →
  wX4_trouble a0 xt0 Sn (fun T3003 =>
  post T3003)))
def wX4_moveGate_b21 (a0 : Nat) (x1 : Int32) (xn2 : Int32) (xn3 : Int32) (xt0 : Int32)  (Sn : kp_S) (post : kp_S → Prop) : Prop :=
  ((xt0 = 0 →
  ∃ b4001 : Nat, kp_R Sn 800 a0 = some b4001 ∧
  wX1_troubleToShut b4001 xn3 xn2 Sn (fun y4003 T4002 =>
  wX4_moveGate_b49 a0 x1 xn2 xn3 xt0 y4003  T4002 post)) ∧ (¬ xt0 = 0 →
  ∃ b4004 : Nat, kp_R Sn 800 a0 = some b4004 ∧
  wX1_troubleToOpen b4004 xn3 xn2 Sn (fun y4006 T4005 =>
  wX4_moveGate_b49 a0 x1 xn2 xn3 xt0 y4006  T4005 post)))
def wX4_moveGate (a0 : Nat) (x1 : Int32) (S : kp_S) (post : kp_S → Prop) : Prop :=
  wX4_pop a0 S (fun y2 T1 =>
  wX4_pop a0 T1 (fun y4 T3 =>
  ((¬ x1 = 36 →
  wX4_moveGate_b21 a0 x1 y2 y4 0  T3 post) ∧ (x1 = 36 →
  wX4_moveGate_b21 a0 x1 y2 y4 1  T3 post))))
set_option maxHeartbeats 4000000 in
set_option maxRecDepth 100000 in
theorem c_X4_moveGate (l : Launch) (D : va_G) (cy : Nat → ClassId) (ad : (Nat → Nat) × (Nat → Nat)) (S : kp_S) (a0 : Nat) (x1 : Int32) (post : kp_S → Prop) (hS : kp_ok S) (f_a0 : kp_is S a0 4) (hw : wX4_moveGate a0 x1 S post) : kp_M l yX4_moveGate cX4_moveGate 6 none { frames := 3, cells := 0, slots := 0, locals := 67 } D cy ad S [.ref a0, .int x1] 0 0 (fun A => kp_Qv D cy A S post) := by
  refine kp_start (own := RX4) (by decide) rfl (Nat.le_of_ble_eq_true rfl) hS ?_
  intro p e s m below meth c A ls X hr hlocks hname h hl
  have hle : kp_le S S := kp_le.rf
  have hl : lv_has ls 6 [(0, .ref a0), (1, .int x1)] := hl
  have j96 : ∀ (xn2 : Int32) (xn3 : Int32) (xt0 : Int32) (at1 : Nat) (Sn : kp_S) (H : Heap) (locs : List Loc) (ls : Array Slot), lv_has ls 6 [(2, .int xn2), (3, .int xn3)] → kp_H D cy A Sn s.heap H locs → kp_le S Sn → kp_is Sn at1 7 → kp_is Sn a0 4 → wX4_moveGate_b96 a0 x1 xn2 xn3 xt0 at1  Sn post → W p l e { frames := 3, cells := 0, slots := 0, locals := 67 } s m ([.ref a0, .int x1] : List Value).toArray below meth c H locs 0 0 (MQ below (kp_Qv D cy A S post) ([.ref a0, .int x1] : List Value).toArray s 0 0 A) (F0 m 96 ls [.int xt0, .ref at1]) := by
    intro xn2 xn3 xt0 at1 Sn H locs ls hl h hle f_at1 f_a0 hw
    unfold wX4_moveGate_b96 at hw
    refine lv_iconst (v := 2) X.1 X.2.1 dX4_moveGate_96 (by decide) ?_
    refine lv_iload_n X.1 X.2.1 dX4_moveGate_97 rfl (lv_at hl 1 rfl) ?_
    refine lv_imul X.1 X.2.1 dX4_moveGate_98 ?_
    refine lv_iload_n X.1 X.2.1 dX4_moveGate_99 rfl (lv_at hl 0 rfl) ?_
    refine lv_iadd X.1 X.2.1 dX4_moveGate_100 ?_
    refine kp_callv X h (kp_runV (rm := { frames := 0, cells := 0, slots := 0, locals := 0 }) (mc := 0) (ms := 0) (rest := []) (Qc := fun A => kp_Qv D cy A Sn _) X h (c_X7_write l D cy ad Sn at1 xt0 ((2 * xn3) + xn2) _ h.2.2.2 f_at1 hw) f_at1 cv_4_169 ⟨by decide, by decide, rfl, rfl, by decide, by decide⟩ rfl hl.1 rfl (Nat.le_of_ble_eq_true rfl) dX4_moveGate_101) (fun T1001 hw l_T1001 H locs h => ?_)
    have f_at1 := l_T1001.is f_at1
    have f_a0 := l_T1001.is f_a0
    have hle := hle.tr l_T1001
    exact kp_retv X hr hlocks h hle hw dX4_moveGate_104
  have j79 : ∀ (xn2 : Int32) (xn3 : Int32) (xn4 : Int32) (xt0 : Int32) (xt1 : Int32) (xt2 : Int32) (at3 : Nat) (Sn : kp_S) (H : Heap) (locs : List Loc) (ls : Array Slot), lv_has ls 6 [(0, .ref a0), (2, .int xn2), (3, .int xn3), (4, .int xn4)] → kp_H D cy A Sn s.heap H locs → kp_le S Sn → kp_is Sn a0 4 → kp_is Sn at3 1 → wX4_moveGate_b79 a0 x1 xn2 xn3 xn4 xt0 xt1 xt2 at3  Sn post → W p l e { frames := 3, cells := 0, slots := 0, locals := 67 } s m ([.ref a0, .int x1] : List Value).toArray below meth c H locs 0 0 (MQ below (kp_Qv D cy A S post) ([.ref a0, .int x1] : List Value).toArray s 0 0 A) (F0 m 79 ls [.int xt0, .int xt1, .int xt2, .ref at3]) := by
    intro xn2 xn3 xn4 xt0 xt1 xt2 at3 Sn H locs ls hl h hle f_a0 f_at3 hw
    unfold wX4_moveGate_b79 at hw
    refine kp_callv X h (kp_runV (rm := { frames := 1, cells := 0, slots := 0, locals := 21 }) (mc := 0) (ms := 0) (rest := []) (Qc := fun A => kp_Qv D cy A Sn _) X h (c_X1_setGate l D cy ad Sn at3 xt2 xt1 xt0 _ h.2.2.2 f_at3 hw) f_at3 cv_4_257 ⟨by decide, by decide, rfl, rfl, by decide, by decide⟩ rfl hl.1 rfl (Nat.le_of_ble_eq_true rfl) dX4_moveGate_79) (fun T2001 hw l_T2001 H locs h => ?_)
    have f_a0 := l_T2001.is f_a0
    have f_at3 := l_T2001.is f_at3
    have hle := hle.tr l_T2001
    refine lv_aload_n X.1 X.2.1 dX4_moveGate_82 rfl (lv_at hl 0 rfl) ?_
    obtain ⟨b2002, e_b2002, hw⟩ := hw
    have f_b2002 := h.2.2.2.rf (c := 4) (k := 1) f_a0 (by decide) (by decide) e_b2002 (t := 7) rfl
    refine kp_get X h f_a0 ff_4_38.l (v := .ref b2002) (congrArg va_rf e_b2002) dX4_moveGate_83 ?_
    refine lv_iload X.1 X.2.1 dX4_moveGate_86 (lv_at hl 3 rfl) ?_
    refine lv_if_eq (tgt := 95) X.1 X.2.1 dX4_moveGate_88 (by decide) (fun c2003 => ?_) (fun c2003 => ?_)
    · have hw := hw.1 c2003
      refine lv_iconst (v := 4) X.1 X.2.1 dX4_moveGate_95 (by decide) ?_
      exact j96 xn2 xn3 4 b2002 T2001 H locs ls (lv_sub hl [1, 2] rfl) h hle f_b2002 f_a0 hw
    · have hw := hw.2 c2003
      refine lv_iconst (v := 3) X.1 X.2.1 dX4_moveGate_91 (by decide) ?_
      refine lv_goto (tgt := 96) X.1 X.2.1 dX4_moveGate_92 (by decide) ?_
      exact j96 xn2 xn3 3 b2002 T2001 H locs ls (lv_sub hl [1, 2] rfl) h hle f_b2002 f_a0 hw
  have j49 : ∀ (xn2 : Int32) (xn3 : Int32) (xn4 : Int32) (xt0 : Int32) (Sn : kp_S) (H : Heap) (locs : List Loc) (ls : Array Slot), lv_has ls 6 [(0, .ref a0), (2, .int xn2), (3, .int xn3), (4, .int xn4)] → kp_H D cy A Sn s.heap H locs → kp_le S Sn → kp_is Sn a0 4 → wX4_moveGate_b49 a0 x1 xn2 xn3 xn4 xt0  Sn post → W p l e { frames := 3, cells := 0, slots := 0, locals := 67 } s m ([.ref a0, .int x1] : List Value).toArray below meth c H locs 0 0 (MQ below (kp_Qv D cy A S post) ([.ref a0, .int x1] : List Value).toArray s 0 0 A) (F0 m 49 ls [.int xt0]) := by
    intro xn2 xn3 xn4 xt0 Sn H locs ls hl h hle f_a0 hw
    unfold wX4_moveGate_b49 at hw
    refine lv_istore (lv' := [(5, .int xt0), (0, .ref a0), (2, .int xn2), (3, .int xn3), (4, .int xn4)]) X.1 X.2.1 dX4_moveGate_49 hl (by decide) rfl (fun ls hl => ?_)
    refine lv_iload X.1 X.2.1 dX4_moveGate_51 (lv_at hl 0 rfl) ?_
    refine lv_if_eq (tgt := 63) X.1 X.2.1 dX4_moveGate_53 (by decide) (fun c3004 => ?_) (fun c3004 => ?_)
    · have hw := hw.1 c3004
      refine lv_aload_n X.1 X.2.1 dX4_moveGate_63 rfl (lv_at hl 1 rfl) ?_
      obtain ⟨b3001, e_b3001, hw⟩ := hw
      have f_b3001 := h.2.2.2.rf (c := 4) (k := 0) f_a0 (by decide) (by decide) e_b3001 (t := 1) rfl
      refine kp_get X h f_a0 ff_4_34.l (v := .ref b3001) (congrArg va_rf e_b3001) dX4_moveGate_64 ?_
      refine lv_iload_n X.1 X.2.1 dX4_moveGate_67 rfl (lv_at hl 3 rfl) ?_
      refine lv_iload_n X.1 X.2.1 dX4_moveGate_68 rfl (lv_at hl 2 rfl) ?_
      refine lv_iload X.1 X.2.1 dX4_moveGate_69 (lv_at hl 4 rfl) ?_
      refine lv_if_eq (tgt := 78) X.1 X.2.1 dX4_moveGate_71 (by decide) (fun c3002 => ?_) (fun c3002 => ?_)
      · have hw := hw.1 c3002
        refine lv_iconst (v := 0) X.1 X.2.1 dX4_moveGate_78 (by decide) ?_
        exact j79 xn2 xn3 xn4 0 xn2 xn3 b3001 Sn H locs ls (lv_sub hl [1, 2, 3, 4] rfl) h hle f_a0 f_b3001 hw
      · have hw := hw.2 c3002
        refine lv_iconst (v := 1) X.1 X.2.1 dX4_moveGate_74 (by decide) ?_
        refine lv_goto (tgt := 79) X.1 X.2.1 dX4_moveGate_75 (by decide) ?_
        exact j79 xn2 xn3 xn4 1 xn2 xn3 b3001 Sn H locs ls (lv_sub hl [1, 2, 3, 4] rfl) h hle f_a0 f_b3001 hw
    · have hw := hw.2 c3004
      refine lv_aload_n X.1 X.2.1 dX4_moveGate_56 rfl (lv_at hl 1 rfl) ?_
      refine lv_iload X.1 X.2.1 dX4_moveGate_57 (lv_at hl 0 rfl) ?_
      refine kp_callv X h (kp_runV (rm := { frames := 1, cells := 0, slots := 0, locals := 23 }) (mc := 0) (ms := 0) (rest := []) (Qc := fun A => kp_Qv D cy A Sn _) X h (c_X4_trouble l D cy ad Sn a0 xt0 _ h.2.2.2 f_a0 hw) f_a0 cv_4_188 ⟨by decide, by decide, rfl, rfl, by decide, by decide⟩ rfl hl.1 rfl (Nat.le_of_ble_eq_true rfl) dX4_moveGate_59) (fun T3003 hw l_T3003 H locs h => ?_)
      have f_a0 := l_T3003.is f_a0
      have hle := hle.tr l_T3003
      exact kp_retv X hr hlocks h hle hw dX4_moveGate_62
  have j21 : ∀ (xn2 : Int32) (xn3 : Int32) (xt0 : Int32) (Sn : kp_S) (H : Heap) (locs : List Loc) (ls : Array Slot), lv_has ls 6 [(0, .ref a0), (2, .int xn2), (3, .int xn3)] → kp_H D cy A Sn s.heap H locs → kp_le S Sn → kp_is Sn a0 4 → wX4_moveGate_b21 a0 x1 xn2 xn3 xt0  Sn post → W p l e { frames := 3, cells := 0, slots := 0, locals := 67 } s m ([.ref a0, .int x1] : List Value).toArray below meth c H locs 0 0 (MQ below (kp_Qv D cy A S post) ([.ref a0, .int x1] : List Value).toArray s 0 0 A) (F0 m 21 ls [.int xt0]) := by
    intro xn2 xn3 xt0 Sn H locs ls hl h hle f_a0 hw
    unfold wX4_moveGate_b21 at hw
    refine lv_istore (lv' := [(4, .int xt0), (0, .ref a0), (2, .int xn2), (3, .int xn3)]) X.1 X.2.1 dX4_moveGate_21 hl (by decide) rfl (fun ls hl => ?_)
    refine lv_iload X.1 X.2.1 dX4_moveGate_23 (lv_at hl 0 rfl) ?_
    refine lv_if_eq (tgt := 40) X.1 X.2.1 dX4_moveGate_25 (by decide) (fun c4007 => ?_) (fun c4007 => ?_)
    · have hw := hw.1 c4007
      refine lv_aload_n X.1 X.2.1 dX4_moveGate_40 rfl (lv_at hl 1 rfl) ?_
      obtain ⟨b4001, e_b4001, hw⟩ := hw
      have f_b4001 := h.2.2.2.rf (c := 4) (k := 0) f_a0 (by decide) (by decide) e_b4001 (t := 1) rfl
      refine kp_get X h f_a0 ff_4_34.l (v := .ref b4001) (congrArg va_rf e_b4001) dX4_moveGate_41 ?_
      refine lv_iload_n X.1 X.2.1 dX4_moveGate_44 rfl (lv_at hl 3 rfl) ?_
      refine lv_iload_n X.1 X.2.1 dX4_moveGate_45 rfl (lv_at hl 2 rfl) ?_
      refine kp_calli X h (kp_runV (rm := { frames := 1, cells := 0, slots := 0, locals := 21 }) (mc := 0) (ms := 0) (rest := []) (Qc := fun A => kp_Qi D cy A Sn _) X h (c_X1_troubleToShut l D cy ad Sn b4001 xn3 xn2 _ h.2.2.2 f_b4001 hw) f_b4001 cv_4_254 ⟨by decide, by decide, rfl, rfl, by decide, by decide⟩ rfl hl.1 rfl (Nat.le_of_ble_eq_true rfl) dX4_moveGate_46) (fun y4003 T4002 hw l_T4002 H locs h => ?_)
      have f_a0 := l_T4002.is f_a0
      have f_b4001 := l_T4002.is f_b4001
      have hle := hle.tr l_T4002
      exact j49 xn2 xn3 xt0 y4003 T4002 H locs ls (lv_sub hl [1, 2, 3, 0] rfl) h hle f_a0 hw
    · have hw := hw.2 c4007
      refine lv_aload_n X.1 X.2.1 dX4_moveGate_28 rfl (lv_at hl 1 rfl) ?_
      obtain ⟨b4004, e_b4004, hw⟩ := hw
      have f_b4004 := h.2.2.2.rf (c := 4) (k := 0) f_a0 (by decide) (by decide) e_b4004 (t := 1) rfl
      refine kp_get X h f_a0 ff_4_34.l (v := .ref b4004) (congrArg va_rf e_b4004) dX4_moveGate_29 ?_
      refine lv_iload_n X.1 X.2.1 dX4_moveGate_32 rfl (lv_at hl 3 rfl) ?_
      refine lv_iload_n X.1 X.2.1 dX4_moveGate_33 rfl (lv_at hl 2 rfl) ?_
      refine kp_calli X h (kp_runV (rm := { frames := 2, cells := 0, slots := 0, locals := 43 }) (mc := 0) (ms := 0) (rest := []) (Qc := fun A => kp_Qi D cy A Sn _) X h (c_X1_troubleToOpen l D cy ad Sn b4004 xn3 xn2 _ h.2.2.2 f_b4004 hw) f_b4004 cv_4_251 ⟨by decide, by decide, rfl, rfl, by decide, by decide⟩ rfl hl.1 rfl (Nat.le_of_ble_eq_true rfl) dX4_moveGate_34) (fun y4006 T4005 hw l_T4005 H locs h => ?_)
      have f_a0 := l_T4005.is f_a0
      have f_b4004 := l_T4005.is f_b4004
      have hle := hle.tr l_T4005
      refine lv_goto (tgt := 49) X.1 X.2.1 dX4_moveGate_37 (by decide) ?_
      exact j49 xn2 xn3 xt0 y4006 T4005 H locs ls (lv_sub hl [1, 2, 3, 0] rfl) h hle f_a0 hw
  unfold wX4_moveGate at hw
  have h : kp_H D cy A S s.heap s.heap [] := h
  revert h
  intro h
  refine lv_aload_n X.1 X.2.1 dX4_moveGate_0 rfl (lv_at hl 0 rfl) ?_
  refine kp_calli X h (kp_runV (rm := { frames := 0, cells := 0, slots := 0, locals := 0 }) (mc := 0) (ms := 0) (rest := []) (Qc := fun A => kp_Qi D cy A S _) X h (c_X4_pop l D cy ad S a0 _ h.2.2.2 f_a0 hw) f_a0 cv_4_181 ⟨by decide, by decide, rfl, rfl, by decide, by decide⟩ rfl hl.1 rfl (Nat.le_of_ble_eq_true rfl) dX4_moveGate_1) (fun y2 T1 hw l_T1 H locs h => ?_)
  have f_a0 := l_T1.is f_a0
  have hle := hle.tr l_T1
  refine lv_istore_n (lv' := [(2, .int y2), (0, .ref a0), (1, .int x1)]) X.1 X.2.1 dX4_moveGate_4 rfl hl (by decide) rfl (fun ls hl => ?_)
  refine lv_aload_n X.1 X.2.1 dX4_moveGate_5 rfl (lv_at hl 1 rfl) ?_
  refine kp_calli X h (kp_runV (rm := { frames := 0, cells := 0, slots := 0, locals := 0 }) (mc := 0) (ms := 0) (rest := []) (Qc := fun A => kp_Qi D cy A T1 _) X h (c_X4_pop l D cy ad T1 a0 _ h.2.2.2 f_a0 hw) f_a0 cv_4_181 ⟨by decide, by decide, rfl, rfl, by decide, by decide⟩ rfl hl.1 rfl (Nat.le_of_ble_eq_true rfl) dX4_moveGate_6) (fun y4 T3 hw l_T3 H locs h => ?_)
  have f_a0 := l_T3.is f_a0
  have hle := hle.tr l_T3
  refine lv_istore_n (lv' := [(3, .int y4), (2, .int y2), (0, .ref a0), (1, .int x1)]) X.1 X.2.1 dX4_moveGate_9 rfl hl (by decide) rfl (fun ls hl => ?_)
  refine lv_iload_n X.1 X.2.1 dX4_moveGate_10 rfl (lv_at hl 3 rfl) ?_
  refine lv_bipush (v := 36) X.1 X.2.1 dX4_moveGate_11 (by decide) ?_
  refine lv_icmp_ne (tgt := 20) X.1 X.2.1 dX4_moveGate_13 (by decide) (fun c5 => ?_) (fun c5 => ?_)
  · have hw := hw.1 c5
    refine lv_iconst (v := 0) X.1 X.2.1 dX4_moveGate_20 (by decide) ?_
    exact j21 y2 y4 0 T3 _ _ ls (lv_sub hl [2, 1, 0] rfl) h hle f_a0 hw
  · have hw := hw.2 c5
    refine lv_iconst (v := 1) X.1 X.2.1 dX4_moveGate_16 (by decide) ?_
    refine lv_goto (tgt := 21) X.1 X.2.1 dX4_moveGate_17 (by decide) ?_
    exact j21 y2 y4 1 T3 _ _ ls (lv_sub hl [2, 1, 0] rfl) h hle f_a0 hw
theorem dX4_sluice_0 : decode cX4_sluice 0 = .ok (.aload_n 0, 1) := by decide +kernel
theorem dX4_sluice_1 : decode cX4_sluice 1 = .ok (.invokevirtual 181, 3) := by decide +kernel
theorem dX4_sluice_4 : decode cX4_sluice 4 = .ok (.istore_n 1, 1) := by decide +kernel
theorem dX4_sluice_5 : decode cX4_sluice 5 = .ok (.aload_n 0, 1) := by decide +kernel
theorem dX4_sluice_6 : decode cX4_sluice 6 = .ok (.invokevirtual 181, 3) := by decide +kernel
theorem dX4_sluice_9 : decode cX4_sluice 9 = .ok (.istore_n 2, 1) := by decide +kernel
theorem dX4_sluice_10 : decode cX4_sluice 10 = .ok (.aload_n 0, 1) := by decide +kernel
theorem dX4_sluice_11 : decode cX4_sluice 11 = .ok (.invokevirtual 181, 3) := by decide +kernel
theorem dX4_sluice_14 : decode cX4_sluice 14 = .ok (.istore_n 3, 1) := by decide +kernel
theorem dX4_sluice_15 : decode cX4_sluice 15 = .ok (.aload_n 0, 1) := by decide +kernel
theorem dX4_sluice_16 : decode cX4_sluice 16 = .ok (.getfield 34, 3) := by decide +kernel
theorem dX4_sluice_19 : decode cX4_sluice 19 = .ok (.iload_n 3, 1) := by decide +kernel
theorem dX4_sluice_20 : decode cX4_sluice 20 = .ok (.iload_n 2, 1) := by decide +kernel
theorem dX4_sluice_21 : decode cX4_sluice 21 = .ok (.iload_n 1, 1) := by decide +kernel
theorem dX4_sluice_22 : decode cX4_sluice 22 = .ok (.invokevirtual 260, 3) := by decide +kernel
theorem dX4_sluice_25 : decode cX4_sluice 25 = .ok (.istore 4, 2) := by decide +kernel
theorem dX4_sluice_27 : decode cX4_sluice 27 = .ok (.iload 4, 2) := by decide +kernel
theorem dX4_sluice_29 : decode cX4_sluice 29 = .ok (.ifCond .eq 10, 3) := by decide +kernel
theorem dX4_sluice_32 : decode cX4_sluice 32 = .ok (.aload_n 0, 1) := by decide +kernel
theorem dX4_sluice_33 : decode cX4_sluice 33 = .ok (.iload 4, 2) := by decide +kernel
theorem dX4_sluice_35 : decode cX4_sluice 35 = .ok (.invokevirtual 188, 3) := by decide +kernel
theorem dX4_sluice_38 : decode cX4_sluice 38 = .ok (.return_, 1) := by decide +kernel
theorem dX4_sluice_39 : decode cX4_sluice 39 = .ok (.aload_n 0, 1) := by decide +kernel
theorem dX4_sluice_40 : decode cX4_sluice 40 = .ok (.getfield 34, 3) := by decide +kernel
theorem dX4_sluice_43 : decode cX4_sluice 43 = .ok (.iload_n 3, 1) := by decide +kernel
theorem dX4_sluice_44 : decode cX4_sluice 44 = .ok (.iload_n 2, 1) := by decide +kernel
theorem dX4_sluice_45 : decode cX4_sluice 45 = .ok (.invokevirtual 264, 3) := by decide +kernel
theorem dX4_sluice_48 : decode cX4_sluice 48 = .ok (.ifCond .le 7, 3) := by decide +kernel
theorem dX4_sluice_51 : decode cX4_sluice 51 = .ok (.iconst 1, 1) := by decide +kernel
theorem dX4_sluice_52 : decode cX4_sluice 52 = .ok (.goto 4, 3) := by decide +kernel
theorem dX4_sluice_55 : decode cX4_sluice 55 = .ok (.iconst 0, 1) := by decide +kernel
theorem dX4_sluice_56 : decode cX4_sluice 56 = .ok (.istore 5, 2) := by decide +kernel
theorem dX4_sluice_58 : decode cX4_sluice 58 = .ok (.iconst 0, 1) := by decide +kernel
theorem dX4_sluice_59 : decode cX4_sluice 59 = .ok (.istore 6, 2) := by decide +kernel
theorem dX4_sluice_61 : decode cX4_sluice 61 = .ok (.iload 6, 2) := by decide +kernel
theorem dX4_sluice_63 : decode cX4_sluice 63 = .ok (.iload_n 1, 1) := by decide +kernel
theorem dX4_sluice_64 : decode cX4_sluice 64 = .ok (.if_icmp .ge 76, 3) := by decide +kernel
theorem dX4_sluice_67 : decode cX4_sluice 67 = .ok (.aload_n 0, 1) := by decide +kernel
theorem dX4_sluice_68 : decode cX4_sluice 68 = .ok (.getfield 34, 3) := by decide +kernel
theorem dX4_sluice_71 : decode cX4_sluice 71 = .ok (.iload_n 3, 1) := by decide +kernel
theorem dX4_sluice_72 : decode cX4_sluice 72 = .ok (.iload_n 2, 1) := by decide +kernel
theorem dX4_sluice_73 : decode cX4_sluice 73 = .ok (.invokevirtual 264, 3) := by decide +kernel
theorem dX4_sluice_76 : decode cX4_sluice 76 = .ok (.istore 7, 2) := by decide +kernel
theorem dX4_sluice_78 : decode cX4_sluice 78 = .ok (.iload 5, 2) := by decide +kernel
theorem dX4_sluice_80 : decode cX4_sluice 80 = .ok (.ifCond .eq 16, 3) := by decide +kernel
theorem dX4_sluice_83 : decode cX4_sluice 83 = .ok (.iload 7, 2) := by decide +kernel
theorem dX4_sluice_85 : decode cX4_sluice 85 = .ok (.ifCond .le 7, 3) := by decide +kernel
theorem dX4_sluice_88 : decode cX4_sluice 88 = .ok (.iconst 1, 1) := by decide +kernel
theorem dX4_sluice_89 : decode cX4_sluice 89 = .ok (.goto 17, 3) := by decide +kernel
theorem dX4_sluice_92 : decode cX4_sluice 92 = .ok (.iconst 0, 1) := by decide +kernel
theorem dX4_sluice_93 : decode cX4_sluice 93 = .ok (.goto 13, 3) := by decide +kernel
theorem dX4_sluice_96 : decode cX4_sluice 96 = .ok (.iload 7, 2) := by decide +kernel
theorem dX4_sluice_98 : decode cX4_sluice 98 = .ok (.ifCond .ge 7, 3) := by decide +kernel
theorem dX4_sluice_101 : decode cX4_sluice 101 = .ok (.iconst 1, 1) := by decide +kernel
theorem dX4_sluice_102 : decode cX4_sluice 102 = .ok (.goto 4, 3) := by decide +kernel
theorem dX4_sluice_105 : decode cX4_sluice 105 = .ok (.iconst 0, 1) := by decide +kernel
theorem dX4_sluice_106 : decode cX4_sluice 106 = .ok (.istore 8, 2) := by decide +kernel
theorem dX4_sluice_108 : decode cX4_sluice 108 = .ok (.iload 8, 2) := by decide +kernel
theorem dX4_sluice_110 : decode cX4_sluice 110 = .ok (.ifCond .eq 30, 3) := by decide +kernel
theorem dX4_sluice_113 : decode cX4_sluice 113 = .ok (.aload_n 0, 1) := by decide +kernel
theorem dX4_sluice_114 : decode cX4_sluice 114 = .ok (.invokevirtual 229, 3) := by decide +kernel
theorem dX4_sluice_117 : decode cX4_sluice 117 = .ok (.ifCond .ne 6, 3) := by decide +kernel
theorem dX4_sluice_120 : decode cX4_sluice 120 = .ok (.goto 20, 3) := by decide +kernel
theorem dX4_sluice_123 : decode cX4_sluice 123 = .ok (.aload_n 0, 1) := by decide +kernel
theorem dX4_sluice_124 : decode cX4_sluice 124 = .ok (.getfield 34, 3) := by decide +kernel
theorem dX4_sluice_127 : decode cX4_sluice 127 = .ok (.iload_n 3, 1) := by decide +kernel
theorem dX4_sluice_128 : decode cX4_sluice 128 = .ok (.iload_n 2, 1) := by decide +kernel
theorem dX4_sluice_129 : decode cX4_sluice 129 = .ok (.iload 7, 2) := by decide +kernel
theorem dX4_sluice_131 : decode cX4_sluice 131 = .ok (.invokevirtual 267, 3) := by decide +kernel
theorem dX4_sluice_134 : decode cX4_sluice 134 = .ok (.iinc 6 1, 3) := by decide +kernel
theorem dX4_sluice_137 : decode cX4_sluice 137 = .ok (.goto (-76), 3) := by decide +kernel
theorem dX4_sluice_140 : decode cX4_sluice 140 = .ok (.aload_n 0, 1) := by decide +kernel
theorem dX4_sluice_141 : decode cX4_sluice 141 = .ok (.getfield 38, 3) := by decide +kernel
theorem dX4_sluice_144 : decode cX4_sluice 144 = .ok (.iconst 5, 1) := by decide +kernel
theorem dX4_sluice_145 : decode cX4_sluice 145 = .ok (.sipush 10000, 3) := by decide +kernel
theorem dX4_sluice_148 : decode cX4_sluice 148 = .ok (.iconst 2, 1) := by decide +kernel
theorem dX4_sluice_149 : decode cX4_sluice 149 = .ok (.iload_n 3, 1) := by decide +kernel
theorem dX4_sluice_150 : decode cX4_sluice 150 = .ok (.imul, 1) := by decide +kernel
theorem dX4_sluice_151 : decode cX4_sluice 151 = .ok (.iload_n 2, 1) := by decide +kernel
theorem dX4_sluice_152 : decode cX4_sluice 152 = .ok (.iadd, 1) := by decide +kernel
theorem dX4_sluice_153 : decode cX4_sluice 153 = .ok (.imul, 1) := by decide +kernel
theorem dX4_sluice_154 : decode cX4_sluice 154 = .ok (.iload 6, 2) := by decide +kernel
theorem dX4_sluice_156 : decode cX4_sluice 156 = .ok (.iadd, 1) := by decide +kernel
theorem dX4_sluice_157 : decode cX4_sluice 157 = .ok (.invokevirtual 169, 3) := by decide +kernel
theorem dX4_sluice_160 : decode cX4_sluice 160 = .ok (.return_, 1) := by decide +kernel
def wX4_sluice_b140 (a0 : Nat) (xn2 : Int32) (xn3 : Int32) (xn6 : Int32)  (Sn : kp_S) (post : kp_S → Prop) : Prop :=
  ∃ b1001 : Nat, kp_R Sn 801 a0 = some b1001 ∧
  wX7_write b1001 5 ((10000 * ((2 * xn3) + xn2)) + xn6) Sn (fun T1002 =>
  post T1002)
def wX4_sluice_b106 (a0 : Nat) (xn1 : Int32) (xn2 : Int32) (xn3 : Int32) (xn5 : Int32) (xn6 : Int32) (xn7 : Int32) (xt0 : Int32) (K61 : Int32 → Int32 → Int32 → Int32 → Int32 → kp_S → Prop) (Sn : kp_S) (post : kp_S → Prop) : Prop :=
  ((xt0 = 0 →
  wX4_sluice_b140 a0 xn2 xn3 xn6  Sn post) ∧ (¬ xt0 = 0 →
  wX4_spend a0 Sn (fun y2002 T2001 =>
  ((¬ y2002 = 0 →
  ∃ b2003 : Nat, kp_R T2001 800 a0 = some b2003 ∧
  wX1_moveUnit b2003 xn3 xn2 xn7 T2001 (fun T2004 =>
  ∀ y2005 : Int32, y2005 = xn6 + 1 →
  K61 xn1 xn2 xn3 xn5 y2005 T2004)) ∧ (y2002 = 0 →
  wX4_sluice_b140 a0 xn2 xn3 xn6  T2001 post)))))
def wX4_sluice_L61 (a0 : Nat)  (post : kp_S → Prop) : Nat → Int32 → Int32 → Int32 → Int32 → Int32 → kp_S → Prop
  | 0, _, _, _, _, _, _ => False
  | n + 1, xn1, xn2, xn3, xn5, xn6, Sn =>
  ((xn1 ≤ xn6 →
  wX4_sluice_b140 a0 xn2 xn3 xn6  Sn post) ∧ (¬ xn1 ≤ xn6 →
  ∃ b3001 : Nat, kp_R Sn 800 a0 = some b3001 ∧
  wX1_headOf b3001 xn3 xn2 Sn (fun y3003 T3002 =>
  ((xn5 = 0 →
  ((0 ≤ y3003 →
  wX4_sluice_b106 a0 xn1 xn2 xn3 xn5 xn6 y3003 0 (fun xn1_ xn2_ xn3_ xn5_ xn6_ S_ => wX4_sluice_L61 a0  post n xn1_ xn2_ xn3_ xn5_ xn6_ S_) T3002 post) ∧ (¬ 0 ≤ y3003 →
  wX4_sluice_b106 a0 xn1 xn2 xn3 xn5 xn6 y3003 1 (fun xn1_ xn2_ xn3_ xn5_ xn6_ S_ => wX4_sluice_L61 a0  post n xn1_ xn2_ xn3_ xn5_ xn6_ S_) T3002 post))) ∧ (¬ xn5 = 0 →
  ((y3003 ≤ 0 →
  wX4_sluice_b106 a0 xn1 xn2 xn3 xn5 xn6 y3003 0 (fun xn1_ xn2_ xn3_ xn5_ xn6_ S_ => wX4_sluice_L61 a0  post n xn1_ xn2_ xn3_ xn5_ xn6_ S_) T3002 post) ∧ (¬ y3003 ≤ 0 →
  wX4_sluice_b106 a0 xn1 xn2 xn3 xn5 xn6 y3003 1 (fun xn1_ xn2_ xn3_ xn5_ xn6_ S_ => wX4_sluice_L61 a0  post n xn1_ xn2_ xn3_ xn5_ xn6_ S_) T3002 post)))))))
def wX4_sluice_b56 (a0 : Nat) (xn1 : Int32) (xn2 : Int32) (xn3 : Int32) (xt0 : Int32)  (Sn : kp_S) (post : kp_S → Prop) : Prop :=
  ∃ n0 : Nat, wX4_sluice_L61 a0  post n0 xn1 xn2 xn3 xt0 0 Sn
def wX4_sluice (a0 : Nat) (S : kp_S) (post : kp_S → Prop) : Prop :=
  wX4_pop a0 S (fun y2 T1 =>
  wX4_pop a0 T1 (fun y4 T3 =>
  wX4_pop a0 T3 (fun y6 T5 =>
  ∃ b7 : Nat, kp_R T5 800 a0 = some b7 ∧
  wX1_troubleToSluice b7 y6 y4 y2 T5 (fun y9 T8 =>
  ((y9 = 0 →
  ∃ b10 : Nat, kp_R T8 800 a0 = some b10 ∧
  wX1_headOf b10 y6 y4 T8 (fun y12 T11 =>
  ((y12 ≤ 0 →
  wX4_sluice_b56 a0 y2 y4 y6 0  T11 post) ∧ (¬ y12 ≤ 0 →
  wX4_sluice_b56 a0 y2 y4 y6 1  T11 post)))) ∧ (¬ y9 = 0 →
  wX4_trouble a0 y9 T8 (fun T14 =>
  post T14)))))))
set_option maxHeartbeats 4000000 in
set_option maxRecDepth 100000 in
theorem c_X4_sluice (l : Launch) (D : va_G) (cy : Nat → ClassId) (ad : (Nat → Nat) × (Nat → Nat)) (S : kp_S) (a0 : Nat) (post : kp_S → Prop) (hS : kp_ok S) (f_a0 : kp_is S a0 4) (hw : wX4_sluice a0 S post) : kp_M l yX4_sluice cX4_sluice 9 none { frames := 3, cells := 0, slots := 0, locals := 67 } D cy ad S [.ref a0] 0 0 (fun A => kp_Qv D cy A S post) := by
  refine kp_start (own := RX4) (by decide) rfl (Nat.le_of_ble_eq_true rfl) hS ?_
  intro p e s m below meth c A ls X hr hlocks hname h hl
  have hle : kp_le S S := kp_le.rf
  have hl : lv_has ls 9 [(0, .ref a0)] := hl
  have j140 : ∀ (xn2 : Int32) (xn3 : Int32) (xn6 : Int32) (Sn : kp_S) (H : Heap) (locs : List Loc) (ls : Array Slot), lv_has ls 9 [(0, .ref a0), (2, .int xn2), (3, .int xn3), (6, .int xn6)] → kp_H D cy A Sn s.heap H locs → kp_le S Sn → kp_is Sn a0 4 → wX4_sluice_b140 a0 xn2 xn3 xn6  Sn post → W p l e { frames := 3, cells := 0, slots := 0, locals := 67 } s m ([.ref a0] : List Value).toArray below meth c H locs 0 0 (MQ below (kp_Qv D cy A S post) ([.ref a0] : List Value).toArray s 0 0 A) (F0 m 140 ls []) := by
    intro xn2 xn3 xn6 Sn H locs ls hl h hle f_a0 hw
    unfold wX4_sluice_b140 at hw
    refine lv_aload_n X.1 X.2.1 dX4_sluice_140 rfl (lv_at hl 0 rfl) ?_
    obtain ⟨b1001, e_b1001, hw⟩ := hw
    have f_b1001 := h.2.2.2.rf (c := 4) (k := 1) f_a0 (by decide) (by decide) e_b1001 (t := 7) rfl
    refine kp_get X h f_a0 ff_4_38.l (v := .ref b1001) (congrArg va_rf e_b1001) dX4_sluice_141 ?_
    refine lv_iconst (v := 5) X.1 X.2.1 dX4_sluice_144 (by decide) ?_
    refine lv_sipush (v := 10000) X.1 X.2.1 dX4_sluice_145 (by decide) ?_
    refine lv_iconst (v := 2) X.1 X.2.1 dX4_sluice_148 (by decide) ?_
    refine lv_iload_n X.1 X.2.1 dX4_sluice_149 rfl (lv_at hl 2 rfl) ?_
    refine lv_imul X.1 X.2.1 dX4_sluice_150 ?_
    refine lv_iload_n X.1 X.2.1 dX4_sluice_151 rfl (lv_at hl 1 rfl) ?_
    refine lv_iadd X.1 X.2.1 dX4_sluice_152 ?_
    refine lv_imul X.1 X.2.1 dX4_sluice_153 ?_
    refine lv_iload X.1 X.2.1 dX4_sluice_154 (lv_at hl 3 rfl) ?_
    refine lv_iadd X.1 X.2.1 dX4_sluice_156 ?_
    refine kp_callv X h (kp_runV (rm := { frames := 0, cells := 0, slots := 0, locals := 0 }) (mc := 0) (ms := 0) (rest := []) (Qc := fun A => kp_Qv D cy A Sn _) X h (c_X7_write l D cy ad Sn b1001 5 ((10000 * ((2 * xn3) + xn2)) + xn6) _ h.2.2.2 f_b1001 hw) f_b1001 cv_4_169 ⟨by decide, by decide, rfl, rfl, by decide, by decide⟩ rfl hl.1 rfl (Nat.le_of_ble_eq_true rfl) dX4_sluice_157) (fun T1002 hw l_T1002 H locs h => ?_)
    have f_a0 := l_T1002.is f_a0
    have f_b1001 := l_T1002.is f_b1001
    have hle := hle.tr l_T1002
    exact kp_retv X hr hlocks h hle hw dX4_sluice_160
  have L61 : ∀ n61 : Nat, ∀ (xn1 : Int32) (xn2 : Int32) (xn3 : Int32) (xn5 : Int32) (xn6 : Int32) (Sn : kp_S) (H : Heap) (locs : List Loc) (ls : Array Slot), lv_has ls 9 [(0, .ref a0), (1, .int xn1), (2, .int xn2), (3, .int xn3), (5, .int xn5), (6, .int xn6)] → kp_H D cy A Sn s.heap H locs → kp_le S Sn → kp_is Sn a0 4 → wX4_sluice_L61 a0  post n61 xn1 xn2 xn3 xn5 xn6 Sn → W p l e { frames := 3, cells := 0, slots := 0, locals := 67 } s m ([.ref a0] : List Value).toArray below meth c H locs 0 0 (MQ below (kp_Qv D cy A S post) ([.ref a0] : List Value).toArray s 0 0 A) (F0 m 61 ls []) := by
    intro n61
    induction n61 with
    | zero => intro xn1 xn2 xn3 xn5 xn6 Sn H locs ls hl h hle f_a0 hw; exact hw.elim
    | succ n61 ih61 =>
      have j106 : ∀ (xn1 : Int32) (xn2 : Int32) (xn3 : Int32) (xn5 : Int32) (xn6 : Int32) (xn7 : Int32) (xt0 : Int32) (Sn : kp_S) (H : Heap) (locs : List Loc) (ls : Array Slot), lv_has ls 9 [(0, .ref a0), (1, .int xn1), (2, .int xn2), (3, .int xn3), (5, .int xn5), (6, .int xn6), (7, .int xn7)] → kp_H D cy A Sn s.heap H locs → kp_le S Sn → kp_is Sn a0 4 → wX4_sluice_b106 a0 xn1 xn2 xn3 xn5 xn6 xn7 xt0 (fun xn1_ xn2_ xn3_ xn5_ xn6_ S_ => wX4_sluice_L61 a0  post n61 xn1_ xn2_ xn3_ xn5_ xn6_ S_) Sn post → W p l e { frames := 3, cells := 0, slots := 0, locals := 67 } s m ([.ref a0] : List Value).toArray below meth c H locs 0 0 (MQ below (kp_Qv D cy A S post) ([.ref a0] : List Value).toArray s 0 0 A) (F0 m 106 ls [.int xt0]) := by
        intro xn1 xn2 xn3 xn5 xn6 xn7 xt0 Sn H locs ls hl h hle f_a0 hw
        unfold wX4_sluice_b106 at hw
        refine lv_istore (lv' := [(8, .int xt0), (0, .ref a0), (1, .int xn1), (2, .int xn2), (3, .int xn3), (5, .int xn5), (6, .int xn6), (7, .int xn7)]) X.1 X.2.1 dX4_sluice_106 hl (by decide) rfl (fun ls hl => ?_)
        refine lv_iload X.1 X.2.1 dX4_sluice_108 (lv_at hl 0 rfl) ?_
        refine lv_if_eq (tgt := 140) X.1 X.2.1 dX4_sluice_110 (by decide) (fun c2007 => ?_) (fun c2007 => ?_)
        · have hw := hw.1 c2007
          exact j140 xn2 xn3 xn6 Sn H locs ls (lv_sub hl [1, 3, 4, 6] rfl) h hle f_a0 hw
        · have hw := hw.2 c2007
          refine lv_aload_n X.1 X.2.1 dX4_sluice_113 rfl (lv_at hl 1 rfl) ?_
          refine kp_calli X h (kp_runV (rm := { frames := 0, cells := 0, slots := 0, locals := 0 }) (mc := 0) (ms := 0) (rest := []) (Qc := fun A => kp_Qi D cy A Sn _) X h (c_X4_spend l D cy ad Sn a0 _ h.2.2.2 f_a0 hw) f_a0 cv_4_229 ⟨by decide, by decide, rfl, rfl, by decide, by decide⟩ rfl hl.1 rfl (Nat.le_of_ble_eq_true rfl) dX4_sluice_114) (fun y2002 T2001 hw l_T2001 H locs h => ?_)
          have f_a0 := l_T2001.is f_a0
          have hle := hle.tr l_T2001
          refine lv_if_ne (tgt := 123) X.1 X.2.1 dX4_sluice_117 (by decide) (fun c2006 => ?_) (fun c2006 => ?_)
          · have hw := hw.1 c2006
            refine lv_aload_n X.1 X.2.1 dX4_sluice_123 rfl (lv_at hl 1 rfl) ?_
            obtain ⟨b2003, e_b2003, hw⟩ := hw
            have f_b2003 := h.2.2.2.rf (c := 4) (k := 0) f_a0 (by decide) (by decide) e_b2003 (t := 1) rfl
            refine kp_get X h f_a0 ff_4_34.l (v := .ref b2003) (congrArg va_rf e_b2003) dX4_sluice_124 ?_
            refine lv_iload_n X.1 X.2.1 dX4_sluice_127 rfl (lv_at hl 4 rfl) ?_
            refine lv_iload_n X.1 X.2.1 dX4_sluice_128 rfl (lv_at hl 3 rfl) ?_
            refine lv_iload X.1 X.2.1 dX4_sluice_129 (lv_at hl 7 rfl) ?_
            refine kp_callv X h (kp_runV (rm := { frames := 1, cells := 0, slots := 0, locals := 20 }) (mc := 0) (ms := 0) (rest := []) (Qc := fun A => kp_Qv D cy A T2001 _) X h (c_X1_moveUnit l D cy ad T2001 b2003 xn3 xn2 xn7 _ h.2.2.2 f_b2003 hw) f_b2003 cv_4_267 ⟨by decide, by decide, rfl, rfl, by decide, by decide⟩ rfl hl.1 rfl (Nat.le_of_ble_eq_true rfl) dX4_sluice_131) (fun T2004 hw l_T2004 H locs h => ?_)
            have f_a0 := l_T2004.is f_a0
            have f_b2003 := l_T2004.is f_b2003
            have hle := hle.tr l_T2004
            obtain ⟨y2005, e_y2005⟩ : ∃ y : Int32, y = xn6 + 1 := ⟨_, rfl⟩
            have hw := hw y2005 e_y2005
            refine lv_iinc (v := y2005) (lv' := [(6, .int y2005), (8, .int xt0), (0, .ref a0), (1, .int xn1), (2, .int xn2), (3, .int xn3), (5, .int xn5), (7, .int xn7)]) X.1 X.2.1 dX4_sluice_134 hl (k := 6) rfl (by rw [e_y2005]; rfl) (by decide) rfl (fun ls hl => ?_)
            refine lv_goto (tgt := 61) X.1 X.2.1 dX4_sluice_137 (by decide) ?_
            exact ih61 xn1 xn2 xn3 xn5 y2005 T2004 H locs ls (lv_sub hl [2, 3, 4, 5, 6, 0] rfl) h hle f_a0 hw
          · have hw := hw.2 c2006
            refine lv_goto (tgt := 140) X.1 X.2.1 dX4_sluice_120 (by decide) ?_
            exact j140 xn2 xn3 xn6 T2001 H locs ls (lv_sub hl [1, 3, 4, 6] rfl) h hle f_a0 hw
      intro xn1 xn2 xn3 xn5 xn6 Sn H locs ls hl h hle f_a0 hw
      unfold wX4_sluice_L61 at hw
      refine lv_iload X.1 X.2.1 dX4_sluice_61 (lv_at hl 5 rfl) ?_
      refine lv_iload_n X.1 X.2.1 dX4_sluice_63 rfl (lv_at hl 1 rfl) ?_
      refine lv_icmp_ge (tgt := 140) X.1 X.2.1 dX4_sluice_64 (by decide) (fun c3007 => ?_) (fun c3007 => ?_)
      · have hw := hw.1 c3007
        exact j140 xn2 xn3 xn6 Sn H locs ls (lv_sub hl [0, 2, 3, 5] rfl) h hle f_a0 hw
      · have hw := hw.2 c3007
        refine lv_aload_n X.1 X.2.1 dX4_sluice_67 rfl (lv_at hl 0 rfl) ?_
        obtain ⟨b3001, e_b3001, hw⟩ := hw
        have f_b3001 := h.2.2.2.rf (c := 4) (k := 0) f_a0 (by decide) (by decide) e_b3001 (t := 1) rfl
        refine kp_get X h f_a0 ff_4_34.l (v := .ref b3001) (congrArg va_rf e_b3001) dX4_sluice_68 ?_
        refine lv_iload_n X.1 X.2.1 dX4_sluice_71 rfl (lv_at hl 3 rfl) ?_
        refine lv_iload_n X.1 X.2.1 dX4_sluice_72 rfl (lv_at hl 2 rfl) ?_
        refine kp_calli X h (kp_runV (rm := { frames := 1, cells := 0, slots := 0, locals := 20 }) (mc := 0) (ms := 0) (rest := []) (Qc := fun A => kp_Qi D cy A Sn _) X h (c_X1_headOf l D cy ad Sn b3001 xn3 xn2 _ h.2.2.2 f_b3001 hw) f_b3001 cv_4_264 ⟨by decide, by decide, rfl, rfl, by decide, by decide⟩ rfl hl.1 rfl (Nat.le_of_ble_eq_true rfl) dX4_sluice_73) (fun y3003 T3002 hw l_T3002 H locs h => ?_)
        have f_a0 := l_T3002.is f_a0
        have f_b3001 := l_T3002.is f_b3001
        have hle := hle.tr l_T3002
        refine lv_istore (lv' := [(7, .int y3003), (0, .ref a0), (1, .int xn1), (2, .int xn2), (3, .int xn3), (5, .int xn5), (6, .int xn6)]) X.1 X.2.1 dX4_sluice_76 hl (by decide) rfl (fun ls hl => ?_)
        refine lv_iload X.1 X.2.1 dX4_sluice_78 (lv_at hl 5 rfl) ?_
        refine lv_if_eq (tgt := 96) X.1 X.2.1 dX4_sluice_80 (by decide) (fun c3006 => ?_) (fun c3006 => ?_)
        · have hw := hw.1 c3006
          refine lv_iload X.1 X.2.1 dX4_sluice_96 (lv_at hl 0 rfl) ?_
          refine lv_if_ge (tgt := 105) X.1 X.2.1 dX4_sluice_98 (by decide) (fun c3004 => ?_) (fun c3004 => ?_)
          · have hw := hw.1 c3004
            refine lv_iconst (v := 0) X.1 X.2.1 dX4_sluice_105 (by decide) ?_
            exact j106 xn1 xn2 xn3 xn5 xn6 y3003 0 T3002 H locs ls (lv_sub hl [1, 2, 3, 4, 5, 6, 0] rfl) h hle f_a0 hw
          · have hw := hw.2 c3004
            refine lv_iconst (v := 1) X.1 X.2.1 dX4_sluice_101 (by decide) ?_
            refine lv_goto (tgt := 106) X.1 X.2.1 dX4_sluice_102 (by decide) ?_
            exact j106 xn1 xn2 xn3 xn5 xn6 y3003 1 T3002 H locs ls (lv_sub hl [1, 2, 3, 4, 5, 6, 0] rfl) h hle f_a0 hw
        · have hw := hw.2 c3006
          refine lv_iload X.1 X.2.1 dX4_sluice_83 (lv_at hl 0 rfl) ?_
          refine lv_if_le (tgt := 92) X.1 X.2.1 dX4_sluice_85 (by decide) (fun c3005 => ?_) (fun c3005 => ?_)
          · have hw := hw.1 c3005
            refine lv_iconst (v := 0) X.1 X.2.1 dX4_sluice_92 (by decide) ?_
            refine lv_goto (tgt := 106) X.1 X.2.1 dX4_sluice_93 (by decide) ?_
            exact j106 xn1 xn2 xn3 xn5 xn6 y3003 0 T3002 H locs ls (lv_sub hl [1, 2, 3, 4, 5, 6, 0] rfl) h hle f_a0 hw
          · have hw := hw.2 c3005
            refine lv_iconst (v := 1) X.1 X.2.1 dX4_sluice_88 (by decide) ?_
            refine lv_goto (tgt := 106) X.1 X.2.1 dX4_sluice_89 (by decide) ?_
            exact j106 xn1 xn2 xn3 xn5 xn6 y3003 1 T3002 H locs ls (lv_sub hl [1, 2, 3, 4, 5, 6, 0] rfl) h hle f_a0 hw
  have j56 : ∀ (xn1 : Int32) (xn2 : Int32) (xn3 : Int32) (xt0 : Int32) (Sn : kp_S) (H : Heap) (locs : List Loc) (ls : Array Slot), lv_has ls 9 [(0, .ref a0), (1, .int xn1), (2, .int xn2), (3, .int xn3)] → kp_H D cy A Sn s.heap H locs → kp_le S Sn → kp_is Sn a0 4 → wX4_sluice_b56 a0 xn1 xn2 xn3 xt0  Sn post → W p l e { frames := 3, cells := 0, slots := 0, locals := 67 } s m ([.ref a0] : List Value).toArray below meth c H locs 0 0 (MQ below (kp_Qv D cy A S post) ([.ref a0] : List Value).toArray s 0 0 A) (F0 m 56 ls [.int xt0]) := by
    intro xn1 xn2 xn3 xt0 Sn H locs ls hl h hle f_a0 hw
    unfold wX4_sluice_b56 at hw
    refine lv_istore (lv' := [(5, .int xt0), (0, .ref a0), (1, .int xn1), (2, .int xn2), (3, .int xn3)]) X.1 X.2.1 dX4_sluice_56 hl (by decide) rfl (fun ls hl => ?_)
    refine lv_iconst (v := 0) X.1 X.2.1 dX4_sluice_58 (by decide) ?_
    refine lv_istore (lv' := [(6, .int 0), (5, .int xt0), (0, .ref a0), (1, .int xn1), (2, .int xn2), (3, .int xn3)]) X.1 X.2.1 dX4_sluice_59 hl (by decide) rfl (fun ls hl => ?_)
    obtain ⟨n0, hw⟩ := hw
    exact L61 n0 xn1 xn2 xn3 xt0 0 Sn H locs ls (lv_sub hl [2, 3, 4, 5, 1, 0] rfl) h hle f_a0 hw
  unfold wX4_sluice at hw
  have h : kp_H D cy A S s.heap s.heap [] := h
  revert h
  intro h
  refine lv_aload_n X.1 X.2.1 dX4_sluice_0 rfl (lv_at hl 0 rfl) ?_
  refine kp_calli X h (kp_runV (rm := { frames := 0, cells := 0, slots := 0, locals := 0 }) (mc := 0) (ms := 0) (rest := []) (Qc := fun A => kp_Qi D cy A S _) X h (c_X4_pop l D cy ad S a0 _ h.2.2.2 f_a0 hw) f_a0 cv_4_181 ⟨by decide, by decide, rfl, rfl, by decide, by decide⟩ rfl hl.1 rfl (Nat.le_of_ble_eq_true rfl) dX4_sluice_1) (fun y2 T1 hw l_T1 H locs h => ?_)
  have f_a0 := l_T1.is f_a0
  have hle := hle.tr l_T1
  refine lv_istore_n (lv' := [(1, .int y2), (0, .ref a0)]) X.1 X.2.1 dX4_sluice_4 rfl hl (by decide) rfl (fun ls hl => ?_)
  refine lv_aload_n X.1 X.2.1 dX4_sluice_5 rfl (lv_at hl 1 rfl) ?_
  refine kp_calli X h (kp_runV (rm := { frames := 0, cells := 0, slots := 0, locals := 0 }) (mc := 0) (ms := 0) (rest := []) (Qc := fun A => kp_Qi D cy A T1 _) X h (c_X4_pop l D cy ad T1 a0 _ h.2.2.2 f_a0 hw) f_a0 cv_4_181 ⟨by decide, by decide, rfl, rfl, by decide, by decide⟩ rfl hl.1 rfl (Nat.le_of_ble_eq_true rfl) dX4_sluice_6) (fun y4 T3 hw l_T3 H locs h => ?_)
  have f_a0 := l_T3.is f_a0
  have hle := hle.tr l_T3
  refine lv_istore_n (lv' := [(2, .int y4), (1, .int y2), (0, .ref a0)]) X.1 X.2.1 dX4_sluice_9 rfl hl (by decide) rfl (fun ls hl => ?_)
  refine lv_aload_n X.1 X.2.1 dX4_sluice_10 rfl (lv_at hl 2 rfl) ?_
  refine kp_calli X h (kp_runV (rm := { frames := 0, cells := 0, slots := 0, locals := 0 }) (mc := 0) (ms := 0) (rest := []) (Qc := fun A => kp_Qi D cy A T3 _) X h (c_X4_pop l D cy ad T3 a0 _ h.2.2.2 f_a0 hw) f_a0 cv_4_181 ⟨by decide, by decide, rfl, rfl, by decide, by decide⟩ rfl hl.1 rfl (Nat.le_of_ble_eq_true rfl) dX4_sluice_11) (fun y6 T5 hw l_T5 H locs h => ?_)
  have f_a0 := l_T5.is f_a0
  have hle := hle.tr l_T5
  refine lv_istore_n (lv' := [(3, .int y6), (2, .int y4), (1, .int y2), (0, .ref a0)]) X.1 X.2.1 dX4_sluice_14 rfl hl (by decide) rfl (fun ls hl => ?_)
  refine lv_aload_n X.1 X.2.1 dX4_sluice_15 rfl (lv_at hl 3 rfl) ?_
  obtain ⟨b7, e_b7, hw⟩ := hw
  have f_b7 := h.2.2.2.rf (c := 4) (k := 0) f_a0 (by decide) (by decide) e_b7 (t := 1) rfl
  refine kp_get X h f_a0 ff_4_34.l (v := .ref b7) (congrArg va_rf e_b7) dX4_sluice_16 ?_
  refine lv_iload_n X.1 X.2.1 dX4_sluice_19 rfl (lv_at hl 0 rfl) ?_
  refine lv_iload_n X.1 X.2.1 dX4_sluice_20 rfl (lv_at hl 1 rfl) ?_
  refine lv_iload_n X.1 X.2.1 dX4_sluice_21 rfl (lv_at hl 2 rfl) ?_
  refine kp_calli X h (kp_runV (rm := { frames := 2, cells := 0, slots := 0, locals := 43 }) (mc := 0) (ms := 0) (rest := []) (Qc := fun A => kp_Qi D cy A T5 _) X h (c_X1_troubleToSluice l D cy ad T5 b7 y6 y4 y2 _ h.2.2.2 f_b7 hw) f_b7 cv_4_260 ⟨by decide, by decide, rfl, rfl, by decide, by decide⟩ rfl hl.1 rfl (Nat.le_of_ble_eq_true rfl) dX4_sluice_22) (fun y9 T8 hw l_T8 H locs h => ?_)
  have f_a0 := l_T8.is f_a0
  have f_b7 := l_T8.is f_b7
  have hle := hle.tr l_T8
  refine lv_istore (lv' := [(4, .int y9), (3, .int y6), (2, .int y4), (1, .int y2), (0, .ref a0)]) X.1 X.2.1 dX4_sluice_25 hl (by decide) rfl (fun ls hl => ?_)
  refine lv_iload X.1 X.2.1 dX4_sluice_27 (lv_at hl 0 rfl) ?_
  refine lv_if_eq (tgt := 39) X.1 X.2.1 dX4_sluice_29 (by decide) (fun c15 => ?_) (fun c15 => ?_)
  · have hw := hw.1 c15
    refine lv_aload_n X.1 X.2.1 dX4_sluice_39 rfl (lv_at hl 4 rfl) ?_
    obtain ⟨b10, e_b10, hw⟩ := hw
    have f_b10 := h.2.2.2.rf (c := 4) (k := 0) f_a0 (by decide) (by decide) e_b10 (t := 1) rfl
    refine kp_get X h f_a0 ff_4_34.l (v := .ref b10) (congrArg va_rf e_b10) dX4_sluice_40 ?_
    refine lv_iload_n X.1 X.2.1 dX4_sluice_43 rfl (lv_at hl 1 rfl) ?_
    refine lv_iload_n X.1 X.2.1 dX4_sluice_44 rfl (lv_at hl 2 rfl) ?_
    refine kp_calli X h (kp_runV (rm := { frames := 1, cells := 0, slots := 0, locals := 20 }) (mc := 0) (ms := 0) (rest := []) (Qc := fun A => kp_Qi D cy A T8 _) X h (c_X1_headOf l D cy ad T8 b10 y6 y4 _ h.2.2.2 f_b10 hw) f_b10 cv_4_264 ⟨by decide, by decide, rfl, rfl, by decide, by decide⟩ rfl hl.1 rfl (Nat.le_of_ble_eq_true rfl) dX4_sluice_45) (fun y12 T11 hw l_T11 H locs h => ?_)
    have f_a0 := l_T11.is f_a0
    have f_b7 := l_T11.is f_b7
    have f_b10 := l_T11.is f_b10
    have hle := hle.tr l_T11
    refine lv_if_le (tgt := 55) X.1 X.2.1 dX4_sluice_48 (by decide) (fun c13 => ?_) (fun c13 => ?_)
    · have hw := hw.1 c13
      refine lv_iconst (v := 0) X.1 X.2.1 dX4_sluice_55 (by decide) ?_
      exact j56 y2 y4 y6 0 T11 _ _ ls (lv_sub hl [4, 3, 2, 1] rfl) h hle f_a0 hw
    · have hw := hw.2 c13
      refine lv_iconst (v := 1) X.1 X.2.1 dX4_sluice_51 (by decide) ?_
      refine lv_goto (tgt := 56) X.1 X.2.1 dX4_sluice_52 (by decide) ?_
      exact j56 y2 y4 y6 1 T11 _ _ ls (lv_sub hl [4, 3, 2, 1] rfl) h hle f_a0 hw
  · have hw := hw.2 c15
    refine lv_aload_n X.1 X.2.1 dX4_sluice_32 rfl (lv_at hl 4 rfl) ?_
    refine lv_iload X.1 X.2.1 dX4_sluice_33 (lv_at hl 0 rfl) ?_
    refine kp_callv X h (kp_runV (rm := { frames := 1, cells := 0, slots := 0, locals := 23 }) (mc := 0) (ms := 0) (rest := []) (Qc := fun A => kp_Qv D cy A T8 _) X h (c_X4_trouble l D cy ad T8 a0 y9 _ h.2.2.2 f_a0 hw) f_a0 cv_4_188 ⟨by decide, by decide, rfl, rfl, by decide, by decide⟩ rfl hl.1 rfl (Nat.le_of_ble_eq_true rfl) dX4_sluice_35) (fun T14 hw l_T14 H locs h => ?_)
    have f_a0 := l_T14.is f_a0
    have f_b7 := l_T14.is f_b7
    have hle := hle.tr l_T14
    exact kp_retv X hr hlocks h hle hw dX4_sluice_38
theorem dX4_sail_0 : decode cX4_sail 0 = .ok (.aload_n 0, 1) := by decide +kernel
theorem dX4_sail_1 : decode cX4_sail 1 = .ok (.invokevirtual 181, 3) := by decide +kernel
theorem dX4_sail_4 : decode cX4_sail 4 = .ok (.istore_n 1, 1) := by decide +kernel
theorem dX4_sail_5 : decode cX4_sail 5 = .ok (.aload_n 0, 1) := by decide +kernel
theorem dX4_sail_6 : decode cX4_sail 6 = .ok (.invokevirtual 181, 3) := by decide +kernel
theorem dX4_sail_9 : decode cX4_sail 9 = .ok (.istore_n 2, 1) := by decide +kernel
theorem dX4_sail_10 : decode cX4_sail 10 = .ok (.aload_n 0, 1) := by decide +kernel
theorem dX4_sail_11 : decode cX4_sail 11 = .ok (.getfield 34, 3) := by decide +kernel
theorem dX4_sail_14 : decode cX4_sail 14 = .ok (.iload_n 2, 1) := by decide +kernel
theorem dX4_sail_15 : decode cX4_sail 15 = .ok (.iload_n 1, 1) := by decide +kernel
theorem dX4_sail_16 : decode cX4_sail 16 = .ok (.invokevirtual 270, 3) := by decide +kernel
theorem dX4_sail_19 : decode cX4_sail 19 = .ok (.istore_n 3, 1) := by decide +kernel
theorem dX4_sail_20 : decode cX4_sail 20 = .ok (.iload_n 3, 1) := by decide +kernel
theorem dX4_sail_21 : decode cX4_sail 21 = .ok (.ifCond .eq 9, 3) := by decide +kernel
theorem dX4_sail_24 : decode cX4_sail 24 = .ok (.aload_n 0, 1) := by decide +kernel
theorem dX4_sail_25 : decode cX4_sail 25 = .ok (.iload_n 3, 1) := by decide +kernel
theorem dX4_sail_26 : decode cX4_sail 26 = .ok (.invokevirtual 188, 3) := by decide +kernel
theorem dX4_sail_29 : decode cX4_sail 29 = .ok (.return_, 1) := by decide +kernel
theorem dX4_sail_30 : decode cX4_sail 30 = .ok (.aload_n 0, 1) := by decide +kernel
theorem dX4_sail_31 : decode cX4_sail 31 = .ok (.getfield 38, 3) := by decide +kernel
theorem dX4_sail_34 : decode cX4_sail 34 = .ok (.bipush 6, 2) := by decide +kernel
theorem dX4_sail_36 : decode cX4_sail 36 = .ok (.bipush 16, 2) := by decide +kernel
theorem dX4_sail_38 : decode cX4_sail 38 = .ok (.iload_n 2, 1) := by decide +kernel
theorem dX4_sail_39 : decode cX4_sail 39 = .ok (.imul, 1) := by decide +kernel
theorem dX4_sail_40 : decode cX4_sail 40 = .ok (.aload_n 0, 1) := by decide +kernel
theorem dX4_sail_41 : decode cX4_sail 41 = .ok (.getfield 34, 3) := by decide +kernel
theorem dX4_sail_44 : decode cX4_sail 44 = .ok (.iload_n 2, 1) := by decide +kernel
theorem dX4_sail_45 : decode cX4_sail 45 = .ok (.iload_n 1, 1) := by decide +kernel
theorem dX4_sail_46 : decode cX4_sail 46 = .ok (.invokevirtual 273, 3) := by decide +kernel
theorem dX4_sail_49 : decode cX4_sail 49 = .ok (.iadd, 1) := by decide +kernel
theorem dX4_sail_50 : decode cX4_sail 50 = .ok (.invokevirtual 169, 3) := by decide +kernel
theorem dX4_sail_53 : decode cX4_sail 53 = .ok (.return_, 1) := by decide +kernel
def wX4_sail (a0 : Nat) (S : kp_S) (post : kp_S → Prop) : Prop :=
  wX4_pop a0 S (fun y2 T1 =>
  wX4_pop a0 T1 (fun y4 T3 =>
  ∃ b5 : Nat, kp_R T3 800 a0 = some b5 ∧
  wX1_troubleToSail b5 y4 y2 T3 (fun y7 T6 =>
  ((y7 = 0 →
  ∃ b8 : Nat, kp_R T6 801 a0 = some b8 ∧
  ∃ b9 : Nat, kp_R T6 800 a0 = some b9 ∧
  wX1_moveShip b9 y4 y2 T6 (fun y11 T10 =>
  wX7_write b8 6 ((16 * y4) + y11) T10 (fun T12 =>
  post T12))) ∧ (¬ y7 = 0 →
  wX4_trouble a0 y7 T6 (fun T13 =>
  post T13))))))
set_option maxHeartbeats 4000000 in
set_option maxRecDepth 100000 in
theorem c_X4_sail (l : Launch) (D : va_G) (cy : Nat → ClassId) (ad : (Nat → Nat) × (Nat → Nat)) (S : kp_S) (a0 : Nat) (post : kp_S → Prop) (hS : kp_ok S) (f_a0 : kp_is S a0 4) (hw : wX4_sail a0 S post) : kp_M l yX4_sail cX4_sail 4 none { frames := 3, cells := 0, slots := 0, locals := 65 } D cy ad S [.ref a0] 0 0 (fun A => kp_Qv D cy A S post) := by
  refine kp_start (own := RX4) (by decide) rfl (Nat.le_of_ble_eq_true rfl) hS ?_
  intro p e s m below meth c A ls X hr hlocks hname h hl
  have hle : kp_le S S := kp_le.rf
  have hl : lv_has ls 4 [(0, .ref a0)] := hl
  unfold wX4_sail at hw
  have h : kp_H D cy A S s.heap s.heap [] := h
  revert h
  intro h
  refine lv_aload_n X.1 X.2.1 dX4_sail_0 rfl (lv_at hl 0 rfl) ?_
  refine kp_calli X h (kp_runV (rm := { frames := 0, cells := 0, slots := 0, locals := 0 }) (mc := 0) (ms := 0) (rest := []) (Qc := fun A => kp_Qi D cy A S _) X h (c_X4_pop l D cy ad S a0 _ h.2.2.2 f_a0 hw) f_a0 cv_4_181 ⟨by decide, by decide, rfl, rfl, by decide, by decide⟩ rfl hl.1 rfl (Nat.le_of_ble_eq_true rfl) dX4_sail_1) (fun y2 T1 hw l_T1 H locs h => ?_)
  have f_a0 := l_T1.is f_a0
  have hle := hle.tr l_T1
  refine lv_istore_n (lv' := [(1, .int y2), (0, .ref a0)]) X.1 X.2.1 dX4_sail_4 rfl hl (by decide) rfl (fun ls hl => ?_)
  refine lv_aload_n X.1 X.2.1 dX4_sail_5 rfl (lv_at hl 1 rfl) ?_
  refine kp_calli X h (kp_runV (rm := { frames := 0, cells := 0, slots := 0, locals := 0 }) (mc := 0) (ms := 0) (rest := []) (Qc := fun A => kp_Qi D cy A T1 _) X h (c_X4_pop l D cy ad T1 a0 _ h.2.2.2 f_a0 hw) f_a0 cv_4_181 ⟨by decide, by decide, rfl, rfl, by decide, by decide⟩ rfl hl.1 rfl (Nat.le_of_ble_eq_true rfl) dX4_sail_6) (fun y4 T3 hw l_T3 H locs h => ?_)
  have f_a0 := l_T3.is f_a0
  have hle := hle.tr l_T3
  refine lv_istore_n (lv' := [(2, .int y4), (1, .int y2), (0, .ref a0)]) X.1 X.2.1 dX4_sail_9 rfl hl (by decide) rfl (fun ls hl => ?_)
  refine lv_aload_n X.1 X.2.1 dX4_sail_10 rfl (lv_at hl 2 rfl) ?_
  obtain ⟨b5, e_b5, hw⟩ := hw
  have f_b5 := h.2.2.2.rf (c := 4) (k := 0) f_a0 (by decide) (by decide) e_b5 (t := 1) rfl
  refine kp_get X h f_a0 ff_4_34.l (v := .ref b5) (congrArg va_rf e_b5) dX4_sail_11 ?_
  refine lv_iload_n X.1 X.2.1 dX4_sail_14 rfl (lv_at hl 0 rfl) ?_
  refine lv_iload_n X.1 X.2.1 dX4_sail_15 rfl (lv_at hl 1 rfl) ?_
  refine kp_calli X h (kp_runV (rm := { frames := 2, cells := 0, slots := 0, locals := 41 }) (mc := 0) (ms := 0) (rest := []) (Qc := fun A => kp_Qi D cy A T3 _) X h (c_X1_troubleToSail l D cy ad T3 b5 y4 y2 _ h.2.2.2 f_b5 hw) f_b5 cv_4_270 ⟨by decide, by decide, rfl, rfl, by decide, by decide⟩ rfl hl.1 rfl (Nat.le_of_ble_eq_true rfl) dX4_sail_16) (fun y7 T6 hw l_T6 H locs h => ?_)
  have f_a0 := l_T6.is f_a0
  have f_b5 := l_T6.is f_b5
  have hle := hle.tr l_T6
  refine lv_istore_n (lv' := [(3, .int y7), (2, .int y4), (1, .int y2), (0, .ref a0)]) X.1 X.2.1 dX4_sail_19 rfl hl (by decide) rfl (fun ls hl => ?_)
  refine lv_iload_n X.1 X.2.1 dX4_sail_20 rfl (lv_at hl 0 rfl) ?_
  refine lv_if_eq (tgt := 30) X.1 X.2.1 dX4_sail_21 (by decide) (fun c14 => ?_) (fun c14 => ?_)
  · have hw := hw.1 c14
    refine lv_aload_n X.1 X.2.1 dX4_sail_30 rfl (lv_at hl 3 rfl) ?_
    obtain ⟨b8, e_b8, hw⟩ := hw
    have f_b8 := h.2.2.2.rf (c := 4) (k := 1) f_a0 (by decide) (by decide) e_b8 (t := 7) rfl
    refine kp_get X h f_a0 ff_4_38.l (v := .ref b8) (congrArg va_rf e_b8) dX4_sail_31 ?_
    refine lv_bipush (v := 6) X.1 X.2.1 dX4_sail_34 (by decide) ?_
    refine lv_bipush (v := 16) X.1 X.2.1 dX4_sail_36 (by decide) ?_
    refine lv_iload_n X.1 X.2.1 dX4_sail_38 rfl (lv_at hl 1 rfl) ?_
    refine lv_imul X.1 X.2.1 dX4_sail_39 ?_
    refine lv_aload_n X.1 X.2.1 dX4_sail_40 rfl (lv_at hl 3 rfl) ?_
    obtain ⟨b9, e_b9, hw⟩ := hw
    have f_b9 := h.2.2.2.rf (c := 4) (k := 0) f_a0 (by decide) (by decide) e_b9 (t := 1) rfl
    refine kp_get X h f_a0 ff_4_34.l (v := .ref b9) (congrArg va_rf e_b9) dX4_sail_41 ?_
    refine lv_iload_n X.1 X.2.1 dX4_sail_44 rfl (lv_at hl 1 rfl) ?_
    refine lv_iload_n X.1 X.2.1 dX4_sail_45 rfl (lv_at hl 2 rfl) ?_
    refine kp_calli X h (kp_runV (rm := { frames := 1, cells := 0, slots := 0, locals := 21 }) (mc := 0) (ms := 0) (rest := [.int (16 * y4), .int 6, .ref b8]) (Qc := fun A => kp_Qi D cy A T6 _) X h (c_X1_moveShip l D cy ad T6 b9 y4 y2 _ h.2.2.2 f_b9 hw) f_b9 cv_4_273 ⟨by decide, by decide, rfl, rfl, by decide, by decide⟩ rfl hl.1 rfl (Nat.le_of_ble_eq_true rfl) dX4_sail_46) (fun y11 T10 hw l_T10 H locs h => ?_)
    have f_a0 := l_T10.is f_a0
    have f_b5 := l_T10.is f_b5
    have f_b8 := l_T10.is f_b8
    have f_b9 := l_T10.is f_b9
    have hle := hle.tr l_T10
    refine lv_iadd X.1 X.2.1 dX4_sail_49 ?_
    refine kp_callv X h (kp_runV (rm := { frames := 0, cells := 0, slots := 0, locals := 0 }) (mc := 0) (ms := 0) (rest := []) (Qc := fun A => kp_Qv D cy A T10 _) X h (c_X7_write l D cy ad T10 b8 6 ((16 * y4) + y11) _ h.2.2.2 f_b8 hw) f_b8 cv_4_169 ⟨by decide, by decide, rfl, rfl, by decide, by decide⟩ rfl hl.1 rfl (Nat.le_of_ble_eq_true rfl) dX4_sail_50) (fun T12 hw l_T12 H locs h => ?_)
    have f_a0 := l_T12.is f_a0
    have f_b5 := l_T12.is f_b5
    have f_b8 := l_T12.is f_b8
    have f_b9 := l_T12.is f_b9
    have hle := hle.tr l_T12
    exact kp_retv X hr hlocks h hle hw dX4_sail_53
  · have hw := hw.2 c14
    refine lv_aload_n X.1 X.2.1 dX4_sail_24 rfl (lv_at hl 3 rfl) ?_
    refine lv_iload_n X.1 X.2.1 dX4_sail_25 rfl (lv_at hl 0 rfl) ?_
    refine kp_callv X h (kp_runV (rm := { frames := 1, cells := 0, slots := 0, locals := 23 }) (mc := 0) (ms := 0) (rest := []) (Qc := fun A => kp_Qv D cy A T6 _) X h (c_X4_trouble l D cy ad T6 a0 y7 _ h.2.2.2 f_a0 hw) f_a0 cv_4_188 ⟨by decide, by decide, rfl, rfl, by decide, by decide⟩ rfl hl.1 rfl (Nat.le_of_ble_eq_true rfl) dX4_sail_26) (fun T13 hw l_T13 H locs h => ?_)
    have f_a0 := l_T13.is f_a0
    have f_b5 := l_T13.is f_b5
    have hle := hle.tr l_T13
    exact kp_retv X hr hlocks h hle hw dX4_sail_29
theorem dX4_order_0 : decode cX4_order 0 = .ok (.iload_n 1, 1) := by decide +kernel
theorem dX4_order_1 : decode cX4_order 1 = .ok (.tableswitch 146 35 43 #[51, 66, 66, 74, 81, 88, 104, 120, 135], 51) := by decide +kernel
theorem dX4_order_52 : decode cX4_order 52 = .ok (.aload_n 0, 1) := by decide +kernel
theorem dX4_order_53 : decode cX4_order 53 = .ok (.getfield 38, 3) := by decide +kernel
theorem dX4_order_56 : decode cX4_order 56 = .ok (.iconst 0, 1) := by decide +kernel
theorem dX4_order_57 : decode cX4_order 57 = .ok (.aload_n 0, 1) := by decide +kernel
theorem dX4_order_58 : decode cX4_order 58 = .ok (.invokevirtual 181, 3) := by decide +kernel
theorem dX4_order_61 : decode cX4_order 61 = .ok (.invokevirtual 169, 3) := by decide +kernel
theorem dX4_order_64 : decode cX4_order 64 = .ok (.goto 88, 3) := by decide +kernel
theorem dX4_order_67 : decode cX4_order 67 = .ok (.aload_n 0, 1) := by decide +kernel
theorem dX4_order_68 : decode cX4_order 68 = .ok (.iload_n 1, 1) := by decide +kernel
theorem dX4_order_69 : decode cX4_order 69 = .ok (.invokevirtual 239, 3) := by decide +kernel
theorem dX4_order_72 : decode cX4_order 72 = .ok (.goto 80, 3) := by decide +kernel
theorem dX4_order_75 : decode cX4_order 75 = .ok (.aload_n 0, 1) := by decide +kernel
theorem dX4_order_76 : decode cX4_order 76 = .ok (.invokevirtual 242, 3) := by decide +kernel
theorem dX4_order_79 : decode cX4_order 79 = .ok (.goto 73, 3) := by decide +kernel
theorem dX4_order_82 : decode cX4_order 82 = .ok (.aload_n 0, 1) := by decide +kernel
theorem dX4_order_83 : decode cX4_order 83 = .ok (.invokevirtual 245, 3) := by decide +kernel
theorem dX4_order_86 : decode cX4_order 86 = .ok (.goto 66, 3) := by decide +kernel
theorem dX4_order_89 : decode cX4_order 89 = .ok (.aload_n 0, 1) := by decide +kernel
theorem dX4_order_90 : decode cX4_order 90 = .ok (.getfield 30, 3) := by decide +kernel
theorem dX4_order_93 : decode cX4_order 93 = .ok (.bipush 8, 2) := by decide +kernel
theorem dX4_order_95 : decode cX4_order 95 = .ok (.aload_n 0, 1) := by decide +kernel
theorem dX4_order_96 : decode cX4_order 96 = .ok (.invokevirtual 123, 3) := by decide +kernel
theorem dX4_order_99 : decode cX4_order 99 = .ok (.invokevirtual 75, 3) := by decide +kernel
theorem dX4_order_102 : decode cX4_order 102 = .ok (.goto 50, 3) := by decide +kernel
theorem dX4_order_105 : decode cX4_order 105 = .ok (.aload_n 0, 1) := by decide +kernel
theorem dX4_order_106 : decode cX4_order 106 = .ok (.getfield 30, 3) := by decide +kernel
theorem dX4_order_109 : decode cX4_order 109 = .ok (.bipush 16, 2) := by decide +kernel
theorem dX4_order_111 : decode cX4_order 111 = .ok (.aload_n 0, 1) := by decide +kernel
theorem dX4_order_112 : decode cX4_order 112 = .ok (.invokevirtual 123, 3) := by decide +kernel
theorem dX4_order_115 : decode cX4_order 115 = .ok (.invokevirtual 75, 3) := by decide +kernel
theorem dX4_order_118 : decode cX4_order 118 = .ok (.goto 34, 3) := by decide +kernel
theorem dX4_order_121 : decode cX4_order 121 = .ok (.aload_n 0, 1) := by decide +kernel
theorem dX4_order_122 : decode cX4_order 122 = .ok (.getfield 30, 3) := by decide +kernel
theorem dX4_order_125 : decode cX4_order 125 = .ok (.iconst 2, 1) := by decide +kernel
theorem dX4_order_126 : decode cX4_order 126 = .ok (.aload_n 0, 1) := by decide +kernel
theorem dX4_order_127 : decode cX4_order 127 = .ok (.invokevirtual 181, 3) := by decide +kernel
theorem dX4_order_130 : decode cX4_order 130 = .ok (.invokevirtual 75, 3) := by decide +kernel
theorem dX4_order_133 : decode cX4_order 133 = .ok (.goto 19, 3) := by decide +kernel
theorem dX4_order_136 : decode cX4_order 136 = .ok (.aload_n 0, 1) := by decide +kernel
theorem dX4_order_137 : decode cX4_order 137 = .ok (.aload_n 0, 1) := by decide +kernel
theorem dX4_order_138 : decode cX4_order 138 = .ok (.invokevirtual 181, 3) := by decide +kernel
theorem dX4_order_141 : decode cX4_order 141 = .ok (.invokevirtual 248, 3) := by decide +kernel
theorem dX4_order_144 : decode cX4_order 144 = .ok (.goto 8, 3) := by decide +kernel
theorem dX4_order_147 : decode cX4_order 147 = .ok (.aload_n 0, 1) := by decide +kernel
theorem dX4_order_148 : decode cX4_order 148 = .ok (.iconst 1, 1) := by decide +kernel
theorem dX4_order_149 : decode cX4_order 149 = .ok (.putfield 72, 3) := by decide +kernel
theorem dX4_order_152 : decode cX4_order 152 = .ok (.return_, 1) := by decide +kernel
def wX4_order_b152 (a0 : Nat) (x1 : Int32)  (Sn : kp_S) (post : kp_S → Prop) : Prop :=
  post Sn
def wX4_order_b67 (a0 : Nat) (x1 : Int32)  (Sn : kp_S) (post : kp_S → Prop) : Prop :=
  wX4_moveGate a0 x1 Sn (fun T2001 =>
  wX4_order_b152 a0 x1   T2001 post)
def wX4_order (a0 : Nat) (x1 : Int32) (S : kp_S) (post : kp_S → Prop) : Prop :=
  ((x1 = 35 →
  ∃ b2 : Nat, kp_R S 801 a0 = some b2 ∧
  wX4_pop a0 S (fun y4 T3 =>
  wX7_write b2 0 y4 T3 (fun T5 =>
  wX4_order_b152 a0 x1   T5 post))) ∧ (¬ x1 = 35 →
  ((x1 = 36 →
  wX4_order_b67 a0 x1   S post) ∧ (¬ x1 = 36 →
  ((x1 = 37 →
  wX4_order_b67 a0 x1   S post) ∧ (¬ x1 = 37 →
  ((x1 = 38 →
  wX4_sluice a0 S (fun T9 =>
  wX4_order_b152 a0 x1   T9 post)) ∧ (¬ x1 = 38 →
  ((x1 = 39 →
  wX4_sail a0 S (fun T11 =>
  wX4_order_b152 a0 x1   T11 post)) ∧ (¬ x1 = 39 →
  ((x1 = 40 →
  ∃ b13 : Nat, kp_R S 808 a0 = some b13 ∧
  wX4_take a0 S (fun y15 T14 =>
  wX10_become b13 8 y15 T14 (fun T16 =>
  wX4_order_b152 a0 x1   T16 post))) ∧ (¬ x1 = 40 →
  ((x1 = 41 →
  ∃ b18 : Nat, kp_R S 808 a0 = some b18 ∧
  wX4_take a0 S (fun y20 T19 =>
  wX10_become b18 16 y20 T19 (fun T21 =>
  wX4_order_b152 a0 x1   T21 post))) ∧ (¬ x1 = 41 →
  ((x1 = 42 →
  ∃ b23 : Nat, kp_R S 808 a0 = some b23 ∧
  wX4_pop a0 S (fun y25 T24 =>
  wX10_become b23 2 y25 T24 (fun T26 =>
  wX4_order_b152 a0 x1   T26 post))) ∧ (¬ x1 = 42 →
  ((x1 = 43 →
  wX4_pop a0 S (fun y29 T28 =>
  wX4_fail a0 y29 T28 (fun T30 =>
  wX4_order_b152 a0 x1   T30 post))) ∧ (¬ x1 = 43 →
  ∀ T31 : kp_S, T31 = kp_sI S 814 a0 1 →
  wX4_order_b152 a0 x1   T31 post))))))))))))))))))
set_option maxHeartbeats 4000000 in
set_option maxRecDepth 100000 in
theorem c_X4_order (l : Launch) (D : va_G) (cy : Nat → ClassId) (ad : (Nat → Nat) × (Nat → Nat)) (S : kp_S) (a0 : Nat) (x1 : Int32) (post : kp_S → Prop) (hS : kp_ok S) (f_a0 : kp_is S a0 4) (hw : wX4_order a0 x1 S post) : kp_M l yX4_order cX4_order 2 none { frames := 4, cells := 0, slots := 0, locals := 95 } D cy ad S [.ref a0, .int x1] 0 0 (fun A => kp_Qv D cy A S post) := by
  refine kp_start (own := RX4) (by decide) rfl (Nat.le_of_ble_eq_true rfl) hS ?_
  intro p e s m below meth c A ls X hr hlocks hname h hl
  have hle : kp_le S S := kp_le.rf
  have hl : lv_has ls 2 [(0, .ref a0), (1, .int x1)] := hl
  have j152 : ∀  (Sn : kp_S) (H : Heap) (locs : List Loc) (ls : Array Slot), lv_has ls 2 [] → kp_H D cy A Sn s.heap H locs → kp_le S Sn → kp_is Sn a0 4 → wX4_order_b152 a0 x1   Sn post → W p l e { frames := 4, cells := 0, slots := 0, locals := 95 } s m ([.ref a0, .int x1] : List Value).toArray below meth c H locs 0 0 (MQ below (kp_Qv D cy A S post) ([.ref a0, .int x1] : List Value).toArray s 0 0 A) (F0 m 152 ls []) := by
    intro  Sn H locs ls hl h hle f_a0 hw
    unfold wX4_order_b152 at hw
    exact kp_retv X hr hlocks h hle hw dX4_order_152
  have j67 : ∀  (Sn : kp_S) (H : Heap) (locs : List Loc) (ls : Array Slot), lv_has ls 2 [(0, .ref a0), (1, .int x1)] → kp_H D cy A Sn s.heap H locs → kp_le S Sn → kp_is Sn a0 4 → wX4_order_b67 a0 x1   Sn post → W p l e { frames := 4, cells := 0, slots := 0, locals := 95 } s m ([.ref a0, .int x1] : List Value).toArray below meth c H locs 0 0 (MQ below (kp_Qv D cy A S post) ([.ref a0, .int x1] : List Value).toArray s 0 0 A) (F0 m 67 ls []) := by
    intro  Sn H locs ls hl h hle f_a0 hw
    unfold wX4_order_b67 at hw
    refine lv_aload_n X.1 X.2.1 dX4_order_67 rfl (lv_at hl 0 rfl) ?_
    refine lv_iload_n X.1 X.2.1 dX4_order_68 rfl (lv_at hl 1 rfl) ?_
    refine kp_callv X h (kp_runV (rm := { frames := 3, cells := 0, slots := 0, locals := 67 }) (mc := 0) (ms := 0) (rest := []) (Qc := fun A => kp_Qv D cy A Sn _) X h (c_X4_moveGate l D cy ad Sn a0 x1 _ h.2.2.2 f_a0 hw) f_a0 cv_4_239 ⟨by decide, by decide, rfl, rfl, by decide, by decide⟩ rfl hl.1 rfl (Nat.le_of_ble_eq_true rfl) dX4_order_69) (fun T2001 hw l_T2001 H locs h => ?_)
    have f_a0 := l_T2001.is f_a0
    have hle := hle.tr l_T2001
    refine lv_goto (tgt := 152) X.1 X.2.1 dX4_order_72 (by decide) ?_
    exact j152  T2001 H locs ls (lv_sub hl [] rfl) h hle f_a0 hw
  unfold wX4_order at hw
  have h : kp_H D cy A S s.heap s.heap [] := h
  revert h
  intro h
  refine lv_iload_n X.1 X.2.1 dX4_order_0 rfl (lv_at hl 1 rfl) ?_
  by_cases c1 : x1 = 35
  · have hw := hw.1 c1
    refine lv_tableIn (off := 51) (tgt := 52) X.1 X.2.1 dX4_order_1 (by rw [c1]; decide) (by rw [c1]; decide) (by rw [c1]; decide) (by decide) ?_
    refine lv_aload_n X.1 X.2.1 dX4_order_52 rfl (lv_at hl 0 rfl) ?_
    obtain ⟨b2, e_b2, hw⟩ := hw
    have f_b2 := h.2.2.2.rf (c := 4) (k := 1) f_a0 (by decide) (by decide) e_b2 (t := 7) rfl
    refine kp_get X h f_a0 ff_4_38.l (v := .ref b2) (congrArg va_rf e_b2) dX4_order_53 ?_
    refine lv_iconst (v := 0) X.1 X.2.1 dX4_order_56 (by decide) ?_
    refine lv_aload_n X.1 X.2.1 dX4_order_57 rfl (lv_at hl 0 rfl) ?_
    refine kp_calli X h (kp_runV (rm := { frames := 0, cells := 0, slots := 0, locals := 0 }) (mc := 0) (ms := 0) (rest := [.int 0, .ref b2]) (Qc := fun A => kp_Qi D cy A S _) X h (c_X4_pop l D cy ad S a0 _ h.2.2.2 f_a0 hw) f_a0 cv_4_181 ⟨by decide, by decide, rfl, rfl, by decide, by decide⟩ rfl hl.1 rfl (Nat.le_of_ble_eq_true rfl) dX4_order_58) (fun y4 T3 hw l_T3 H locs h => ?_)
    have f_a0 := l_T3.is f_a0
    have f_b2 := l_T3.is f_b2
    have hle := hle.tr l_T3
    refine kp_callv X h (kp_runV (rm := { frames := 0, cells := 0, slots := 0, locals := 0 }) (mc := 0) (ms := 0) (rest := []) (Qc := fun A => kp_Qv D cy A T3 _) X h (c_X7_write l D cy ad T3 b2 0 y4 _ h.2.2.2 f_b2 hw) f_b2 cv_4_169 ⟨by decide, by decide, rfl, rfl, by decide, by decide⟩ rfl hl.1 rfl (Nat.le_of_ble_eq_true rfl) dX4_order_61) (fun T5 hw l_T5 H locs h => ?_)
    have f_a0 := l_T5.is f_a0
    have f_b2 := l_T5.is f_b2
    have hle := hle.tr l_T5
    refine lv_goto (tgt := 152) X.1 X.2.1 dX4_order_64 (by decide) ?_
    exact j152  T5 _ _ ls (lv_sub hl [] rfl) h hle f_a0 hw
  have hw := hw.2 c1
  by_cases c6 : x1 = 36
  · have hw := hw.1 c6
    refine lv_tableIn (off := 66) (tgt := 67) X.1 X.2.1 dX4_order_1 (by rw [c6]; decide) (by rw [c6]; decide) (by rw [c6]; decide) (by decide) ?_
    exact j67  S _ _ ls (lv_sub hl [0, 1] rfl) h hle f_a0 hw
  have hw := hw.2 c6
  by_cases c7 : x1 = 37
  · have hw := hw.1 c7
    refine lv_tableIn (off := 66) (tgt := 67) X.1 X.2.1 dX4_order_1 (by rw [c7]; decide) (by rw [c7]; decide) (by rw [c7]; decide) (by decide) ?_
    exact j67  S _ _ ls (lv_sub hl [0, 1] rfl) h hle f_a0 hw
  have hw := hw.2 c7
  by_cases c8 : x1 = 38
  · have hw := hw.1 c8
    refine lv_tableIn (off := 74) (tgt := 75) X.1 X.2.1 dX4_order_1 (by rw [c8]; decide) (by rw [c8]; decide) (by rw [c8]; decide) (by decide) ?_
    refine lv_aload_n X.1 X.2.1 dX4_order_75 rfl (lv_at hl 0 rfl) ?_
    refine kp_callv X h (kp_runV (rm := { frames := 3, cells := 0, slots := 0, locals := 67 }) (mc := 0) (ms := 0) (rest := []) (Qc := fun A => kp_Qv D cy A S _) X h (c_X4_sluice l D cy ad S a0 _ h.2.2.2 f_a0 hw) f_a0 cv_4_242 ⟨by decide, by decide, rfl, rfl, by decide, by decide⟩ rfl hl.1 rfl (Nat.le_of_ble_eq_true rfl) dX4_order_76) (fun T9 hw l_T9 H locs h => ?_)
    have f_a0 := l_T9.is f_a0
    have hle := hle.tr l_T9
    refine lv_goto (tgt := 152) X.1 X.2.1 dX4_order_79 (by decide) ?_
    exact j152  T9 _ _ ls (lv_sub hl [] rfl) h hle f_a0 hw
  have hw := hw.2 c8
  by_cases c10 : x1 = 39
  · have hw := hw.1 c10
    refine lv_tableIn (off := 81) (tgt := 82) X.1 X.2.1 dX4_order_1 (by rw [c10]; decide) (by rw [c10]; decide) (by rw [c10]; decide) (by decide) ?_
    refine lv_aload_n X.1 X.2.1 dX4_order_82 rfl (lv_at hl 0 rfl) ?_
    refine kp_callv X h (kp_runV (rm := { frames := 3, cells := 0, slots := 0, locals := 65 }) (mc := 0) (ms := 0) (rest := []) (Qc := fun A => kp_Qv D cy A S _) X h (c_X4_sail l D cy ad S a0 _ h.2.2.2 f_a0 hw) f_a0 cv_4_245 ⟨by decide, by decide, rfl, rfl, by decide, by decide⟩ rfl hl.1 rfl (Nat.le_of_ble_eq_true rfl) dX4_order_83) (fun T11 hw l_T11 H locs h => ?_)
    have f_a0 := l_T11.is f_a0
    have hle := hle.tr l_T11
    refine lv_goto (tgt := 152) X.1 X.2.1 dX4_order_86 (by decide) ?_
    exact j152  T11 _ _ ls (lv_sub hl [] rfl) h hle f_a0 hw
  have hw := hw.2 c10
  by_cases c12 : x1 = 40
  · have hw := hw.1 c12
    refine lv_tableIn (off := 88) (tgt := 89) X.1 X.2.1 dX4_order_1 (by rw [c12]; decide) (by rw [c12]; decide) (by rw [c12]; decide) (by decide) ?_
    refine lv_aload_n X.1 X.2.1 dX4_order_89 rfl (lv_at hl 0 rfl) ?_
    obtain ⟨b13, e_b13, hw⟩ := hw
    have f_b13 := h.2.2.2.rf (c := 4) (k := 8) f_a0 (by decide) (by decide) e_b13 (t := 10) rfl
    refine kp_get X h f_a0 ff_4_30.l (v := .ref b13) (congrArg va_rf e_b13) dX4_order_90 ?_
    refine lv_bipush (v := 8) X.1 X.2.1 dX4_order_93 (by decide) ?_
    refine lv_aload_n X.1 X.2.1 dX4_order_95 rfl (lv_at hl 0 rfl) ?_
    refine kp_calli X h (kp_runV (rm := { frames := 1, cells := 0, slots := 0, locals := 21 }) (mc := 0) (ms := 0) (rest := [.int 8, .ref b13]) (Qc := fun A => kp_Qi D cy A S _) X h (c_X4_take l D cy ad S a0 _ h.2.2.2 f_a0 hw) f_a0 cv_4_123 ⟨by decide, by decide, rfl, rfl, by decide, by decide⟩ rfl hl.1 rfl (Nat.le_of_ble_eq_true rfl) dX4_order_96) (fun y15 T14 hw l_T14 H locs h => ?_)
    have f_a0 := l_T14.is f_a0
    have f_b13 := l_T14.is f_b13
    have hle := hle.tr l_T14
    refine kp_callv X h (kp_runV (rm := { frames := 0, cells := 0, slots := 0, locals := 0 }) (mc := 0) (ms := 0) (rest := []) (Qc := fun A => kp_Qv D cy A T14 _) X h (c_X10_become l D cy ad T14 b13 8 y15 _ h.2.2.2 f_b13 hw) f_b13 cv_4_75 ⟨by decide, by decide, rfl, rfl, by decide, by decide⟩ rfl hl.1 rfl (Nat.le_of_ble_eq_true rfl) dX4_order_99) (fun T16 hw l_T16 H locs h => ?_)
    have f_a0 := l_T16.is f_a0
    have f_b13 := l_T16.is f_b13
    have hle := hle.tr l_T16
    refine lv_goto (tgt := 152) X.1 X.2.1 dX4_order_102 (by decide) ?_
    exact j152  T16 _ _ ls (lv_sub hl [] rfl) h hle f_a0 hw
  have hw := hw.2 c12
  by_cases c17 : x1 = 41
  · have hw := hw.1 c17
    refine lv_tableIn (off := 104) (tgt := 105) X.1 X.2.1 dX4_order_1 (by rw [c17]; decide) (by rw [c17]; decide) (by rw [c17]; decide) (by decide) ?_
    refine lv_aload_n X.1 X.2.1 dX4_order_105 rfl (lv_at hl 0 rfl) ?_
    obtain ⟨b18, e_b18, hw⟩ := hw
    have f_b18 := h.2.2.2.rf (c := 4) (k := 8) f_a0 (by decide) (by decide) e_b18 (t := 10) rfl
    refine kp_get X h f_a0 ff_4_30.l (v := .ref b18) (congrArg va_rf e_b18) dX4_order_106 ?_
    refine lv_bipush (v := 16) X.1 X.2.1 dX4_order_109 (by decide) ?_
    refine lv_aload_n X.1 X.2.1 dX4_order_111 rfl (lv_at hl 0 rfl) ?_
    refine kp_calli X h (kp_runV (rm := { frames := 1, cells := 0, slots := 0, locals := 21 }) (mc := 0) (ms := 0) (rest := [.int 16, .ref b18]) (Qc := fun A => kp_Qi D cy A S _) X h (c_X4_take l D cy ad S a0 _ h.2.2.2 f_a0 hw) f_a0 cv_4_123 ⟨by decide, by decide, rfl, rfl, by decide, by decide⟩ rfl hl.1 rfl (Nat.le_of_ble_eq_true rfl) dX4_order_112) (fun y20 T19 hw l_T19 H locs h => ?_)
    have f_a0 := l_T19.is f_a0
    have f_b18 := l_T19.is f_b18
    have hle := hle.tr l_T19
    refine kp_callv X h (kp_runV (rm := { frames := 0, cells := 0, slots := 0, locals := 0 }) (mc := 0) (ms := 0) (rest := []) (Qc := fun A => kp_Qv D cy A T19 _) X h (c_X10_become l D cy ad T19 b18 16 y20 _ h.2.2.2 f_b18 hw) f_b18 cv_4_75 ⟨by decide, by decide, rfl, rfl, by decide, by decide⟩ rfl hl.1 rfl (Nat.le_of_ble_eq_true rfl) dX4_order_115) (fun T21 hw l_T21 H locs h => ?_)
    have f_a0 := l_T21.is f_a0
    have f_b18 := l_T21.is f_b18
    have hle := hle.tr l_T21
    refine lv_goto (tgt := 152) X.1 X.2.1 dX4_order_118 (by decide) ?_
    exact j152  T21 _ _ ls (lv_sub hl [] rfl) h hle f_a0 hw
  have hw := hw.2 c17
  by_cases c22 : x1 = 42
  · have hw := hw.1 c22
    refine lv_tableIn (off := 120) (tgt := 121) X.1 X.2.1 dX4_order_1 (by rw [c22]; decide) (by rw [c22]; decide) (by rw [c22]; decide) (by decide) ?_
    refine lv_aload_n X.1 X.2.1 dX4_order_121 rfl (lv_at hl 0 rfl) ?_
    obtain ⟨b23, e_b23, hw⟩ := hw
    have f_b23 := h.2.2.2.rf (c := 4) (k := 8) f_a0 (by decide) (by decide) e_b23 (t := 10) rfl
    refine kp_get X h f_a0 ff_4_30.l (v := .ref b23) (congrArg va_rf e_b23) dX4_order_122 ?_
    refine lv_iconst (v := 2) X.1 X.2.1 dX4_order_125 (by decide) ?_
    refine lv_aload_n X.1 X.2.1 dX4_order_126 rfl (lv_at hl 0 rfl) ?_
    refine kp_calli X h (kp_runV (rm := { frames := 0, cells := 0, slots := 0, locals := 0 }) (mc := 0) (ms := 0) (rest := [.int 2, .ref b23]) (Qc := fun A => kp_Qi D cy A S _) X h (c_X4_pop l D cy ad S a0 _ h.2.2.2 f_a0 hw) f_a0 cv_4_181 ⟨by decide, by decide, rfl, rfl, by decide, by decide⟩ rfl hl.1 rfl (Nat.le_of_ble_eq_true rfl) dX4_order_127) (fun y25 T24 hw l_T24 H locs h => ?_)
    have f_a0 := l_T24.is f_a0
    have f_b23 := l_T24.is f_b23
    have hle := hle.tr l_T24
    refine kp_callv X h (kp_runV (rm := { frames := 0, cells := 0, slots := 0, locals := 0 }) (mc := 0) (ms := 0) (rest := []) (Qc := fun A => kp_Qv D cy A T24 _) X h (c_X10_become l D cy ad T24 b23 2 y25 _ h.2.2.2 f_b23 hw) f_b23 cv_4_75 ⟨by decide, by decide, rfl, rfl, by decide, by decide⟩ rfl hl.1 rfl (Nat.le_of_ble_eq_true rfl) dX4_order_130) (fun T26 hw l_T26 H locs h => ?_)
    have f_a0 := l_T26.is f_a0
    have f_b23 := l_T26.is f_b23
    have hle := hle.tr l_T26
    refine lv_goto (tgt := 152) X.1 X.2.1 dX4_order_133 (by decide) ?_
    exact j152  T26 _ _ ls (lv_sub hl [] rfl) h hle f_a0 hw
  have hw := hw.2 c22
  by_cases c27 : x1 = 43
  · have hw := hw.1 c27
    refine lv_tableIn (off := 135) (tgt := 136) X.1 X.2.1 dX4_order_1 (by rw [c27]; decide) (by rw [c27]; decide) (by rw [c27]; decide) (by decide) ?_
    refine lv_aload_n X.1 X.2.1 dX4_order_136 rfl (lv_at hl 0 rfl) ?_
    refine lv_aload_n X.1 X.2.1 dX4_order_137 rfl (lv_at hl 0 rfl) ?_
    refine kp_calli X h (kp_runV (rm := { frames := 0, cells := 0, slots := 0, locals := 0 }) (mc := 0) (ms := 0) (rest := [.ref a0]) (Qc := fun A => kp_Qi D cy A S _) X h (c_X4_pop l D cy ad S a0 _ h.2.2.2 f_a0 hw) f_a0 cv_4_181 ⟨by decide, by decide, rfl, rfl, by decide, by decide⟩ rfl hl.1 rfl (Nat.le_of_ble_eq_true rfl) dX4_order_138) (fun y29 T28 hw l_T28 H locs h => ?_)
    have f_a0 := l_T28.is f_a0
    have hle := hle.tr l_T28
    refine kp_callv X h (kp_runV (rm := { frames := 2, cells := 0, slots := 0, locals := 44 }) (mc := 0) (ms := 0) (rest := []) (Qc := fun A => kp_Qv D cy A T28 _) X h (c_X4_fail l D cy ad T28 a0 y29 _ h.2.2.2 f_a0 hw) f_a0 cv_4_248 ⟨by decide, by decide, rfl, rfl, by decide, by decide⟩ rfl hl.1 rfl (Nat.le_of_ble_eq_true rfl) dX4_order_141) (fun T30 hw l_T30 H locs h => ?_)
    have f_a0 := l_T30.is f_a0
    have hle := hle.tr l_T30
    refine lv_goto (tgt := 152) X.1 X.2.1 dX4_order_144 (by decide) ?_
    exact j152  T30 _ _ ls (lv_sub hl [] rfl) h hle f_a0 hw
  have hw := hw.2 c27
  have t_c1 := lv_neT (a := 35) c1 (by decide)
  have t_c6 := lv_neT (a := 36) c6 (by decide)
  have t_c7 := lv_neT (a := 37) c7 (by decide)
  have t_c8 := lv_neT (a := 38) c8 (by decide)
  have t_c10 := lv_neT (a := 39) c10 (by decide)
  have t_c12 := lv_neT (a := 40) c12 (by decide)
  have t_c17 := lv_neT (a := 41) c17 (by decide)
  have t_c22 := lv_neT (a := 42) c22 (by decide)
  have t_c27 := lv_neT (a := 43) c27 (by decide)
  refine lv_tableOut (tgt := 147) X.1 X.2.1 dX4_order_1 (by omega) (by decide) ?_
  refine lv_aload_n X.1 X.2.1 dX4_order_147 rfl (lv_at hl 0 rfl) ?_
  refine lv_iconst (v := 1) X.1 X.2.1 dX4_order_148 (by decide) ?_
  refine kp_putI X h f_a0 fp_4_72 rfl ⟨rfl, rfl⟩ dX4_order_149 (fun T31 e_T31 l_T31 H locs h => ?_)
  have hw := hw T31 e_T31
  have f_a0 := l_T31.is f_a0
  have hle := hle.tr l_T31
  exact j152  T31 _ _ ls (lv_sub hl [] rfl) h hle f_a0 hw
