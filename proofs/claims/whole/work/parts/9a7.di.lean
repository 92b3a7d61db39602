def rs_D (y2 y4 y6 : Int32) (T7 : q_V) : Option q_V :=
  if y2 < 30 then
  if y2 = 1 then
  q_bv (fX12_push y4 T7) (fun T9 =>
  fX12_step_b436 T9)
  else
  if y2 = 2 then
  if ((24 * (q_i T7 2501)) + y4) < 0 ∨ 312 ≤ ((24 * (q_i T7 2501)) + y4).toNatClampNeg then none else
  q_bv (fX12_push ((q_a T7 2509 ((24 * (q_i T7 2501)) + y4).toNatClampNeg)) T7) (fun T12 =>
  fX12_step_b436 T12)
  else
  if y2 = 3 then
  q_bd (fX12_pop T7) (fun y16 T15 =>
  if ((24 * (q_i T7 2501)) + y4) < 0 ∨ 312 ≤ ((24 * (q_i T7 2501)) + y4).toNatClampNeg then none else
  q_lt (q_sa T15 2509 ((upd (q_a T15 2509) (((24 * (q_i T7 2501)) + y4).toNatClampNeg) y16))) (fun T17 =>
  fX12_step_b436 T17))
  else
  if y2 = 4 then
  q_lt (q_si T7 2516 (((q_i T7 2516) - 1))) (fun T19 =>
  fX12_step_b436 T19)
  else
  if y2 = 5 then
  q_bd (fX12_pop T7) (fun y22 T21 =>
  q_bv (fX12_push ((- y22)) T21) (fun T23 =>
  fX12_step_b436 T23))
  else
  if y2 = 6 then
  q_bd (fX12_pop T7) (fun y26 T25 =>
  if y26 = 0 then
  fX12_step_b260 1 T25
  else
  fX12_step_b260 0 T25)
  else
  if y2 = 7 then
  fX12_step_b431 y2 T7
  else
  if y2 = 8 then
  fX12_step_b431 y2 T7
  else
  if y2 = 9 then
  fX12_step_b431 y2 T7
  else
  if y2 = 10 then
  fX12_step_b431 y2 T7
  else
  if y2 = 11 then
  fX12_step_b431 y2 T7
  else
  if y2 = 12 then
  fX12_step_b431 y2 T7
  else
  if y2 = 13 then
  fX12_step_b431 y2 T7
  else
  if y2 = 14 then
  fX12_step_b431 y2 T7
  else
  if y2 = 15 then
  fX12_step_b431 y2 T7
  else
  if y2 = 16 then
  q_bd (fX12_pop T7) (fun y39 T38 =>
  if y39 = 0 then
  fX12_step_b279 y4 0 T38
  else
  fX12_step_b279 y4 1 T38)
  else
  if y2 = 17 then
  q_bd (fX12_pop T7) (fun y43 T42 =>
  if y43 = 0 then
  fX12_step_b300 y4 1 T42
  else
  fX12_step_b300 y4 0 T42)
  else
  if y2 = 18 then
  q_bd (fX12_pop T7) (fun y47 T46 =>
  if y47 = 0 then
  fX12_step_b321 0 T46
  else
  fX12_step_b321 1 T46)
  else
  if y2 = 19 then
  q_bv (fX12_calls y4 y6 T7) (fun T50 =>
  fX12_step_b436 T50)
  else
  if y2 = 20 then
  q_bd (fX12_pop T7) (fun y53 T52 =>
  q_bv (fX12_answers y53 6 y2 T52) (fun T54 =>
  fX12_step_b436 T54))
  else
  if y2 = 21 then
  q_bd (fX12_pop T7) (fun y57 T56 =>
  q_bv (fX12_answers y57 7 y2 T56) (fun T58 =>
  fX12_step_b436 T58))
  else
  if y2 = 22 then
  q_bv (fX12_answersGate T7) (fun T60 =>
  fX12_step_b436 T60)
  else
  if y2 = 23 then
  q_bd (fX12_pop T7) (fun y63 T62 =>
  q_bv (fX12_answers y63 8 y2 T62) (fun T64 =>
  fX12_step_b436 T64))
  else
  if y2 = 24 then
  q_bd (fX12_pop T7) (fun y67 T66 =>
  q_bv (fX12_answers y67 6 y2 T66) (fun T68 =>
  fX12_step_b436 T68))
  else
  if y2 = 25 then
  if (q_i T7 2501) < 0 ∨ 13 ≤ (q_i T7 2501).toNatClampNeg then none else
  q_bv (fX12_push ((q_a T7 2504 (q_i T7 2501).toNatClampNeg)) T7) (fun T71 =>
  fX12_step_b436 T71)
  else
  if y2 = 26 then
  if (q_i T7 2501) < 0 ∨ 13 ≤ (q_i T7 2501).toNatClampNeg then none else
  q_bv (fX12_push ((q_a T7 2505 (q_i T7 2501).toNatClampNeg)) T7) (fun T74 =>
  fX12_step_b436 T74)
  else
  fX12_step_b431 y2 T7
  else
  q_bv (fX12_stepOfStatement y2 y4 y6 T7) (fun T75 =>
  some T75)
theorem rd_1 {y4 y6 : Int32} {T7 : q_V} : rs_D 1 y4 y6 T7 =
  (q_bv (fX12_push y4 T7) (fun T9 =>
  fX12_step_b436 T9)) := rfl
theorem rd_2 {y4 y6 : Int32} {T7 : q_V} : rs_D 2 y4 y6 T7 =
  (if ((24 * (q_i T7 2501)) + y4) < 0 ∨ 312 ≤ ((24 * (q_i T7 2501)) + y4).toNatClampNeg then none else
  q_bv (fX12_push ((q_a T7 2509 ((24 * (q_i T7 2501)) + y4).toNatClampNeg)) T7) (fun T12 =>
  fX12_step_b436 T12)) := rfl
theorem rd_3 {y4 y6 : Int32} {T7 : q_V} : rs_D 3 y4 y6 T7 =
  (q_bd (fX12_pop T7) (fun y16 T15 =>
  if ((24 * (q_i T7 2501)) + y4) < 0 ∨ 312 ≤ ((24 * (q_i T7 2501)) + y4).toNatClampNeg then none else
  q_lt (q_sa T15 2509 ((upd (q_a T15 2509) (((24 * (q_i T7 2501)) + y4).toNatClampNeg) y16))) (fun T17 =>
  fX12_step_b436 T17))) := rfl
theorem rd_4 {y4 y6 : Int32} {T7 : q_V} : rs_D 4 y4 y6 T7 =
  (q_lt (q_si T7 2516 (((q_i T7 2516) - 1))) (fun T19 =>
  fX12_step_b436 T19)) := rfl
theorem rd_5 {y4 y6 : Int32} {T7 : q_V} : rs_D 5 y4 y6 T7 =
  (q_bd (fX12_pop T7) (fun y22 T21 =>
  q_bv (fX12_push ((- y22)) T21) (fun T23 =>
  fX12_step_b436 T23))) := rfl
theorem rd_6 {y4 y6 : Int32} {T7 : q_V} : rs_D 6 y4 y6 T7 =
  (q_bd (fX12_pop T7) (fun y26 T25 =>
  if y26 = 0 then
  fX12_step_b260 1 T25
  else
  fX12_step_b260 0 T25)) := rfl
theorem rd_7 {y4 y6 : Int32} {T7 : q_V} : rs_D 7 y4 y6 T7 =
  (fX12_step_b431 7 T7) := rfl
theorem rd_8 {y4 y6 : Int32} {T7 : q_V} : rs_D 8 y4 y6 T7 =
  (fX12_step_b431 8 T7) := rfl
theorem rd_9 {y4 y6 : Int32} {T7 : q_V} : rs_D 9 y4 y6 T7 =
  (fX12_step_b431 9 T7) := rfl
theorem rd_10 {y4 y6 : Int32} {T7 : q_V} : rs_D 10 y4 y6 T7 =
  (fX12_step_b431 10 T7) := rfl
theorem rd_11 {y4 y6 : Int32} {T7 : q_V} : rs_D 11 y4 y6 T7 =
  (fX12_step_b431 11 T7) := rfl
theorem rd_12 {y4 y6 : Int32} {T7 : q_V} : rs_D 12 y4 y6 T7 =
  (fX12_step_b431 12 T7) := rfl
theorem rd_13 {y4 y6 : Int32} {T7 : q_V} : rs_D 13 y4 y6 T7 =
  (fX12_step_b431 13 T7) := rfl
theorem rd_14 {y4 y6 : Int32} {T7 : q_V} : rs_D 14 y4 y6 T7 =
  (fX12_step_b431 14 T7) := rfl
theorem rd_15 {y4 y6 : Int32} {T7 : q_V} : rs_D 15 y4 y6 T7 =
  (fX12_step_b431 15 T7) := rfl
theorem rd_16 {y4 y6 : Int32} {T7 : q_V} : rs_D 16 y4 y6 T7 =
  (q_bd (fX12_pop T7) (fun y39 T38 =>
  if y39 = 0 then
  fX12_step_b279 y4 0 T38
  else
  fX12_step_b279 y4 1 T38)) := rfl
theorem rd_17 {y4 y6 : Int32} {T7 : q_V} : rs_D 17 y4 y6 T7 =
  (q_bd (fX12_pop T7) (fun y43 T42 =>
  if y43 = 0 then
  fX12_step_b300 y4 1 T42
  else
  fX12_step_b300 y4 0 T42)) := rfl
theorem rd_18 {y4 y6 : Int32} {T7 : q_V} : rs_D 18 y4 y6 T7 =
  (q_bd (fX12_pop T7) (fun y47 T46 =>
  if y47 = 0 then
  fX12_step_b321 0 T46
  else
  fX12_step_b321 1 T46)) := rfl
theorem rd_19 {y4 y6 : Int32} {T7 : q_V} : rs_D 19 y4 y6 T7 =
  (q_bv (fX12_calls y4 y6 T7) (fun T50 =>
  fX12_step_b436 T50)) := rfl
theorem rd_20 {y4 y6 : Int32} {T7 : q_V} : rs_D 20 y4 y6 T7 =
  (q_bd (fX12_pop T7) (fun y53 T52 =>
  q_bv (fX12_answers y53 6 20 T52) (fun T54 =>
  fX12_step_b436 T54))) := rfl
theorem rd_21 {y4 y6 : Int32} {T7 : q_V} : rs_D 21 y4 y6 T7 =
  (q_bd (fX12_pop T7) (fun y57 T56 =>
  q_bv (fX12_answers y57 7 21 T56) (fun T58 =>
  fX12_step_b436 T58))) := rfl
theorem rd_22 {y4 y6 : Int32} {T7 : q_V} : rs_D 22 y4 y6 T7 =
  (q_bv (fX12_answersGate T7) (fun T60 =>
  fX12_step_b436 T60)) := rfl
theorem rd_23 {y4 y6 : Int32} {T7 : q_V} : rs_D 23 y4 y6 T7 =
  (q_bd (fX12_pop T7) (fun y63 T62 =>
  q_bv (fX12_answers y63 8 23 T62) (fun T64 =>
  fX12_step_b436 T64))) := rfl
theorem rd_24 {y4 y6 : Int32} {T7 : q_V} : rs_D 24 y4 y6 T7 =
  (q_bd (fX12_pop T7) (fun y67 T66 =>
  q_bv (fX12_answers y67 6 24 T66) (fun T68 =>
  fX12_step_b436 T68))) := rfl
theorem rd_25 {y4 y6 : Int32} {T7 : q_V} : rs_D 25 y4 y6 T7 =
  (if (q_i T7 2501) < 0 ∨ 13 ≤ (q_i T7 2501).toNatClampNeg then none else
  q_bv (fX12_push ((q_a T7 2504 (q_i T7 2501).toNatClampNeg)) T7) (fun T71 =>
  fX12_step_b436 T71)) := rfl
theorem rd_26 {y4 y6 : Int32} {T7 : q_V} : rs_D 26 y4 y6 T7 =
  (if (q_i T7 2501) < 0 ∨ 13 ≤ (q_i T7 2501).toNatClampNeg then none else
  q_bv (fX12_push ((q_a T7 2505 (q_i T7 2501).toNatClampNeg)) T7) (fun T74 =>
  fX12_step_b436 T74)) := rfl
theorem rd_30 {y4 y6 : Int32} {T7 : q_V} : rs_D 30 y4 y6 T7 =
  q_bv (q_lt (q_si T7 2511 y4) (fun T2 =>
  q_bd (fX12_burns T2) (fun y4 T3 =>
  fX12_stepOfStatement_b600 30 y4 y6 T3))) (fun T => some T) := rfl
theorem rd_31 {y4 y6 : Int32} {T7 : q_V} : rs_D 31 y4 y6 T7 =
  q_bv (q_bd (fX12_pop T7) (fun y7 T6 =>
  q_bv (fX12_note 0 y7 T6) (fun T8 =>
  fX12_stepOfStatement_b600 31 y4 y6 T8))) (fun T => some T) := rfl
theorem rd_32 {y4 y6 : Int32} {T7 : q_V} : rs_D 32 y4 y6 T7 =
  q_bv (q_bv (fX12_moveGate 1 T7) (fun T10 =>
  fX12_stepOfStatement_b600 32 y4 y6 T10)) (fun T => some T) := rfl
theorem rd_33 {y4 y6 : Int32} {T7 : q_V} : rs_D 33 y4 y6 T7 =
  q_bv (q_bv (fX12_moveGate 0 T7) (fun T12 =>
  fX12_stepOfStatement_b600 33 y4 y6 T12)) (fun T => some T) := rfl
theorem rd_34 {y4 y6 : Int32} {T7 : q_V} : rs_D 34 y4 y6 T7 =
  q_bv (q_bv (fX12_sluice T7) (fun T14 =>
  fX12_stepOfStatement_b600 34 y4 y6 T14)) (fun T => some T) := rfl
theorem rd_35 {y4 y6 : Int32} {T7 : q_V} : rs_D 35 y4 y6 T7 =
  q_bv (q_bv (fX12_sail T7) (fun T16 =>
  fX12_stepOfStatement_b600 35 y4 y6 T16)) (fun T => some T) := rfl
theorem rd_36 {y4 y6 : Int32} {T7 : q_V} : rs_D 36 y4 y6 T7 =
  q_bv (q_bd (fX12_pop T7) (fun y19 T18 =>
  q_bv (fX12_fails y19 T18) (fun T20 =>
  fX12_stepOfStatement_b600 36 y4 y6 T20))) (fun T => some T) := rfl
theorem rd_37 {y4 y6 : Int32} {T7 : q_V} : rs_D 37 y4 y6 T7 =
  q_bv (q_lt (q_si T7 2513 1) (fun T22 =>
  fX12_stepOfStatement_b600 37 y4 y6 T22)) (fun T => some T) := rfl
theorem rd_38 {y4 y6 : Int32} {T7 : q_V} : rs_D 38 y4 y6 T7 =
  q_bv (q_bd (fX12_pop T7) (fun y25 T24 =>
  q_lt (q_si T24 2483 y25) (fun T26 =>
  q_lt (q_si T26 2481 3) (fun T27 =>
  q_bv (fX12_leaves T27) (fun T28 =>
  fX12_stepOfStatement_b600 38 y4 y6 T28))))) (fun T => some T) := rfl
theorem rd_39 {y4 y6 : Int32} {T7 : q_V} : rs_D 39 y4 y6 T7 =
  q_bv (fX12_stepOfStatement_b238 39 y4 y6 T7) (fun T => some T) := rfl
theorem rd_40 {y4 y6 : Int32} {T7 : q_V} : rs_D 40 y4 y6 T7 =
  q_bv (fX12_stepOfStatement_b238 40 y4 y6 T7) (fun T => some T) := rfl
theorem rd_41 {y4 y6 : Int32} {T7 : q_V} : rs_D 41 y4 y6 T7 =
  q_bv (q_lt (q_si T7 2510 y4) (fun T32 =>
  fX12_stepOfStatement_b600 41 y4 y6 T32)) (fun T => some T) := rfl
theorem rd_42 {y4 y6 : Int32} {T7 : q_V} : rs_D 42 y4 y6 T7 =
  q_bv (q_bd (fX12_pop T7) (fun y35 T34 =>
  if y35 = 0 then
  fX12_stepOfStatement_b289 42 y4 y6 y4 T34
  else
  fX12_stepOfStatement_b289 42 y4 y6 ((q_i T34 2510)) T34)) (fun T => some T) := rfl
theorem rd_43 {y4 y6 : Int32} {T7 : q_V} : rs_D 43 y4 y6 T7 =
  q_bv (q_bv (fX12_opens 3 0 y4 T7) (fun T38 =>
  fX12_stepOfStatement_b600 43 y4 y6 T38)) (fun T => some T) := rfl
theorem rd_44 {y4 y6 : Int32} {T7 : q_V} : rs_D 44 y4 y6 T7 =
  q_bv (q_lt (q_si T7 2511 y4) (fun T40 =>
  q_bd (fX12_burns T40) (fun y42 T41 =>
  fX12_stepOfStatement_b600 44 y4 y6 T41))) (fun T => some T) := rfl
theorem rd_45 {y4 y6 : Int32} {T7 : q_V} : rs_D 45 y4 y6 T7 =
  q_bv (q_bd (fX12_pop T7) (fun y45 T44 =>
  if y45 = 0 then
  fX12_stepOfStatement_b450 45 y4 y6 0 y4 T44
  else
  fX12_stepOfStatement_b450 45 y4 y6 1 y4 T44)) (fun T => some T) := rfl
theorem rd_46 {y4 y6 : Int32} {T7 : q_V} : rs_D 46 y4 y6 T7 =
  q_bv (q_bv (fX12_beginsEach y4 T7) (fun T48 =>
  fX12_stepOfStatement_b600 46 y4 y6 T48)) (fun T => some T) := rfl
theorem rd_47 {y4 y6 : Int32} {T7 : q_V} : rs_D 47 y4 y6 T7 =
  q_bv (q_bv (fX12_testsEach y4 T7) (fun T50 =>
  fX12_stepOfStatement_b600 47 y4 y6 T50)) (fun T => some T) := rfl
theorem rd_48 {y4 y6 : Int32} {T7 : q_V} : rs_D 48 y4 y6 T7 =
  q_bv (q_bv (fX12_leaves T7) (fun T52 =>
  fX12_stepOfStatement_b600 48 y4 y6 T52)) (fun T => some T) := rfl
theorem rd_49 {y4 y6 : Int32} {T7 : q_V} : rs_D 49 y4 y6 T7 =
  q_bv (q_bd (fX12_pop T7) (fun y55 T54 =>
  q_bv (fX12_takes y55 y4 T54) (fun T56 =>
  fX12_stepOfStatement_b600 49 y4 y6 T56))) (fun T => some T) := rfl
theorem rd_50 {y4 y6 : Int32} {T7 : q_V} : rs_D 50 y4 y6 T7 =
  q_bv (q_bv (fX12_opens 4 3 y4 T7) (fun T58 =>
  if (y4) < 0 ∨ 640 ≤ (y4).toNatClampNeg then none else
  if (q_a T58 2452 y4.toNatClampNeg) = (- 1) then
  fX12_stepOfStatement_b518 50 y4 y6 0 ((q_i T58 2473)) T58
  else
  fX12_stepOfStatement_b518 50 y4 y6 1 ((q_i T58 2473)) T58)) (fun T => some T) := rfl
theorem rd_51 {y4 y6 : Int32} {T7 : q_V} : rs_D 51 y4 y6 T7 =
  q_bv (q_bd (fX12_pop T7) (fun y63 T62 =>
  if ((q_i T62 2487) - 1) < 0 ∨ 240 ≤ ((q_i T62 2487) - 1).toNatClampNeg then none else
  if y63 = (q_a T62 2498 ((q_i T62 2487) - 1).toNatClampNeg) then
  fX12_stepOfStatement_b549 51 y4 y6 1 T62
  else
  fX12_stepOfStatement_b549 51 y4 y6 0 T62)) (fun T => some T) := rfl
theorem rd_52 {y4 y6 : Int32} {T7 : q_V} : rs_D 52 y4 y6 T7 =
  q_bv (q_bv (fX12_mends 1 y4 T7) (fun T67 =>
  fX12_stepOfStatement_b600 52 y4 y6 T67)) (fun T => some T) := rfl
theorem rd_53 {y4 y6 : Int32} {T7 : q_V} : rs_D 53 y4 y6 T7 =
  q_bv (q_bv (fX12_takeWay (((q_i T7 2487) - 1)) T7) (fun T69 =>
  if ((q_i T69 2487) - 1) < 0 ∨ 240 ≤ ((q_i T69 2487) - 1).toNatClampNeg then none else
  q_lt (q_sa T69 2489 ((upd (q_a T69 2489) (((q_i T69 2487) - 1).toNatClampNeg) 5))) (fun T71 =>
  q_bv (fX12_leaves T71) (fun T72 =>
  fX12_stepOfStatement_b600 53 y4 y6 T72)))) (fun T => some T) := rfl
theorem rd_54 {y4 y6 : Int32} {T7 : q_V} : rs_D 54 y4 y6 T7 =
  q_bv (fX12_stepOfStatement_b594 54 y4 y6 T7) (fun T => some T) := rfl
theorem rd_55 {y4 y6 : Int32} {T7 : q_V} : rs_D 55 y4 y6 T7 =
  q_bv (q_lt (q_si T7 2511 y4) (fun T75 =>
  fX12_stepOfStatement_b600 55 y4 y6 T75)) (fun T => some T) := rfl
theorem rd_56 {y4 y6 : Int32} {T7 : q_V} : rs_D 56 y4 y6 T7 =
  q_bv (q_bd (fX12_burns T7) (fun y78 T77 =>
  if y78 = 0 then
  fX12_stepOfStatement_b600 56 y4 y6 T77
  else
  q_bv (fX12_rounds y4 1 T77) (fun T79 =>
  fX12_stepOfStatement_b600 56 y4 y6 T79))) (fun T => some T) := rfl
theorem rd_57 {y4 y6 : Int32} {T7 : q_V} : rs_D 57 y4 y6 T7 =
  q_bv (q_bd (fX12_pop T7) (fun y83 T82 =>
  if y83 = 0 then
  q_lt (q_si T82 2510 y6) (fun T85 =>
  fX12_stepOfStatement_b600 57 y4 y6 T85)
  else
  q_bv (fX12_rounds y4 0 T82) (fun T84 =>
  fX12_stepOfStatement_b600 57 y4 y6 T84))) (fun T => some T) := rfl
theorem rd_58 {y4 y6 : Int32} {T7 : q_V} : rs_D 58 y4 y6 T7 =
  q_bv (q_bd (fX12_pop T7) (fun y89 T88 =>
  if ((q_i T88 2516) - 1) < 0 ∨ 4000 ≤ ((q_i T88 2516) - 1).toNatClampNeg then none else
  if y89 = (q_a T88 2515 ((q_i T88 2516) - 1).toNatClampNeg) then
  fX12_stepOfStatement_b390 58 y4 y6 1 T88
  else
  fX12_stepOfStatement_b390 58 y4 y6 0 T88)) (fun T => some T) := rfl
theorem rd_59 {y4 y6 : Int32} {T7 : q_V} : rs_D 59 y4 y6 T7 =
  q_bv (q_bv (fX12_chooses 1 y4 T7) (fun T93 =>
  fX12_stepOfStatement_b600 59 y4 y6 T93)) (fun T => some T) := rfl
theorem rd_60 {y4 y6 : Int32} {T7 : q_V} : rs_D 60 y4 y6 T7 =
  q_bv (q_bv (fX12_opens 5 8 y4 T7) (fun T95 =>
  fX12_stepOfStatement_b600 60 y4 y6 T95)) (fun T => some T) := rfl
theorem rd_61 {y4 y6 : Int32} {T7 : q_V} : rs_D 61 y4 y6 T7 =
  q_bv (q_bd (fX12_pop T7) (fun y98 T97 =>
  if y98 = 0 then
  fX12_stepOfStatement_b430 61 y4 y6 0 T97
  else
  fX12_stepOfStatement_b430 61 y4 y6 1 T97)) (fun T => some T) := rfl
theorem rk_7 {S : q_V} : fX12_reckon 7 S =
  (q_bd (fX12_pop S) (fun y2 T1 =>
  q_bd (fX12_pop T1) (fun y4 T3 =>
  q_bv (fX12_push ((y4 + y2)) T3) (fun T6 =>
  fX12_reckon_b213 7 T6)))) := rfl
theorem rk_8 {S : q_V} : fX12_reckon 8 S =
  (q_bd (fX12_pop S) (fun y2 T1 =>
  q_bd (fX12_pop T1) (fun y4 T3 =>
  q_bv (fX12_push ((y4 - y2)) T3) (fun T8 =>
  fX12_reckon_b213 8 T8)))) := rfl
theorem rk_9 {S : q_V} : fX12_reckon 9 S =
  (q_bd (fX12_pop S) (fun y2 T1 =>
  q_bd (fX12_pop T1) (fun y4 T3 =>
  q_bv (fX12_push ((y4 * y2)) T3) (fun T10 =>
  fX12_reckon_b213 9 T10)))) := rfl
theorem rk_10 {S : q_V} : fX12_reckon 10 S =
  (q_bd (fX12_pop S) (fun y2 T1 =>
  q_bd (fX12_pop T1) (fun y4 T3 =>
  fX12_reckon_b158 10 y2 y4 T3))) := rfl
theorem rk_11 {S : q_V} : fX12_reckon 11 S =
  (q_bd (fX12_pop S) (fun y2 T1 =>
  q_bd (fX12_pop T1) (fun y4 T3 =>
  fX12_reckon_b158 11 y2 y4 T3))) := rfl
theorem rk_12 {S : q_V} : fX12_reckon 12 S =
  (q_bd (fX12_pop S) (fun y2 T1 =>
  q_bd (fX12_pop T1) (fun y4 T3 =>
  if y4 = y2 then
  fX12_reckon_b101 12 1 T3
  else
  fX12_reckon_b101 12 0 T3))) := rfl
theorem rk_13 {S : q_V} : fX12_reckon 13 S =
  (q_bd (fX12_pop S) (fun y2 T1 =>
  q_bd (fX12_pop T1) (fun y4 T3 =>
  if y4 = y2 then
  fX12_reckon_b118 13 0 T3
  else
  fX12_reckon_b118 13 1 T3))) := rfl
theorem rk_14 {S : q_V} : fX12_reckon 14 S =
  (q_bd (fX12_pop S) (fun y2 T1 =>
  q_bd (fX12_pop T1) (fun y4 T3 =>
  if y2 ≤ y4 then
  fX12_reckon_b135 14 0 T3
  else
  fX12_reckon_b135 14 1 T3))) := rfl
theorem rk_15 {S : q_V} : fX12_reckon 15 S =
  (q_bd (fX12_pop S) (fun y2 T1 =>
  q_bd (fX12_pop T1) (fun y4 T3 =>
  if y2 < y4 then
  fX12_reckon_b152 15 0 T3
  else
  fX12_reckon_b152 15 1 T3))) := rfl
def cs_D (y2 : Int32) (T1 : q_V) : Option q_V :=
  if 7 < y2 then
  if 16 < y2 then
  if 21 < y2 then
  if 34 < y2 then
  if 44 < y2 then
  q_bv (fX4_beginOrEnd y2 T1) (fun T3 =>
  fX4_step_b80 T3)
  else
  q_bv (fX4_order y2 T1) (fun T4 =>
  fX4_step_b80 T4)
  else
  q_bv (fX4_flow y2 T1) (fun T6 =>
  fX4_step_b80 T6)
  else
  q_bv (fX4_workQuery y2 T1) (fun T8 =>
  fX4_step_b80 T8)
  else
  q_bv (fX4_workPair y2 T1) (fun T10 =>
  fX4_step_b80 T10)
  else
  q_bv (fX4_workSingle y2 T1) (fun T12 =>
  fX4_step_b80 T12)
theorem cd_1 {T1 : q_V} : cs_D 1 T1 =
  q_bv (q_bd (fX4_take T1) (fun y3 T2 =>
  q_bv (fX4_push y3 T2) (fun T4 =>
  fX4_workSingle_b144 1 T4))) (fun T => some T) := rfl
theorem cd_2 {T1 : q_V} : cs_D 2 T1 =
  q_bv (q_bd (fX4_frame T1) (fun b7 T6 =>
  q_bd (fX4_take T6) (fun y9 T8 =>
  q_bd (fX3_get b7 y9 T8) (fun y11 T10 =>
  q_bv (fX4_push y11 T10) (fun T12 =>
  fX4_workSingle_b144 2 T12))))) (fun T => some T) := rfl
theorem cd_3 {T1 : q_V} : cs_D 3 T1 =
  q_bv (q_bd (fX4_frame T1) (fun b15 T14 =>
  q_bv (fX4_push ((q_f T14 603 b15)) T14) (fun T16 =>
  fX4_workSingle_b144 3 T16))) (fun T => some T) := rfl
theorem cd_4 {T1 : q_V} : cs_D 4 T1 =
  q_bv (q_bd (fX4_frame T1) (fun b19 T18 =>
  q_bv (fX4_push ((q_f T18 604 b19)) T18) (fun T20 =>
  fX4_workSingle_b144 4 T20))) (fun T => some T) := rfl
theorem cd_5 {T1 : q_V} : cs_D 5 T1 =
  q_bv (q_bd (fX4_pop T1) (fun y23 T22 =>
  q_bv (fX4_push ((- y23)) T22) (fun T24 =>
  fX4_workSingle_b144 5 T24))) (fun T => some T) := rfl
theorem cd_6 {T1 : q_V} : cs_D 6 T1 =
  q_bv (q_bd (fX4_pop T1) (fun y27 T26 =>
  if y27 = 0 then
  fX4_workSingle_b122 6 1 T26
  else
  fX4_workSingle_b122 6 0 T26)) (fun T => some T) := rfl
theorem cd_7 {T1 : q_V} : cs_D 7 T1 =
  q_bv (q_bd (fX4_pop T1) (fun y30 T29 =>
  if y30 = 0 then
  fX4_workSingle_b141 7 0 T29
  else
  fX4_workSingle_b141 7 1 T29)) (fun T => some T) := rfl
theorem cd_8 {T1 : q_V} : cs_D 8 T1 =
  q_bv (q_bd (fX4_pop T1) (fun y2 T1x =>
  q_bd (fX4_pop T1x) (fun y4 T3 =>
  q_bv (fX4_push ((y4 + y2)) T3) (fun T6 =>
  fX4_workPair_b165 8 T6)))) (fun T => some T) := rfl
theorem cd_9 {T1 : q_V} : cs_D 9 T1 =
  q_bv (q_bd (fX4_pop T1) (fun y2 T1x =>
  q_bd (fX4_pop T1x) (fun y4 T3 =>
  q_bv (fX4_push ((y4 - y2)) T3) (fun T8 =>
  fX4_workPair_b165 9 T8)))) (fun T => some T) := rfl
theorem cd_10 {T1 : q_V} : cs_D 10 T1 =
  q_bv (q_bd (fX4_pop T1) (fun y2 T1x =>
  q_bd (fX4_pop T1x) (fun y4 T3 =>
  q_bv (fX4_push ((y4 * y2)) T3) (fun T10 =>
  fX4_workPair_b165 10 T10)))) (fun T => some T) := rfl
theorem cd_11 {T1 : q_V} : cs_D 11 T1 =
  q_bv (q_bd (fX4_pop T1) (fun y2 T1x =>
  q_bd (fX4_pop T1x) (fun y4 T3 =>
  fX4_workPair_b158 11 y2 y4 T3))) (fun T => some T) := rfl
theorem cd_12 {T1 : q_V} : cs_D 12 T1 =
  q_bv (q_bd (fX4_pop T1) (fun y2 T1x =>
  q_bd (fX4_pop T1x) (fun y4 T3 =>
  fX4_workPair_b158 12 y2 y4 T3))) (fun T => some T) := rfl
theorem cd_13 {T1 : q_V} : cs_D 13 T1 =
  q_bv (q_bd (fX4_pop T1) (fun y2 T1x =>
  q_bd (fX4_pop T1x) (fun y4 T3 =>
  if y4 = y2 then
  fX4_workPair_b101 13 1 T3
  else
  fX4_workPair_b101 13 0 T3))) (fun T => some T) := rfl
theorem cd_14 {T1 : q_V} : cs_D 14 T1 =
  q_bv (q_bd (fX4_pop T1) (fun y2 T1x =>
  q_bd (fX4_pop T1x) (fun y4 T3 =>
  if y4 = y2 then
  fX4_workPair_b118 14 0 T3
  else
  fX4_workPair_b118 14 1 T3))) (fun T => some T) := rfl
theorem cd_15 {T1 : q_V} : cs_D 15 T1 =
  q_bv (q_bd (fX4_pop T1) (fun y2 T1x =>
  q_bd (fX4_pop T1x) (fun y4 T3 =>
  if y2 ≤ y4 then
  fX4_workPair_b135 15 0 T3
  else
  fX4_workPair_b135 15 1 T3))) (fun T => some T) := rfl
theorem cd_16 {T1 : q_V} : cs_D 16 T1 =
  q_bv (q_bd (fX4_pop T1) (fun y2 T1x =>
  q_bd (fX4_pop T1x) (fun y4 T3 =>
  if y2 < y4 then
  fX4_workPair_b152 16 0 T3
  else
  fX4_workPair_b152 16 1 T3))) (fun T => some T) := rfl
theorem cd_17 {T1 : q_V} : cs_D 17 T1 =
  q_bv (q_bd (fX4_pop T1) (fun y2 T1x =>
  q_bd (fX1_levelOf y2 T1x) (fun y6 T5 =>
  fX4_workQuery_b97 17 y6 T5))) (fun T => some T) := rfl
theorem cd_18 {T1 : q_V} : cs_D 18 T1 =
  q_bv (q_bd (fX4_pop T1) (fun y2 T1x =>
  q_bd (fX1_reachLevelOf y2 T1x) (fun y10 T9 =>
  fX4_workQuery_b97 18 y10 T9))) (fun T => some T) := rfl
theorem cd_19 {T1 : q_V} : cs_D 19 T1 =
  q_bv (q_bd (fX4_pop T1) (fun y2 T1x =>
  q_bd (fX4_pop T1x) (fun y14 T13 =>
  q_bd (fX1_gateOf y14 y2 T13) (fun y16 T15 =>
  fX4_workQuery_b97 19 y16 T15)))) (fun T => some T) := rfl
theorem cd_20 {T1 : q_V} : cs_D 20 T1 =
  q_bv (q_bd (fX4_pop T1) (fun y2 T1x =>
  q_bd (fX1_placeOf y2 T1x) (fun y20 T19 =>
  fX4_workQuery_b97 20 y20 T19))) (fun T => some T) := rfl
theorem cd_21 {T1 : q_V} : cs_D 21 T1 =
  q_bv (q_bd (fX4_pop T1) (fun y2 T1x =>
  q_bd (fX1_holdsOf y2 T1x) (fun y23 T22 =>
  fX4_workQuery_b97 21 y23 T22))) (fun T => some T) := rfl
theorem cd_22 {T1 : q_V} : cs_D 22 T1 =
  q_bv (q_bd (fX4_take T1) (fun xt0 Sn =>
  q_lt (q_si Sn 810 xt0) (fun T6002 =>
  fX4_flow_b272 22 T6002))) (fun T => some T) := rfl
theorem cd_23 {T1 : q_V} : cs_D 23 T1 =
  q_bv (q_bd (fX4_take T1) (fun xt0 Sn =>
  q_bd (fX4_pop Sn) (fun y6005 T6004 =>
  if y6005 = 0 then
  fX4_flow_b101 23 xt0 1 T6004
  else
  fX4_flow_b101 23 xt0 0 T6004))) (fun T => some T) := rfl
theorem cd_24 {T1 : q_V} : cs_D 24 T1 =
  q_bv (q_bd (fX4_take T1) (fun xt0 Sn =>
  q_bd (fX4_peek 0 Sn) (fun y6009 T6008 =>
  if y6009 = 0 then
  fX4_flow_b122 24 xt0 0 T6008
  else
  fX4_flow_b122 24 xt0 1 T6008))) (fun T => some T) := rfl
theorem cd_25 {T1 : q_V} : cs_D 25 T1 =
  q_bv (q_bd (fX4_take T1) (fun xt0 Sn =>
  q_bd (fX4_peek 0 Sn) (fun y6013 T6012 =>
  if y6013 = 0 then
  fX4_flow_b143 25 xt0 1 T6012
  else
  fX4_flow_b143 25 xt0 0 T6012))) (fun T => some T) := rfl
theorem cd_26 {T1 : q_V} : cs_D 26 T1 =
  q_bv (q_bd (fX4_take T1) (fun xt0 Sn =>
  q_lt (q_si Sn 803 ((if ((q_i Sn 803) - xt0) < (0 : Int32) then 0 else ((q_i Sn 803) - xt0)))) (fun T6016 =>
  fX4_flow_b272 26 T6016))) (fun T => some T) := rfl
theorem cd_27 {T1 : q_V} : cs_D 27 T1 =
  q_bv (q_bd (fX4_take T1) (fun xt0 Sn =>
  q_bd (fX4_frame Sn) (fun b6019 T6018 =>
  q_bd (fX4_pop T6018) (fun y6021 T6020 =>
  q_bv (fX3_set b6019 xt0 y6021 T6020) (fun T6022 =>
  fX4_flow_b272 27 T6022))))) (fun T => some T) := rfl
theorem cd_28 {T1 : q_V} : cs_D 28 T1 =
  q_bv (q_bd (fX4_take T1) (fun xt0 Sn =>
  q_bd (fX4_pop Sn) (fun y6025 T6024 =>
  q_bv (fX4_match y6025 xt0 T6024) (fun T6026 =>
  fX4_flow_b272 28 T6026)))) (fun T => some T) := rfl
theorem cd_29 {T1 : q_V} : cs_D 29 T1 =
  q_bv (q_bd (fX4_take T1) (fun xt0 Sn =>
  q_bd (fX4_pop Sn) (fun y6029 T6028 =>
  q_bd (fX4_top T6028) (fun b6031 T6030 =>
  if y6029 = (q_f T6030 2001 b6031) then
  fX4_flow_b217 29 xt0 1 T6030
  else
  fX4_flow_b217 29 xt0 0 T6030)))) (fun T => some T) := rfl
theorem cd_30 {T1 : q_V} : cs_D 30 T1 =
  q_bv (q_bd (fX4_take T1) (fun xt0 Sn =>
  q_bd (fX4_spend Sn) (fun y6036 T6035 =>
  if y6036 = 0 then
  fX4_flow_b272 30 T6035
  else
  q_lt (q_si T6035 811 xt0) (fun T6037 =>
  fX4_flow_b272 30 T6037)))) (fun T => some T) := rfl
theorem cd_31 {T1 : q_V} : cs_D 31 T1 =
  q_bv (q_bd (fX4_take T1) (fun xt0 Sn =>
  q_lt (q_si Sn 811 xt0) (fun T6040 =>
  fX4_flow_b272 31 T6040))) (fun T => some T) := rfl
theorem cd_32 {T1 : q_V} : cs_D 32 T1 =
  q_bv (q_bd (fX4_spend T1) (fun y6043 T6042 =>
  fX4_flow_b272 32 T6042)) (fun T => some T) := rfl
theorem cd_33 {T1 : q_V} : cs_D 33 T1 =
  q_bv (q_bd (fX4_take T1) (fun xt0 Sn =>
  q_bd (fX4_take Sn) (fun y6046 T6045 =>
  q_bv (fX4_beginRoundOfEach xt0 y6046 T6045) (fun T6047 =>
  fX4_flow_b272 33 T6047)))) (fun T => some T) := rfl
theorem cd_34 {T1 : q_V} : cs_D 34 T1 =
  q_bv (q_bd (fX4_take T1) (fun xt0 Sn =>
  q_bv (fX4_stepEach xt0 Sn) (fun T6048 =>
  fX4_flow_b272 34 T6048))) (fun T => some T) := rfl
theorem cd_35 {T1 : q_V} : cs_D 35 T1 =
  q_bv (q_bd (fX4_pop T1) (fun y4 T3 =>
  q_bv (fX7_write 0 y4 T3) (fun T5 =>
  fX4_order_b152 35 T5))) (fun T => some T) := rfl
theorem cd_36 {T1 : q_V} : cs_D 36 T1 =
  q_bv (fX4_order_b67 36 T1) (fun T => some T) := rfl
theorem cd_37 {T1 : q_V} : cs_D 37 T1 =
  q_bv (fX4_order_b67 37 T1) (fun T => some T) := rfl
theorem cd_38 {T1 : q_V} : cs_D 38 T1 =
  q_bv (q_bv (fX4_sluice T1) (fun T9 =>
  fX4_order_b152 38 T9)) (fun T => some T) := rfl
theorem cd_39 {T1 : q_V} : cs_D 39 T1 =
  q_bv (q_bv (fX4_sail T1) (fun T11 =>
  fX4_order_b152 39 T11)) (fun T => some T) := rfl
theorem cd_40 {T1 : q_V} : cs_D 40 T1 =
  q_bv (q_bd (fX4_take T1) (fun y15 T14 =>
  q_bv (fX10_become 168 8 y15 T14) (fun T16 =>
  fX4_order_b152 40 T16))) (fun T => some T) := rfl
theorem cd_41 {T1 : q_V} : cs_D 41 T1 =
  q_bv (q_bd (fX4_take T1) (fun y20 T19 =>
  q_bv (fX10_become 168 16 y20 T19) (fun T21 =>
  fX4_order_b152 41 T21))) (fun T => some T) := rfl
theorem cd_42 {T1 : q_V} : cs_D 42 T1 =
  q_bv (q_bd (fX4_pop T1) (fun y25 T24 =>
  q_bv (fX10_become 168 2 y25 T24) (fun T26 =>
  fX4_order_b152 42 T26))) (fun T => some T) := rfl
theorem cd_43 {T1 : q_V} : cs_D 43 T1 =
  q_bv (q_bd (fX4_pop T1) (fun y29 T28 =>
  q_bv (fX4_fail y29 T28) (fun T30 =>
  fX4_order_b152 43 T30))) (fun T => some T) := rfl
theorem cd_44 {T1 : q_V} : cs_D 44 T1 =
  q_bv (q_lt (q_si T1 814 1) (fun T31 =>
  fX4_order_b152 44 T31)) (fun T => some T) := rfl
theorem cd_45 {T1 : q_V} : cs_D 45 T1 =
  q_bv (q_lt (((q_i T1 810) - 1) : Int32) (fun y1 =>
  q_bd (fX4_pop T1) (fun y4 T3 =>
  q_bv (fX4_hold y4 y1 T3) (fun T5 =>
  fX4_beginOrEnd_b185 45 T5)))) (fun T => some T) := rfl
theorem cd_46 {T1 : q_V} : cs_D 46 T1 =
  q_bv (q_lt (((q_i T1 810) - 1) : Int32) (fun y1 =>
  fX4_beginOrEnd_b72 46 y1 T1)) (fun T => some T) := rfl
theorem cd_47 {T1 : q_V} : cs_D 47 T1 =
  q_bv (q_lt (((q_i T1 810) - 1) : Int32) (fun y1 =>
  fX4_beginOrEnd_b72 47 y1 T1)) (fun T => some T) := rfl
theorem cd_48 {T1 : q_V} : cs_D 48 T1 =
  q_bv (q_lt (((q_i T1 810) - 1) : Int32) (fun y1 =>
  q_bd (fX4_top T1) (fun b10 T9 =>
  q_bv (fX4_mended b10 T9) (fun T11 =>
  fX4_beginOrEnd_b185 48 T11)))) (fun T => some T) := rfl
theorem cd_49 {T1 : q_V} : cs_D 49 T1 =
  q_bv (q_lt (((q_i T1 810) - 1) : Int32) (fun y1 =>
  fX4_beginOrEnd_b176 49 T1)) (fun T => some T) := rfl
theorem cd_50 {T1 : q_V} : cs_D 50 T1 =
  q_bv (q_lt (((q_i T1 810) - 1) : Int32) (fun y1 =>
  q_bd (fX4_begin 50 y1 T1) (fun b15 T14 =>
  q_bd (fX0_get ((y1 + 2)) T14) (fun y18 T17 =>
  q_lt (q_si T17 810 y18) (fun T19 =>
  fX4_beginOrEnd_b185 50 T19))))) (fun T => some T) := rfl
theorem cd_51 {T1 : q_V} : cs_D 51 T1 =
  q_bv (q_lt (((q_i T1 810) - 1) : Int32) (fun y1 =>
  q_bd (fX4_pop T1) (fun y22 T21 =>
  q_bv (fX4_ensured y22 T21) (fun T23 =>
  fX4_beginOrEnd_b185 51 T23)))) (fun T => some T) := rfl
theorem cd_52 {T1 : q_V} : cs_D 52 T1 =
  q_bv (q_lt (((q_i T1 810) - 1) : Int32) (fun y1 =>
  q_bv (fX4_pledge y1 T1) (fun T25 =>
  fX4_beginOrEnd_b185 52 T25))) (fun T => some T) := rfl
theorem cd_53 {T1 : q_V} : cs_D 53 T1 =
  q_bv (q_lt (((q_i T1 810) - 1) : Int32) (fun y1 =>
  q_bd (fX4_take T1) (fun y28 T27 =>
  q_bv (fX4_call y28 T27) (fun T29 =>
  fX4_beginOrEnd_b185 53 T29)))) (fun T => some T) := rfl
theorem cd_54 {T1 : q_V} : cs_D 54 T1 =
  q_bv (q_lt (((q_i T1 810) - 1) : Int32) (fun y1 =>
  fX4_beginOrEnd_b176 54 T1)) (fun T => some T) := rfl
theorem rs_step {T : co_T} {vc vr : q_V} {q g f t cl : Nat} {y : Int32} (s : ru_S T vc vr) (e : co_r T 0 q y) : fX12_step (mR vr q g f t cl) = rs_D y (T.2.2.1 1 q) (T.2.2.1 2 q) (mR vr (q + 1) g f t cl) := by
  unfold fX12_step
  have h := e.1
  rw [mR_2510, if_neg (by rw [ni_in h (by omega)]; exact id), q_lt_s, if_neg (by rw [ni_in h (by omega)]; exact id), q_lt_s, if_neg (by rw [ni_in h (by omega)]; exact id), q_lt_s, q_lt_s, ni_clamp (by omega), mR_a, ni_add1, mR_s2510, s.2.2.1.1, e.2, s.2.2.1.2.1, s.2.2.1.2.2.1]
  rfl
theorem cs_step {T : co_T} {vc vr : q_V} {p h f np cl : Nat} {y : Int32} (s : ru_S T vc vr) (e : co_c T p y) : fX4_step (mC vc p h f np cl) = cs_D y (mC vc (p + 1) h f np cl) := by
  unfold fX4_step
  rw [cs_take s.2.1 e.1, s.1, e.2, q_bd_s]
  rfl
