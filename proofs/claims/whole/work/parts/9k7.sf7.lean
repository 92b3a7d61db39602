/-- the statements, by the kind of their first token -/
def stC (B : q_V → Option (Int32 × q_V)) (y2 y7 : Int32) (T4 : q_V) : Option (Int32 × q_V) :=
  if y7 = 259 then
  q_bd (fX8_named B y2 T4) (fun y10 T9 =>
  some (y10, T9))
  else
  if y7 = 260 then
  fX8_statement_b481 B T4
  else
  if y7 = 261 then
  fX8_statement_b481 B T4
  else
  if y7 = 262 then
  fX8_statement_b481 B T4
  else
  if y7 = 263 then
  fX8_statement_b481 B T4
  else
  if y7 = 264 then
  fX8_statement_b481 B T4
  else
  if y7 = 265 then
  fX8_statement_b481 B T4
  else
  if y7 = 266 then
  fX8_statement_b481 B T4
  else
  if y7 = 267 then
  fX8_statement_b481 B T4
  else
  if y7 = 268 then
  fX8_statement_b481 B T4
  else
  if y7 = 269 then
  fX8_statement_b481 B T4
  else
  if y7 = 270 then
  fX8_statement_b481 B T4
  else
  if y7 = 271 then
  fX8_statement_b481 B T4
  else
  if y7 = 272 then
  fX8_statement_b481 B T4
  else
  if y7 = 273 then
  fX8_statement_b481 B T4
  else
  if y7 = 274 then
  fX8_statement_b481 B T4
  else
  if y7 = 275 then
  fX8_statement_b481 B T4
  else
  if y7 = 276 then
  fX8_statement_b481 B T4
  else
  if y7 = 277 then
  fX8_statement_b481 B T4
  else
  if y7 = 278 then
  fX8_statement_b481 B T4
  else
  if y7 = 279 then
  fX8_statement_b481 B T4
  else
  if y7 = 280 then
  fX8_statement_b481 B T4
  else
  if y7 = 281 then
  fX8_statement_b481 B T4
  else
  if y7 = 282 then
  fX8_statement_b481 B T4
  else
  if y7 = 283 then
  fX8_statement_b481 B T4
  else
  if y7 = 284 then
  fX8_statement_b481 B T4
  else
  if y7 = 285 then
  fX8_statement_b481 B T4
  else
  if y7 = 286 then
  fX8_statement_b481 B T4
  else
  if y7 = 287 then
  fX8_statement_b481 B T4
  else
  if y7 = 288 then
  fX8_statement_b481 B T4
  else
  if y7 = 289 then
  fX8_statement_b481 B T4
  else
  if y7 = 290 then
  fX8_statement_b481 B T4
  else
  if y7 = 291 then
  fX8_statement_b481 B T4
  else
  if y7 = 292 then
  fX8_statement_b481 B T4
  else
  if y7 = 293 then
  fX8_statement_b481 B T4
  else
  if y7 = 294 then
  fX8_statement_b481 B T4
  else
  if y7 = 295 then
  fX8_statement_b481 B T4
  else
  if y7 = 296 then
  fX8_statement_b481 B T4
  else
  if y7 = 297 then
  fX8_statement_b481 B T4
  else
  if y7 = 298 then
  fX8_statement_b481 B T4
  else
  if y7 = 299 then
  fX8_statement_b481 B T4
  else
  if y7 = 300 then
  fX8_statement_b481 B T4
  else
  if y7 = 301 then
  q_bd (fX8_variable T4) (fun y54 T53 =>
  some (y54, T53))
  else
  if y7 = 302 then
  q_bd (fX8_order 35 1 1 T4) (fun y57 T56 =>
  some (y57, T56))
  else
  if y7 = 303 then
  q_bd (fX8_ifElse B T4) (fun y60 T59 =>
  some (y60, T59))
  else
  if y7 = 304 then
  fX8_statement_b481 B T4
  else
  if y7 = 305 then
  fX8_statement_b451 B y2 T4
  else
  if y7 = 306 then
  fX8_statement_b451 B y2 T4
  else
  if y7 = 307 then
  fX8_statement_b481 B T4
  else
  if y7 = 308 then
  fX8_statement_b481 B T4
  else
  if y7 = 309 then
  q_bd (fX8_leaveOrAgain 40 T4) (fun y68 T67 =>
  some (y68, T67))
  else
  if y7 = 310 then
  q_bd (fX8_leaveOrAgain 41 T4) (fun y71 T70 =>
  some (y71, T70))
  else
  if y7 = 311 then
  q_bd (fX8_answer T4) (fun y74 T73 =>
  some (y74, T73))
  else
  if y7 = 312 then
  q_bd (fX8_order 43 1 4 T4) (fun y77 T76 =>
  some (y77, T76))
  else
  if y7 = 313 then
  q_bd (fX8_hold B T4) (fun y80 T79 =>
  some (y80, T79))
  else
  if y7 = 314 then
  q_bd (fX8_trial B y2 T4) (fun y83 T82 =>
  some (y83, T82))
  else
  if y7 = 315 then
  fX8_statement_b481 B T4
  else
  if y7 = 316 then
  fX8_statement_b481 B T4
  else
  if y7 = 317 then
  fX8_statement_b481 B T4
  else
  if y7 = 318 then
  q_bd (fX8_later B y2 T4) (fun y89 T88 =>
  some (y89, T88))
  else
  if y7 = 319 then
  q_bd (fX8_stop T4) (fun y92 T91 =>
  some (y92, T91))
  else
  if y7 = 320 then
  q_bd (fX8_ensure B y2 T4) (fun y95 T94 =>
  some (y95, T94))
  else
  if y7 = 321 then
  fX8_statement_b451 B y2 T4
  else
  if y7 = 322 then
  fX8_statement_b481 B T4
  else
  if y7 = 323 then
  q_bd (fX8_choose B T4) (fun y100 T99 =>
  some (y100, T99))
  else
  if y7 = 324 then
  fX8_statement_b481 B T4
  else
  if y7 = 325 then
  fX8_statement_b481 B T4
  else
  if y7 = 326 then
  fX8_statement_b481 B T4
  else
  if y7 = 327 then
  fX8_statement_b481 B T4
  else
  if y7 = 328 then
  fX8_statement_b481 B T4
  else
  if y7 = 329 then
  q_bd (fX8_order 36 2 5 T4) (fun y108 T107 =>
  some (y108, T107))
  else
  if y7 = 330 then
  q_bd (fX8_order 37 2 5 T4) (fun y111 T110 =>
  some (y111, T110))
  else
  if y7 = 331 then
  q_bd (fX8_order 38 3 5 T4) (fun y114 T113 =>
  some (y114, T113))
  else
  if y7 = 332 then
  q_bd (fX8_order 39 2 5 T4) (fun y117 T116 =>
  some (y117, T116))
  else
  fX8_statement_b481 B T4
def stR (B : q_V → Option (Int64 × q_V)) (y3 y9 : Int32) (T7 : q_V) : Option (Int64 × q_V) :=
  if y9 = 2 then
  q_bd (fX12_named B y3 T7) (fun z12 T11 =>
  some (z12, T11))
  else
  if y9 = 3 then
  fX12_statement_b397 B T7
  else
  if y9 = 4 then
  fX12_statement_b397 B T7
  else
  if y9 = 5 then
  fX12_statement_b397 B T7
  else
  if y9 = 6 then
  fX12_statement_b397 B T7
  else
  if y9 = 7 then
  fX12_statement_b397 B T7
  else
  if y9 = 8 then
  fX12_statement_b397 B T7
  else
  if y9 = 9 then
  fX12_statement_b397 B T7
  else
  if y9 = 10 then
  fX12_statement_b397 B T7
  else
  if y9 = 11 then
  q_bd (fX12_variable T7) (fun z23 T22 =>
  some (z23, T22))
  else
  if y9 = 12 then
  q_bd (fX12_order 1 31 1 T7) (fun z26 T25 =>
  q_bd (fX12_risky z26 T25) (fun z28 T27 =>
  some (z28, T27)))
  else
  if y9 = 13 then
  q_bd (fX12_choice B T7) (fun z31 T30 =>
  some (z31, T30))
  else
  if y9 = 14 then
  fX12_statement_b397 B T7
  else
  if y9 = 15 then
  fX12_statement_b336 B y3 T7
  else
  if y9 = 16 then
  fX12_statement_b336 B y3 T7
  else
  if y9 = 17 then
  fX12_statement_b397 B T7
  else
  if y9 = 18 then
  fX12_statement_b397 B T7
  else
  if y9 = 19 then
  q_bd (fX12_away 39 8 T7) (fun z39 T38 =>
  some (z39, T38))
  else
  if y9 = 20 then
  q_bd (fX12_away 40 1048576 T7) (fun z42 T41 =>
  some (z42, T41))
  else
  if y9 = 21 then
  q_bd (fX12_answer T7) (fun z45 T44 =>
  some (z45, T44))
  else
  if y9 = 22 then
  q_bd (fX12_order 1 36 4 T7) (fun z48 T47 =>
  some (z48, T47))
  else
  if y9 = 23 then
  q_bd (fX12_hold B T7) (fun z51 T50 =>
  some (z51, T50))
  else
  if y9 = 24 then
  q_bd (fX12_trial B y3 T7) (fun z54 T53 =>
  some (z54, T53))
  else
  if y9 = 25 then
  fX12_statement_b397 B T7
  else
  if y9 = 26 then
  fX12_statement_b397 B T7
  else
  if y9 = 27 then
  fX12_statement_b397 B T7
  else
  if y9 = 28 then
  q_bd (fX12_later B y3 T7) (fun z60 T59 =>
  some (z60, T59))
  else
  if y9 = 29 then
  q_bd (fX12_order 0 37 0 T7) (fun z63 T62 =>
  some (z63, T62))
  else
  if y9 = 30 then
  fX12_statement_b397 B T7
  else
  if y9 = 31 then
  fX12_statement_b397 B T7
  else
  if y9 = 32 then
  fX12_statement_b397 B T7
  else
  if y9 = 33 then
  q_bd (fX12_order 2 32 5 T7) (fun z69 T68 =>
  some (z69, T68))
  else
  if y9 = 34 then
  q_bd (fX12_order 2 33 5 T7) (fun z72 T71 =>
  some (z72, T71))
  else
  if y9 = 35 then
  q_bd (fX12_order 3 34 5 T7) (fun z75 T74 =>
  some (z75, T74))
  else
  if y9 = 36 then
  q_bd (fX12_order 2 35 5 T7) (fun z78 T77 =>
  some (z78, T77))
  else
  if y9 = 37 then
  fX12_statement_b397 B T7
  else
  if y9 = 38 then
  fX12_statement_b397 B T7
  else
  if y9 = 39 then
  fX12_statement_b397 B T7
  else
  if y9 = 40 then
  fX12_statement_b397 B T7
  else
  if y9 = 41 then
  fX12_statement_b397 B T7
  else
  if y9 = 42 then
  fX12_statement_b397 B T7
  else
  if y9 = 43 then
  fX12_statement_b397 B T7
  else
  if y9 = 44 then
  q_bd (fX12_ensure B y3 T7) (fun z88 T87 =>
  some (z88, T87))
  else
  if y9 = 45 then
  fX12_statement_b336 B y3 T7
  else
  if y9 = 46 then
  fX12_statement_b397 B T7
  else
  if y9 = 47 then
  q_bd (fX12_choose B T7) (fun z93 T92 =>
  some (z93, T92))
  else
  fX12_statement_b397 B T7
section
variable {B : q_V → Option (Int32 × q_V)} {B' : q_V → Option (Int64 × q_V)} {y : Int32} {u : q_V}
set_option maxHeartbeats 200000 in
theorem stC_259 : stC B y 259 u = q_bd (fX8_named B y u) (fun y10 T9 => some (y10, T9)) := rfl
set_option maxHeartbeats 200000 in
theorem stR_2 : stR B' y 2 u = q_bd (fX12_named B' y u) (fun z12 T11 => some (z12, T11)) := rfl
set_option maxHeartbeats 200000 in
theorem stC_301 : stC B y 301 u = q_bd (fX8_variable u) (fun y54 T53 => some (y54, T53)) := rfl
set_option maxHeartbeats 200000 in
theorem stR_11 : stR B' y 11 u = q_bd (fX12_variable u) (fun z23 T22 => some (z23, T22)) := rfl
set_option maxHeartbeats 200000 in
theorem stC_302 : stC B y 302 u = q_bd (fX8_order 35 1 1 u) (fun y57 T56 => some (y57, T56)) := rfl
set_option maxHeartbeats 200000 in
theorem stR_12 : stR B' y 12 u = q_bd (fX12_order 1 31 1 u) (fun z26 T25 => q_bd (fX12_risky z26 T25) (fun z28 T27 => some (z28, T27))) := rfl
set_option maxHeartbeats 200000 in
theorem stC_303 : stC B y 303 u = q_bd (fX8_ifElse B u) (fun y60 T59 => some (y60, T59)) := rfl
set_option maxHeartbeats 200000 in
theorem stR_13 : stR B' y 13 u = q_bd (fX12_choice B' u) (fun z31 T30 => some (z31, T30)) := rfl
set_option maxHeartbeats 200000 in
theorem stC_305 : stC B y 305 u = fX8_statement_b451 B y u := rfl
set_option maxHeartbeats 200000 in
theorem stR_15 : stR B' y 15 u = fX12_statement_b336 B' y u := rfl
set_option maxHeartbeats 200000 in
theorem stC_306 : stC B y 306 u = fX8_statement_b451 B y u := rfl
set_option maxHeartbeats 200000 in
theorem stR_16 : stR B' y 16 u = fX12_statement_b336 B' y u := rfl
set_option maxHeartbeats 200000 in
theorem stC_309 : stC B y 309 u = q_bd (fX8_leaveOrAgain 40 u) (fun y68 T67 => some (y68, T67)) := rfl
set_option maxHeartbeats 200000 in
theorem stR_19 : stR B' y 19 u = q_bd (fX12_away 39 8 u) (fun z39 T38 => some (z39, T38)) := rfl
set_option maxHeartbeats 200000 in
theorem stC_310 : stC B y 310 u = q_bd (fX8_leaveOrAgain 41 u) (fun y71 T70 => some (y71, T70)) := rfl
set_option maxHeartbeats 200000 in
theorem stR_20 : stR B' y 20 u = q_bd (fX12_away 40 1048576 u) (fun z42 T41 => some (z42, T41)) := rfl
set_option maxHeartbeats 200000 in
theorem stC_311 : stC B y 311 u = q_bd (fX8_answer u) (fun y74 T73 => some (y74, T73)) := rfl
set_option maxHeartbeats 200000 in
theorem stR_21 : stR B' y 21 u = q_bd (fX12_answer u) (fun z45 T44 => some (z45, T44)) := rfl
set_option maxHeartbeats 200000 in
theorem stC_312 : stC B y 312 u = q_bd (fX8_order 43 1 4 u) (fun y77 T76 => some (y77, T76)) := rfl
set_option maxHeartbeats 200000 in
theorem stR_22 : stR B' y 22 u = q_bd (fX12_order 1 36 4 u) (fun z48 T47 => some (z48, T47)) := rfl
set_option maxHeartbeats 200000 in
theorem stC_313 : stC B y 313 u = q_bd (fX8_hold B u) (fun y80 T79 => some (y80, T79)) := rfl
set_option maxHeartbeats 200000 in
theorem stR_23 : stR B' y 23 u = q_bd (fX12_hold B' u) (fun z51 T50 => some (z51, T50)) := rfl
set_option maxHeartbeats 200000 in
theorem stC_314 : stC B y 314 u = q_bd (fX8_trial B y u) (fun y83 T82 => some (y83, T82)) := rfl
set_option maxHeartbeats 200000 in
theorem stR_24 : stR B' y 24 u = q_bd (fX12_trial B' y u) (fun z54 T53 => some (z54, T53)) := rfl
set_option maxHeartbeats 200000 in
theorem stC_318 : stC B y 318 u = q_bd (fX8_later B y u) (fun y89 T88 => some (y89, T88)) := rfl
set_option maxHeartbeats 200000 in
theorem stR_28 : stR B' y 28 u = q_bd (fX12_later B' y u) (fun z60 T59 => some (z60, T59)) := rfl
set_option maxHeartbeats 200000 in
theorem stC_319 : stC B y 319 u = q_bd (fX8_stop u) (fun y92 T91 => some (y92, T91)) := rfl
set_option maxHeartbeats 200000 in
theorem stR_29 : stR B' y 29 u = q_bd (fX12_order 0 37 0 u) (fun z63 T62 => some (z63, T62)) := rfl
set_option maxHeartbeats 200000 in
theorem stC_320 : stC B y 320 u = q_bd (fX8_ensure B y u) (fun y95 T94 => some (y95, T94)) := rfl
set_option maxHeartbeats 200000 in
theorem stR_44 : stR B' y 44 u = q_bd (fX12_ensure B' y u) (fun z88 T87 => some (z88, T87)) := rfl
set_option maxHeartbeats 200000 in
theorem stC_321 : stC B y 321 u = fX8_statement_b451 B y u := rfl
set_option maxHeartbeats 200000 in
theorem stR_45 : stR B' y 45 u = fX12_statement_b336 B' y u := rfl
set_option maxHeartbeats 200000 in
theorem stC_323 : stC B y 323 u = q_bd (fX8_choose B u) (fun y100 T99 => some (y100, T99)) := rfl
set_option maxHeartbeats 200000 in
theorem stR_47 : stR B' y 47 u = q_bd (fX12_choose B' u) (fun z93 T92 => some (z93, T92)) := rfl
set_option maxHeartbeats 200000 in
theorem stC_329 : stC B y 329 u = q_bd (fX8_order 36 2 5 u) (fun y108 T107 => some (y108, T107)) := rfl
set_option maxHeartbeats 200000 in
theorem stR_33 : stR B' y 33 u = q_bd (fX12_order 2 32 5 u) (fun z69 T68 => some (z69, T68)) := rfl
set_option maxHeartbeats 200000 in
theorem stC_330 : stC B y 330 u = q_bd (fX8_order 37 2 5 u) (fun y111 T110 => some (y111, T110)) := rfl
set_option maxHeartbeats 200000 in
theorem stR_34 : stR B' y 34 u = q_bd (fX12_order 2 33 5 u) (fun z72 T71 => some (z72, T71)) := rfl
set_option maxHeartbeats 200000 in
theorem stC_331 : stC B y 331 u = q_bd (fX8_order 38 3 5 u) (fun y114 T113 => some (y114, T113)) := rfl
set_option maxHeartbeats 200000 in
theorem stR_35 : stR B' y 35 u = q_bd (fX12_order 3 34 5 u) (fun z75 T74 => some (z75, T74)) := rfl
set_option maxHeartbeats 200000 in
theorem stC_332 : stC B y 332 u = q_bd (fX8_order 39 2 5 u) (fun y117 T116 => some (y117, T116)) := rfl
set_option maxHeartbeats 200000 in
theorem stR_36 : stR B' y 36 u = q_bd (fX12_order 2 35 5 u) (fun z78 T77 => some (z78, T77)) := rfl
set_option maxHeartbeats 200000 in
theorem stC_x : ∀ c ∈ ([261, 262, 260, 256, 257, 258, 40, 41, 123, 125, 44, 59, 58, 61, 60, 43, 45, 42, 47, 37, 300, 304, 307, 308, 315, 316, 317, 322, 324, 325, 326, 327, 328, 333, 334, 335, 336, 337, 338, 339] : List Int32), stC B y c u = fX8_statement_b481 B u := by
  intro c h
  simp only [List.mem_cons, List.not_mem_nil, or_false] at h
  unfold stC
  rcases h with rfl | rfl | rfl | rfl | rfl | rfl | rfl | rfl | rfl | rfl | rfl | rfl | rfl | rfl | rfl | rfl | rfl | rfl | rfl | rfl | rfl | rfl | rfl | rfl | rfl | rfl | rfl | rfl | rfl | rfl | rfl | rfl | rfl | rfl | rfl | rfl | rfl | rfl | rfl | rfl <;> rfl
set_option maxHeartbeats 200000 in
theorem stR_x : ∀ c ∈ ([0, 1, 3, 301, 302, 303, 140, 141, 223, 225, 144, 159, 158, 161, 160, 143, 145, 142, 147, 137, 10, 14, 17, 18, 25, 26, 27, 46, 48, 49, 30, 31, 32, 37, 38, 39, 40, 41, 42, 43] : List Int32), stR B' y c u = fX12_statement_b397 B' u := by
  intro c h
  simp only [List.mem_cons, List.not_mem_nil, or_false] at h
  unfold stR
  rcases h with rfl | rfl | rfl | rfl | rfl | rfl | rfl | rfl | rfl | rfl | rfl | rfl | rfl | rfl | rfl | rfl | rfl | rfl | rfl | rfl | rfl | rfl | rfl | rfl | rfl | rfl | rfl | rfl | rfl | rfl | rfl | rfl | rfl | rfl | rfl | rfl | rfl | rfl | rfl | rfl <;> rfl
set_option maxHeartbeats 200000 in
theorem st_V : ∀ c ∈ tk_V, c ∈ ([259, 301, 302, 303, 305, 306, 309, 310, 311, 312, 313, 314, 318, 319, 320, 321, 323, 329, 330, 331, 332] : List Int32) ∨ (c ∈ ([261, 262, 260, 256, 257, 258, 40, 41, 123, 125, 44, 59, 58, 61, 60, 43, 45, 42, 47, 37, 300, 304, 307, 308, 315, 316, 317, 322, 324, 325, 326, 327, 328, 333, 334, 335, 336, 337, 338, 339] : List Int32) ∧ tk_m c ∈ ([0, 1, 3, 301, 302, 303, 140, 141, 223, 225, 144, 159, 158, 161, 160, 143, 145, 142, 147, 137, 10, 14, 17, 18, 25, 26, 27, 46, 48, 49, 30, 31, 32, 37, 38, 39, 40, 41, 42, 43] : List Int32)) := by decide +kernel
end
