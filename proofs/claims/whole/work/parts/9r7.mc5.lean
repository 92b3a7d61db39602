def pB (M : kp_S) (t s : Nat) : kp_S := kp_sB M 405 (vp_updL (kp_B M 405) t (pkl s (kp_sl.getD s 0) 0 0))
def kx (M : kp_S) : Prop := kp_K M 403 < 13 ∧ kp_R M 2403 403 = some 405 ∧ 13 ≤ kp_K M 405 ∧ kp_N M 405 = 50
set_option maxHeartbeats 200000 in
theorem iq_pk {p : List (Nat × Nat)} {n a s t : Nat} {M S : kp_S} {F : kp_S → Prop} {x : Int32} (ex : x = nI t) (hs : s < 42) (ht : t < 50) (I : iq p n M S) (h : (403, a) ∈ p) (k : kx M) (kk : ∀ S', iq p n (pB M t s) S' → kx (pB M t s) → F S') : ∃ b : Nat, kp_R S 2403 a = some b ∧ wX12_packed s S (fun z T => vp_in x (kp_N T b) ∧ ∀ T' : kp_S, T' = kp_sB T b (vp_updL (kp_B T b) (x.toNatClampNeg) z) → F T') := by
  obtain ⟨k1, k2, k3, k4⟩ := k
  obtain ⟨r1, I1⟩ := iq_rd I h k1 k2
  have ll := iq_len I1 List.mem_cons_self k3
  subst ex
  refine ⟨_, r1, w_pk hs ⟨by rw [ll.1, k4]; exact ni_nin ht (by omega), fun T eT => ?_⟩⟩
  rw [ni_clamp (by omega), ll.2.2.1] at eT
  have I2 := iq_B (r := vp_updL (kp_B M 405) t (pkl s (kp_sl.getD s 0) 0 0)) I1 List.mem_cons_self
  rw [← eT] at I2
  exact kk T (iq_sub I2 (fun _ h => List.mem_cons_of_mem _ h)) ⟨k1, k2, k3, k4⟩
def mr0 : kp_S := kp_new mc21 403 12
def mr1 : kp_S := aR (kp_sI (aR (aR (aR (aR (aR mr0 404 14 3000 2401 403) 405 15 50 2403 403) 406 14 3002 2404 403) 407 14 3002 2405 403) 408 15 3002 2406 403) 2409 403 (-1)) 409 14 4000 2414 403
def mr2 : kp_S := aR (aR (aR (aR (aR (aR (aR (aR mr1 410 14 4000 2415 403) 411 14 4000 2416 403) 412 14 640 2418 403) 413 14 640 2419 403) 414 14 640 2420 403) 415 14 640 2421 403) 416 14 640 2422 403) 417 14 640 2423 403
def mr3 : kp_S := aR (aR (aR (aR (aR (aR (aR (aR mr2 418 15 320 2427 403) 419 14 320 2428 403) 420 14 320 2429 403) 421 14 320 2430 403) 422 14 320 2431 403) 423 14 320 2432 403) 424 15 1600 2434 403) 425 14 1600 2435 403
def mr4 : kp_S := aR (aR (aR (aR (aR (aR (aR (aR mr3 426 14 1600 2436 403) 427 14 1600 2437 403) 428 15 1600 2439 403) 429 14 1600 2440 403) 430 15 20 2443 403) 431 14 20 2444 403) 432 14 4000 2448 403) 433 14 4000 2449 403
def mr5 : kp_S := aR (aR (aR (aR (aR (aR (aR (aR mr4 434 14 4000 2450 403) 435 14 640 2451 403) 436 14 640 2452 403) 437 14 640 2453 403) 438 14 640 2454 403) 439 14 640 2455 403) 440 14 640 2456 403) 441 14 30 2457 403
def mr6 : kp_S := aR (aR (aR (aR (aR (aR (aR (aR mr5 442 14 30 2458 403) 443 14 30 2459 403) 444 14 30 2460 403) 445 14 30 2461 403) 446 14 6 2463 403) 447 16 12 2464 403) 448 14 6 2465 403) 449 14 7 2466 403
def mr7 : kp_S := aR (aR (aR (aR (aR (aR (aR (aR mr6 450 14 8 2467 403) 451 14 300 2468 403) 452 14 300 2469 403) 453 14 240 2488 403) 454 14 240 2489 403) 455 14 240 2490 403) 456 14 240 2491 403) 457 14 240 2492 403
def mr8 : kp_S := aR (aR (aR (aR (aR (aR (aR (aR mr7 458 15 240 2493 403) 459 15 240 2494 403) 460 14 240 2495 403) 461 14 240 2496 403) 462 14 240 2497 403) 463 14 240 2498 403) 464 14 240 2499 403) 465 14 240 2500 403
def mr9 : kp_S := aR (aR (aR (aR (aR (aR (aR (aR mr8 466 14 13 2502 403) 467 14 13 2503 403) 468 14 13 2504 403) 469 14 13 2505 403) 470 14 13 2506 403) 471 14 520 2507 403) 472 14 520 2508 403) 473 14 312 2509 403
def mr10 : kp_S := pB (pB (pB (pB (kp_sI (kp_sI (aR mr9 474 14 4000 2515 403) 2517 403 (-1)) 2522 403 (-1)) 10 2) 11 3) 12 4) 13 5
def mr11 : kp_S := pB (pB (pB (pB (pB mr10 14 6) 15 7) 16 8) 17 9) 18 10
def mr12 : kp_S := pB (pB (pB (pB (pB mr11 19 11) 20 12) 21 13) 22 14) 23 15
def mr13 : kp_S := pB (pB (pB (pB (pB mr12 24 16) 25 17) 26 18) 27 19) 28 20
def mr14 : kp_S := pB (pB (pB (pB (pB mr13 29 21) 30 22) 31 23) 32 24) 33 25
def mr15 : kp_S := pB (pB (pB (pB (pB mr14 34 26) 35 27) 36 28) 37 29) 38 30
def mr16 : kp_S := pB (pB (pB (pB (pB mr15 39 31) 40 32) 41 33) 42 34) 43 35
def mr17 : kp_S := pB (pB (pB (pB (pB mr16 44 36) 45 37) 46 38) 47 39) 48 40
def mr18 : kp_S := pB mr17 49 41
section
variable {p : List (Nat × Nat)} {a0 : Nat} {S : kp_S} {post : kp_S → Prop}
set_option maxHeartbeats 200000 in
theorem k1__init_b1145 (I : iq p 475 mr17 S) (h : (403, a0) ∈ p) (k : kx mr17) (kk : ∀ S', iq p 475 mr18 S' → post S') : wX12_init_b1145 a0 S post := by
  unfold wX12_init_b1145
  refine iq_pk (s := 41) (t := 49) rfl (by decide) (by decide) I h k (fun S I k => ?_)
  exact kk _ I
set_option maxHeartbeats 200000 in
theorem k1__init_b1080 (I : iq p 475 mr16 S) (h : (403, a0) ∈ p) (k : kx mr16) (kk : ∀ S', iq p 475 mr18 S' → post S') : wX12_init_b1080 a0 S post := by
  unfold wX12_init_b1080
  refine iq_pk (s := 36) (t := 44) rfl (by decide) (by decide) I h k (fun S I k => ?_)
  refine iq_pk (s := 37) (t := 45) rfl (by decide) (by decide) I h k (fun S I k => ?_)
  refine iq_pk (s := 38) (t := 46) rfl (by decide) (by decide) I h k (fun S I k => ?_)
  refine iq_pk (s := 39) (t := 47) rfl (by decide) (by decide) I h k (fun S I k => ?_)
  refine iq_pk (s := 40) (t := 48) rfl (by decide) (by decide) I h k (fun S I k => ?_)
  exact k1__init_b1145 I h k kk
set_option maxHeartbeats 200000 in
theorem k1__init_b1015 (I : iq p 475 mr15 S) (h : (403, a0) ∈ p) (k : kx mr15) (kk : ∀ S', iq p 475 mr18 S' → post S') : wX12_init_b1015 a0 S post := by
  unfold wX12_init_b1015
  refine iq_pk (s := 31) (t := 39) rfl (by decide) (by decide) I h k (fun S I k => ?_)
  refine iq_pk (s := 32) (t := 40) rfl (by decide) (by decide) I h k (fun S I k => ?_)
  refine iq_pk (s := 33) (t := 41) rfl (by decide) (by decide) I h k (fun S I k => ?_)
  refine iq_pk (s := 34) (t := 42) rfl (by decide) (by decide) I h k (fun S I k => ?_)
  refine iq_pk (s := 35) (t := 43) rfl (by decide) (by decide) I h k (fun S I k => ?_)
  exact k1__init_b1080 I h k kk
set_option maxHeartbeats 200000 in
theorem k1__init_b950 (I : iq p 475 mr14 S) (h : (403, a0) ∈ p) (k : kx mr14) (kk : ∀ S', iq p 475 mr18 S' → post S') : wX12_init_b950 a0 S post := by
  unfold wX12_init_b950
  refine iq_pk (s := 26) (t := 34) rfl (by decide) (by decide) I h k (fun S I k => ?_)
  refine iq_pk (s := 27) (t := 35) rfl (by decide) (by decide) I h k (fun S I k => ?_)
  refine iq_pk (s := 28) (t := 36) rfl (by decide) (by decide) I h k (fun S I k => ?_)
  refine iq_pk (s := 29) (t := 37) rfl (by decide) (by decide) I h k (fun S I k => ?_)
  refine iq_pk (s := 30) (t := 38) rfl (by decide) (by decide) I h k (fun S I k => ?_)
  exact k1__init_b1015 I h k kk
set_option maxHeartbeats 200000 in
theorem k1__init_b885 (I : iq p 475 mr13 S) (h : (403, a0) ∈ p) (k : kx mr13) (kk : ∀ S', iq p 475 mr18 S' → post S') : wX12_init_b885 a0 S post := by
  unfold wX12_init_b885
  refine iq_pk (s := 21) (t := 29) rfl (by decide) (by decide) I h k (fun S I k => ?_)
  refine iq_pk (s := 22) (t := 30) rfl (by decide) (by decide) I h k (fun S I k => ?_)
  refine iq_pk (s := 23) (t := 31) rfl (by decide) (by decide) I h k (fun S I k => ?_)
  refine iq_pk (s := 24) (t := 32) rfl (by decide) (by decide) I h k (fun S I k => ?_)
  refine iq_pk (s := 25) (t := 33) rfl (by decide) (by decide) I h k (fun S I k => ?_)
  exact k1__init_b950 I h k kk
set_option maxHeartbeats 200000 in
theorem k1__init_b820 (I : iq p 475 mr12 S) (h : (403, a0) ∈ p) (k : kx mr12) (kk : ∀ S', iq p 475 mr18 S' → post S') : wX12_init_b820 a0 S post := by
  unfold wX12_init_b820
  refine iq_pk (s := 16) (t := 24) rfl (by decide) (by decide) I h k (fun S I k => ?_)
  refine iq_pk (s := 17) (t := 25) rfl (by decide) (by decide) I h k (fun S I k => ?_)
  refine iq_pk (s := 18) (t := 26) rfl (by decide) (by decide) I h k (fun S I k => ?_)
  refine iq_pk (s := 19) (t := 27) rfl (by decide) (by decide) I h k (fun S I k => ?_)
  refine iq_pk (s := 20) (t := 28) rfl (by decide) (by decide) I h k (fun S I k => ?_)
  exact k1__init_b885 I h k kk
set_option maxHeartbeats 200000 in
theorem k1__init_b755 (I : iq p 475 mr11 S) (h : (403, a0) ∈ p) (k : kx mr11) (kk : ∀ S', iq p 475 mr18 S' → post S') : wX12_init_b755 a0 S post := by
  unfold wX12_init_b755
  refine iq_pk (s := 11) (t := 19) rfl (by decide) (by decide) I h k (fun S I k => ?_)
  refine iq_pk (s := 12) (t := 20) rfl (by decide) (by decide) I h k (fun S I k => ?_)
  refine iq_pk (s := 13) (t := 21) rfl (by decide) (by decide) I h k (fun S I k => ?_)
  refine iq_pk (s := 14) (t := 22) rfl (by decide) (by decide) I h k (fun S I k => ?_)
  refine iq_pk (s := 15) (t := 23) rfl (by decide) (by decide) I h k (fun S I k => ?_)
  exact k1__init_b820 I h k kk
set_option maxHeartbeats 200000 in
theorem k1__init_b690 (I : iq p 475 mr10 S) (h : (403, a0) ∈ p) (k : kx mr10) (kk : ∀ S', iq p 475 mr18 S' → post S') : wX12_init_b690 a0 S post := by
  unfold wX12_init_b690
  refine iq_pk (s := 6) (t := 14) rfl (by decide) (by decide) I h k (fun S I k => ?_)
  refine iq_pk (s := 7) (t := 15) rfl (by decide) (by decide) I h k (fun S I k => ?_)
  refine iq_pk (s := 8) (t := 16) rfl (by decide) (by decide) I h k (fun S I k => ?_)
  refine iq_pk (s := 9) (t := 17) rfl (by decide) (by decide) I h k (fun S I k => ?_)
  refine iq_pk (s := 10) (t := 18) rfl (by decide) (by decide) I h k (fun S I k => ?_)
  exact k1__init_b755 I h k kk
set_option maxHeartbeats 200000 in
theorem k1__init_b621 (I : iq p 474 mr9 S) (h : (403, a0) ∈ p) (kk : ∀ S', iq p 475 mr18 S' → post S') : wX12_init_b621 a0 S post := by
  unfold wX12_init_b621
  refine iq_w I h (by decide) (fun S I => ?_)
  intro T e
  have I := iq_I (k := 2517) (v := (-1)) I h
  rw [← e] at I
  clear e
  intro T e
  have I := iq_I (k := 2522) (v := (-1)) I h
  rw [← e] at I
  clear e
  have I : iq p 475 (kp_sI (kp_sI (aR mr9 474 14 4000 2515 403) 2517 403 (-1)) 2522 403 (-1)) _ := I
  have k : kx (kp_sI (kp_sI (aR mr9 474 14 4000 2515 403) 2517 403 (-1)) 2522 403 (-1)) := ⟨by decide +kernel, by decide +kernel, by decide +kernel, by decide +kernel⟩
  refine iq_pk (s := 2) (t := 10) rfl (by decide) (by decide) I h k (fun S I k => ?_)
  refine iq_pk (s := 3) (t := 11) rfl (by decide) (by decide) I h k (fun S I k => ?_)
  refine iq_pk (s := 4) (t := 12) rfl (by decide) (by decide) I h k (fun S I k => ?_)
  refine iq_pk (s := 5) (t := 13) rfl (by decide) (by decide) I h k (fun S I k => ?_)
  exact k1__init_b690 I h k kk
set_option maxHeartbeats 200000 in
theorem k1__init_b554 (I : iq p 466 mr8 S) (h : (403, a0) ∈ p) (kk : ∀ S', iq p 475 mr18 S' → post S') : wX12_init_b554 a0 S post := by
  unfold wX12_init_b554
  refine iq_w I h (by decide) (fun S I => ?_)
  refine iq_w I h (by decide) (fun S I => ?_)
  refine iq_w I h (by decide) (fun S I => ?_)
  refine iq_w I h (by decide) (fun S I => ?_)
  refine iq_w I h (by decide) (fun S I => ?_)
  refine iq_w I h (by decide) (fun S I => ?_)
  refine iq_w I h (by decide) (fun S I => ?_)
  refine iq_w I h (by decide) (fun S I => ?_)
  exact k1__init_b621 I h kk
set_option maxHeartbeats 200000 in
theorem k1__init_b482 (I : iq p 458 mr7 S) (h : (403, a0) ∈ p) (kk : ∀ S', iq p 475 mr18 S' → post S') : wX12_init_b482 a0 S post := by
  unfold wX12_init_b482
  refine iq_w I h (by decide) (fun S I => ?_)
  refine iq_w I h (by decide) (fun S I => ?_)
  refine iq_w I h (by decide) (fun S I => ?_)
  refine iq_w I h (by decide) (fun S I => ?_)
  refine iq_w I h (by decide) (fun S I => ?_)
  refine iq_w I h (by decide) (fun S I => ?_)
  refine iq_w I h (by decide) (fun S I => ?_)
  refine iq_w I h (by decide) (fun S I => ?_)
  exact k1__init_b554 I h kk
set_option maxHeartbeats 200000 in
theorem k1__init_b411 (I : iq p 450 mr6 S) (h : (403, a0) ∈ p) (kk : ∀ S', iq p 475 mr18 S' → post S') : wX12_init_b411 a0 S post := by
  unfold wX12_init_b411
  refine iq_w I h (by decide) (fun S I => ?_)
  refine iq_w I h (by decide) (fun S I => ?_)
  refine iq_w I h (by decide) (fun S I => ?_)
  refine iq_w I h (by decide) (fun S I => ?_)
  refine iq_w I h (by decide) (fun S I => ?_)
  refine iq_w I h (by decide) (fun S I => ?_)
  refine iq_w I h (by decide) (fun S I => ?_)
  refine iq_w I h (by decide) (fun S I => ?_)
  exact k1__init_b482 I h kk
set_option maxHeartbeats 200000 in
theorem k1__init_b347 (I : iq p 442 mr5 S) (h : (403, a0) ∈ p) (kk : ∀ S', iq p 475 mr18 S' → post S') : wX12_init_b347 a0 S post := by
  unfold wX12_init_b347
  refine iq_w I h (by decide) (fun S I => ?_)
  refine iq_w I h (by decide) (fun S I => ?_)
  refine iq_w I h (by decide) (fun S I => ?_)
  refine iq_w I h (by decide) (fun S I => ?_)
  refine iq_w I h (by decide) (fun S I => ?_)
  refine iq_w I h (by decide) (fun S I => ?_)
  refine iq_w I h (by decide) (fun S I => ?_)
  refine iq_w I h (by decide) (fun S I => ?_)
  exact k1__init_b411 I h kk
set_option maxHeartbeats 200000 in
theorem k1__init_b276 (I : iq p 434 mr4 S) (h : (403, a0) ∈ p) (kk : ∀ S', iq p 475 mr18 S' → post S') : wX12_init_b276 a0 S post := by
  unfold wX12_init_b276
  refine iq_w I h (by decide) (fun S I => ?_)
  refine iq_w I h (by decide) (fun S I => ?_)
  refine iq_w I h (by decide) (fun S I => ?_)
  refine iq_w I h (by decide) (fun S I => ?_)
  refine iq_w I h (by decide) (fun S I => ?_)
  refine iq_w I h (by decide) (fun S I => ?_)
  refine iq_w I h (by decide) (fun S I => ?_)
  refine iq_w I h (by decide) (fun S I => ?_)
  exact k1__init_b347 I h kk
set_option maxHeartbeats 200000 in
theorem k1__init_b206 (I : iq p 426 mr3 S) (h : (403, a0) ∈ p) (kk : ∀ S', iq p 475 mr18 S' → post S') : wX12_init_b206 a0 S post := by
  unfold wX12_init_b206
  refine iq_w I h (by decide) (fun S I => ?_)
  refine iq_w I h (by decide) (fun S I => ?_)
  refine iq_w I h (by decide) (fun S I => ?_)
  refine iq_w I h (by decide) (fun S I => ?_)
  refine iq_w I h (by decide) (fun S I => ?_)
  refine iq_w I h (by decide) (fun S I => ?_)
  refine iq_w I h (by decide) (fun S I => ?_)
  refine iq_w I h (by decide) (fun S I => ?_)
  exact k1__init_b276 I h kk
set_option maxHeartbeats 200000 in
theorem k1__init_b134 (I : iq p 418 mr2 S) (h : (403, a0) ∈ p) (kk : ∀ S', iq p 475 mr18 S' → post S') : wX12_init_b134 a0 S post := by
  unfold wX12_init_b134
  refine iq_w I h (by decide) (fun S I => ?_)
  refine iq_w I h (by decide) (fun S I => ?_)
  refine iq_w I h (by decide) (fun S I => ?_)
  refine iq_w I h (by decide) (fun S I => ?_)
  refine iq_w I h (by decide) (fun S I => ?_)
  refine iq_w I h (by decide) (fun S I => ?_)
  refine iq_w I h (by decide) (fun S I => ?_)
  refine iq_w I h (by decide) (fun S I => ?_)
  exact k1__init_b206 I h kk
set_option maxHeartbeats 200000 in
theorem k1__init_b62 (I : iq p 410 mr1 S) (h : (403, a0) ∈ p) (kk : ∀ S', iq p 475 mr18 S' → post S') : wX12_init_b62 a0 S post := by
  unfold wX12_init_b62
  refine iq_w I h (by decide) (fun S I => ?_)
  refine iq_w I h (by decide) (fun S I => ?_)
  refine iq_w I h (by decide) (fun S I => ?_)
  refine iq_w I h (by decide) (fun S I => ?_)
  refine iq_w I h (by decide) (fun S I => ?_)
  refine iq_w I h (by decide) (fun S I => ?_)
  refine iq_w I h (by decide) (fun S I => ?_)
  refine iq_w I h (by decide) (fun S I => ?_)
  exact k1__init_b134 I h kk
set_option maxHeartbeats 200000 in
theorem k1__init (I : iq p 404 mr0 S) (h : (403, a0) ∈ p) (kk : ∀ S', iq p 475 mr18 S' → post S') : wX12_init a0 S post := by
  unfold wX12_init
  refine iq_w I h (by decide) (fun S I => ?_)
  refine iq_w I h (by decide) (fun S I => ?_)
  refine iq_w I h (by decide) (fun S I => ?_)
  refine iq_w I h (by decide) (fun S I => ?_)
  refine iq_w I h (by decide) (fun S I => ?_)
  intro T e
  have I := iq_I (k := 2409) (v := (-1)) I h
  rw [← e] at I
  clear e
  refine iq_w I h (by decide) (fun S I => ?_)
  exact k1__init_b62 I h kk
end
