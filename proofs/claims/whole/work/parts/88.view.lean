/-! THE VIEW: what the methods read and write, without addresses. -/
abbrev q_V : Type := (Nat → Int32) × (Nat → Int64) × (Nat → Nat → Int32) × (Nat → Nat → Int64) × (Nat → Nat → Int32) × (Nat → Nat → Nat → Int32) × (Nat → Nat)
def q_i (v : q_V) : Nat → Int32 := v.1
def q_j (v : q_V) : Nat → Int64 := v.2.1
def q_a (v : q_V) : Nat → Nat → Int32 := v.2.2.1
def q_b (v : q_V) : Nat → Nat → Int64 := v.2.2.2.1
def q_f (v : q_V) : Nat → Nat → Int32 := v.2.2.2.2.1
def q_c (v : q_V) : Nat → Nat → Nat → Int32 := v.2.2.2.2.2.1
def q_n (v : q_V) : Nat → Nat := v.2.2.2.2.2.2
def q_si (v : q_V) (k : Nat) (x : Int32) : q_V := (fun j => if j = k then x else q_i v j, q_j v, q_a v, q_b v, q_f v, q_c v, q_n v)
def q_sj (v : q_V) (k : Nat) (x : Int64) : q_V := (q_i v, fun j => if j = k then x else q_j v j, q_a v, q_b v, q_f v, q_c v, q_n v)
def q_sa (v : q_V) (k : Nat) (x : Nat → Int32) : q_V := (q_i v, q_j v, fun j => if j = k then x else q_a v j, q_b v, q_f v, q_c v, q_n v)
def q_sb (v : q_V) (k : Nat) (x : Nat → Int64) : q_V := (q_i v, q_j v, q_a v, fun j => if j = k then x else q_b v j, q_f v, q_c v, q_n v)
def q_sf (v : q_V) (k n : Nat) (x : Int32) : q_V := (q_i v, q_j v, q_a v, q_b v, fun j m => if j = k ∧ m = n then x else q_f v j m, q_c v, q_n v)
def q_sc (v : q_V) (k n : Nat) (x : Nat → Int32) : q_V := (q_i v, q_j v, q_a v, q_b v, q_f v, fun j m => if j = k ∧ m = n then x else q_c v j m, q_n v)
theorem q_i_si {v : q_V} {k : Nat} {x : Int32} {j : Nat} : q_i (q_si v k x) j = if j = k then x else q_i v j := rfl
theorem q_j_si {v : q_V} {k : Nat} {x : Int32} : q_j (q_si v k x) = q_j v := rfl
theorem q_a_si {v : q_V} {k : Nat} {x : Int32} : q_a (q_si v k x) = q_a v := rfl
theorem q_b_si {v : q_V} {k : Nat} {x : Int32} : q_b (q_si v k x) = q_b v := rfl
theorem q_f_si {v : q_V} {k : Nat} {x : Int32} : q_f (q_si v k x) = q_f v := rfl
theorem q_c_si {v : q_V} {k : Nat} {x : Int32} : q_c (q_si v k x) = q_c v := rfl
theorem q_n_si {v : q_V} {k : Nat} {x : Int32} : q_n (q_si v k x) = q_n v := rfl
theorem q_i_sj {v : q_V} {k : Nat} {x : Int64} : q_i (q_sj v k x) = q_i v := rfl
theorem q_j_sj {v : q_V} {k : Nat} {x : Int64} {j : Nat} : q_j (q_sj v k x) j = if j = k then x else q_j v j := rfl
theorem q_a_sj {v : q_V} {k : Nat} {x : Int64} : q_a (q_sj v k x) = q_a v := rfl
theorem q_b_sj {v : q_V} {k : Nat} {x : Int64} : q_b (q_sj v k x) = q_b v := rfl
theorem q_f_sj {v : q_V} {k : Nat} {x : Int64} : q_f (q_sj v k x) = q_f v := rfl
theorem q_c_sj {v : q_V} {k : Nat} {x : Int64} : q_c (q_sj v k x) = q_c v := rfl
theorem q_n_sj {v : q_V} {k : Nat} {x : Int64} : q_n (q_sj v k x) = q_n v := rfl
theorem q_i_sa {v : q_V} {k : Nat} {x : Nat → Int32} : q_i (q_sa v k x) = q_i v := rfl
theorem q_j_sa {v : q_V} {k : Nat} {x : Nat → Int32} : q_j (q_sa v k x) = q_j v := rfl
theorem q_a_sa {v : q_V} {k : Nat} {x : Nat → Int32} {j : Nat} : q_a (q_sa v k x) j = if j = k then x else q_a v j := rfl
theorem q_b_sa {v : q_V} {k : Nat} {x : Nat → Int32} : q_b (q_sa v k x) = q_b v := rfl
theorem q_f_sa {v : q_V} {k : Nat} {x : Nat → Int32} : q_f (q_sa v k x) = q_f v := rfl
theorem q_c_sa {v : q_V} {k : Nat} {x : Nat → Int32} : q_c (q_sa v k x) = q_c v := rfl
theorem q_n_sa {v : q_V} {k : Nat} {x : Nat → Int32} : q_n (q_sa v k x) = q_n v := rfl
theorem q_i_sb {v : q_V} {k : Nat} {x : Nat → Int64} : q_i (q_sb v k x) = q_i v := rfl
theorem q_j_sb {v : q_V} {k : Nat} {x : Nat → Int64} : q_j (q_sb v k x) = q_j v := rfl
theorem q_a_sb {v : q_V} {k : Nat} {x : Nat → Int64} : q_a (q_sb v k x) = q_a v := rfl
theorem q_b_sb {v : q_V} {k : Nat} {x : Nat → Int64} {j : Nat} : q_b (q_sb v k x) j = if j = k then x else q_b v j := rfl
theorem q_f_sb {v : q_V} {k : Nat} {x : Nat → Int64} : q_f (q_sb v k x) = q_f v := rfl
theorem q_c_sb {v : q_V} {k : Nat} {x : Nat → Int64} : q_c (q_sb v k x) = q_c v := rfl
theorem q_n_sb {v : q_V} {k : Nat} {x : Nat → Int64} : q_n (q_sb v k x) = q_n v := rfl
theorem q_i_sf {v : q_V} {k : Nat} {n : Nat} {x : Int32} : q_i (q_sf v k n x) = q_i v := rfl
theorem q_j_sf {v : q_V} {k : Nat} {n : Nat} {x : Int32} : q_j (q_sf v k n x) = q_j v := rfl
theorem q_a_sf {v : q_V} {k : Nat} {n : Nat} {x : Int32} : q_a (q_sf v k n x) = q_a v := rfl
theorem q_b_sf {v : q_V} {k : Nat} {n : Nat} {x : Int32} : q_b (q_sf v k n x) = q_b v := rfl
theorem q_f_sf {v : q_V} {k : Nat} {n : Nat} {x : Int32} {j m : Nat} : q_f (q_sf v k n x) j m = if j = k ∧ m = n then x else q_f v j m := rfl
theorem q_c_sf {v : q_V} {k : Nat} {n : Nat} {x : Int32} : q_c (q_sf v k n x) = q_c v := rfl
theorem q_n_sf {v : q_V} {k : Nat} {n : Nat} {x : Int32} : q_n (q_sf v k n x) = q_n v := rfl
theorem q_i_sc {v : q_V} {k : Nat} {n : Nat} {x : Nat → Int32} : q_i (q_sc v k n x) = q_i v := rfl
theorem q_j_sc {v : q_V} {k : Nat} {n : Nat} {x : Nat → Int32} : q_j (q_sc v k n x) = q_j v := rfl
theorem q_a_sc {v : q_V} {k : Nat} {n : Nat} {x : Nat → Int32} : q_a (q_sc v k n x) = q_a v := rfl
theorem q_b_sc {v : q_V} {k : Nat} {n : Nat} {x : Nat → Int32} : q_b (q_sc v k n x) = q_b v := rfl
theorem q_f_sc {v : q_V} {k : Nat} {n : Nat} {x : Nat → Int32} : q_f (q_sc v k n x) = q_f v := rfl
theorem q_c_sc {v : q_V} {k : Nat} {n : Nat} {x : Nat → Int32} {j m : Nat} : q_c (q_sc v k n x) j m = if j = k ∧ m = n then x else q_c v j m := rfl
theorem q_n_sc {v : q_V} {k : Nat} {n : Nat} {x : Nat → Int32} : q_n (q_sc v k n x) = q_n v := rfl
abbrev q_G : Type := Nat → Nat → Nat → Nat
def q_w (g : q_G) (S : kp_S) : q_V := (fun k => kp_I S k (g 0 (k / 200) 0), fun k => kp_J S k (g 0 (k / 200) 0), fun k => kp_A S (g 1 k 0), fun k => kp_B S (g 1 k 0), fun k n => kp_I S k (g 2 (k / 200) n), fun k n => kp_A S (g 3 k n), fun k => kp_N S (g 1 k 0))
def q_inj (g : q_G) : Prop := ∀ t k n t' k' n', g t k n = g t' k' n' → t = t' ∧ k = k' ∧ n = n'
/-- which things a group of methods may change: 0 machine, 1 reader, 2 reference, 3 face -/
def q_oc (gr t k : Nat) : Bool := match gr with
  | 0 => (t == 0 && (k == 1 || k == 4 || k == 7)) || (t == 1 && (k / 200 == 1 || k / 200 == 4 || k / 200 == 7)) || t == 2 || t == 3
  | 1 => (t == 0 && (k == 0 || k == 2 || k == 5 || k == 8 || k == 9)) || (t == 1 && (k / 200 == 0 || k / 200 == 2 || k / 200 == 5 || k / 200 == 8 || k / 200 == 9))
  | 2 => (t == 0 && k == 12) || (t == 1 && k / 200 == 12)
  | _ => (t == 0 && k == 11) || (t == 1 && k == 2200)
def q_own (gr : Nat) (g : q_G) (a : Nat) : Prop := ∃ t k n, q_oc gr t k = true ∧ a = g t k n
def q_ptr : List (Nat × Nat × Nat × Nat) := [(0, 1, 0, 0), (2, 1, 2, 0), (200, 1, 200, 0), (201, 1, 201, 0), (202, 1, 202, 0), (203, 1, 203, 0), (204, 1, 204, 0), (400, 0, 9, 0), (401, 0, 5, 0), (800, 0, 1, 0), (801, 0, 7, 0), (802, 1, 802, 0), (804, 1, 804, 0), (806, 1, 806, 0), (808, 2, 10, 168), (1000, 1, 1000, 0), (1001, 1, 1001, 0), (1003, 1, 1003, 0), (1004, 1, 1004, 0), (1007, 1, 1007, 0), (1008, 1, 1008, 0), (1400, 1, 1400, 0), (1401, 1, 1401, 0), (1402, 1, 1402, 0), (1600, 0, 9, 0), (1601, 0, 5, 0), (1602, 0, 2, 0), (1800, 1, 2200, 0), (1801, 1, 1801, 0), (2200, 1, 2200, 0), (2201, 0, 8, 0), (2202, 0, 1, 0), (2203, 0, 7, 0), (2204, 0, 4, 0), (2401, 1, 2401, 0), (2403, 1, 2403, 0), (2404, 1, 2404, 0), (2405, 1, 2405, 0), (2406, 1, 2406, 0), (2414, 1, 2414, 0), (2415, 1, 2415, 0), (2416, 1, 2416, 0), (2418, 1, 2418, 0), (2419, 1, 2419, 0), (2420, 1, 2420, 0), (2421, 1, 2421, 0), (2422, 1, 2422, 0), (2423, 1, 2423, 0), (2427, 1, 2427, 0), (2428, 1, 2428, 0), (2429, 1, 2429, 0), (2430, 1, 2430, 0), (2431, 1, 2431, 0), (2432, 1, 2432, 0), (2434, 1, 2434, 0), (2435, 1, 2435, 0), (2436, 1, 2436, 0), (2437, 1, 2437, 0), (2439, 1, 2439, 0), (2440, 1, 2440, 0), (2443, 1, 2443, 0), (2444, 1, 2444, 0), (2448, 1, 2448, 0), (2449, 1, 2449, 0), (2450, 1, 2450, 0), (2451, 1, 2451, 0), (2452, 1, 2452, 0), (2453, 1, 2453, 0), (2454, 1, 2454, 0), (2455, 1, 2455, 0), (2456, 1, 2456, 0), (2457, 1, 2457, 0), (2458, 1, 2458, 0), (2459, 1, 2459, 0), (2460, 1, 2460, 0), (2461, 1, 2461, 0), (2463, 1, 2463, 0), (2464, 1, 2464, 0), (2465, 1, 2465, 0), (2466, 1, 2466, 0), (2467, 1, 2467, 0), (2468, 1, 2468, 0), (2469, 1, 2469, 0), (2488, 1, 2488, 0), (2489, 1, 2489, 0), (2490, 1, 2490, 0), (2491, 1, 2491, 0), (2492, 1, 2492, 0), (2493, 1, 2493, 0), (2494, 1, 2494, 0), (2495, 1, 2495, 0), (2496, 1, 2496, 0), (2497, 1, 2497, 0), (2498, 1, 2498, 0), (2499, 1, 2499, 0), (2500, 1, 2500, 0), (2502, 1, 2502, 0), (2503, 1, 2503, 0), (2504, 1, 2504, 0), (2505, 1, 2505, 0), (2506, 1, 2506, 0), (2507, 1, 2507, 0), (2508, 1, 2508, 0), (2509, 1, 2509, 0), (2515, 1, 2515, 0)]
def q_len : List (Nat × Nat) := [(200, 6), (201, 7), (202, 12), (203, 6), (204, 8), (802, 1680), (804, 12), (806, 168), (1000, 300), (1001, 300), (1003, 24), (1004, 24), (1007, 14), (1008, 14), (1400, 19), (1401, 300), (1402, 300), (1801, 40), (2200, 3000), (2401, 3000), (2403, 50), (2404, 3002), (2405, 3002), (2406, 3002), (2414, 4000), (2415, 4000), (2416, 4000), (2418, 640), (2419, 640), (2420, 640), (2421, 640), (2422, 640), (2423, 640), (2427, 320), (2428, 320), (2429, 320), (2430, 320), (2431, 320), (2432, 320), (2434, 1600), (2435, 1600), (2436, 1600), (2437, 1600), (2439, 1600), (2440, 1600), (2443, 20), (2444, 20), (2448, 4000), (2449, 4000), (2450, 4000), (2451, 640), (2452, 640), (2453, 640), (2454, 640), (2455, 640), (2456, 640), (2457, 30), (2458, 30), (2459, 30), (2460, 30), (2461, 30), (2463, 6), (2464, 12), (2465, 6), (2466, 7), (2467, 8), (2468, 300), (2469, 300), (2488, 240), (2489, 240), (2490, 240), (2491, 240), (2492, 240), (2493, 240), (2494, 240), (2495, 240), (2496, 240), (2497, 240), (2498, 240), (2499, 240), (2500, 240), (2502, 13), (2503, 13), (2504, 13), (2505, 13), (2506, 13), (2507, 520), (2508, 520), (2509, 312), (2515, 4000)]
def q_bp (gr : Nat) : List Nat := match gr with
  | 0 => [809]
  | 1 => [402, 1603]
  | 2 => []
  | _ => [2205]
def q_gr (gr : Nat) (g : q_G) (R : Nat → Nat → Option Nat) (C : Nat → Nat → Option Nat) (N : Nat → Nat) : Prop :=
  (∀ q ∈ q_ptr, R q.1 (g 0 (q.1 / 200) 0) = some (g q.2.1 q.2.2.1 q.2.2.2)) ∧ (∀ k ∈ q_bp gr, R k (g 0 (k / 200) 0) = some (g 0 0 0)) ∧ (∀ q ∈ q_len, N (g 1 q.1 0) = q.2) ∧
  (∀ i, i < 12 → C (g 1 804 0) i = some (g 2 3 i) ∧ R 600 (g 2 3 i) = some (g 3 600 i) ∧ R 601 (g 2 3 i) = some (g 3 601 i) ∧ N (g 3 600 i) = 24 ∧ N (g 3 601 i) = 40) ∧
  (∀ i, i < 168 → C (g 1 806 0) i = some (g 2 6 i) ∧ R 1208 (g 2 6 i) = some (g 2 10 i))
def q_Gd (gr : Nat) (g : q_G) (S0 S : kp_S) : Prop := q_inj g ∧ q_gr gr g (kp_R S) (kp_C S) (kp_N S) ∧ kp_fr (q_own gr g) S0 S
theorem q_p0 {gr : Nat} {g : q_G} {S0 S : kp_S} (h : q_Gd gr g S0 S) : kp_R S 0 (g 0 0 0) = some (g 1 0 0) := h.2.1.1 _ (List.mem_of_getElem? (i := 0) rfl)
theorem q_p2 {gr : Nat} {g : q_G} {S0 S : kp_S} (h : q_Gd gr g S0 S) : kp_R S 2 (g 0 0 0) = some (g 1 2 0) := h.2.1.1 _ (List.mem_of_getElem? (i := 1) rfl)
theorem q_p200 {gr : Nat} {g : q_G} {S0 S : kp_S} (h : q_Gd gr g S0 S) : kp_R S 200 (g 0 1 0) = some (g 1 200 0) := h.2.1.1 _ (List.mem_of_getElem? (i := 2) rfl)
theorem q_p201 {gr : Nat} {g : q_G} {S0 S : kp_S} (h : q_Gd gr g S0 S) : kp_R S 201 (g 0 1 0) = some (g 1 201 0) := h.2.1.1 _ (List.mem_of_getElem? (i := 3) rfl)
theorem q_p202 {gr : Nat} {g : q_G} {S0 S : kp_S} (h : q_Gd gr g S0 S) : kp_R S 202 (g 0 1 0) = some (g 1 202 0) := h.2.1.1 _ (List.mem_of_getElem? (i := 4) rfl)
theorem q_p203 {gr : Nat} {g : q_G} {S0 S : kp_S} (h : q_Gd gr g S0 S) : kp_R S 203 (g 0 1 0) = some (g 1 203 0) := h.2.1.1 _ (List.mem_of_getElem? (i := 5) rfl)
theorem q_p204 {gr : Nat} {g : q_G} {S0 S : kp_S} (h : q_Gd gr g S0 S) : kp_R S 204 (g 0 1 0) = some (g 1 204 0) := h.2.1.1 _ (List.mem_of_getElem? (i := 6) rfl)
theorem q_p400 {gr : Nat} {g : q_G} {S0 S : kp_S} (h : q_Gd gr g S0 S) : kp_R S 400 (g 0 2 0) = some (g 0 9 0) := h.2.1.1 _ (List.mem_of_getElem? (i := 7) rfl)
theorem q_p401 {gr : Nat} {g : q_G} {S0 S : kp_S} (h : q_Gd gr g S0 S) : kp_R S 401 (g 0 2 0) = some (g 0 5 0) := h.2.1.1 _ (List.mem_of_getElem? (i := 8) rfl)
theorem q_p800 {gr : Nat} {g : q_G} {S0 S : kp_S} (h : q_Gd gr g S0 S) : kp_R S 800 (g 0 4 0) = some (g 0 1 0) := h.2.1.1 _ (List.mem_of_getElem? (i := 9) rfl)
theorem q_p801 {gr : Nat} {g : q_G} {S0 S : kp_S} (h : q_Gd gr g S0 S) : kp_R S 801 (g 0 4 0) = some (g 0 7 0) := h.2.1.1 _ (List.mem_of_getElem? (i := 10) rfl)
theorem q_p802 {gr : Nat} {g : q_G} {S0 S : kp_S} (h : q_Gd gr g S0 S) : kp_R S 802 (g 0 4 0) = some (g 1 802 0) := h.2.1.1 _ (List.mem_of_getElem? (i := 11) rfl)
theorem q_p804 {gr : Nat} {g : q_G} {S0 S : kp_S} (h : q_Gd gr g S0 S) : kp_R S 804 (g 0 4 0) = some (g 1 804 0) := h.2.1.1 _ (List.mem_of_getElem? (i := 12) rfl)
theorem q_p806 {gr : Nat} {g : q_G} {S0 S : kp_S} (h : q_Gd gr g S0 S) : kp_R S 806 (g 0 4 0) = some (g 1 806 0) := h.2.1.1 _ (List.mem_of_getElem? (i := 13) rfl)
theorem q_p808 {gr : Nat} {g : q_G} {S0 S : kp_S} (h : q_Gd gr g S0 S) : kp_R S 808 (g 0 4 0) = some (g 2 10 168) := h.2.1.1 _ (List.mem_of_getElem? (i := 14) rfl)
theorem q_p1000 {gr : Nat} {g : q_G} {S0 S : kp_S} (h : q_Gd gr g S0 S) : kp_R S 1000 (g 0 5 0) = some (g 1 1000 0) := h.2.1.1 _ (List.mem_of_getElem? (i := 15) rfl)
theorem q_p1001 {gr : Nat} {g : q_G} {S0 S : kp_S} (h : q_Gd gr g S0 S) : kp_R S 1001 (g 0 5 0) = some (g 1 1001 0) := h.2.1.1 _ (List.mem_of_getElem? (i := 16) rfl)
theorem q_p1003 {gr : Nat} {g : q_G} {S0 S : kp_S} (h : q_Gd gr g S0 S) : kp_R S 1003 (g 0 5 0) = some (g 1 1003 0) := h.2.1.1 _ (List.mem_of_getElem? (i := 17) rfl)
theorem q_p1004 {gr : Nat} {g : q_G} {S0 S : kp_S} (h : q_Gd gr g S0 S) : kp_R S 1004 (g 0 5 0) = some (g 1 1004 0) := h.2.1.1 _ (List.mem_of_getElem? (i := 18) rfl)
theorem q_p1007 {gr : Nat} {g : q_G} {S0 S : kp_S} (h : q_Gd gr g S0 S) : kp_R S 1007 (g 0 5 0) = some (g 1 1007 0) := h.2.1.1 _ (List.mem_of_getElem? (i := 19) rfl)
theorem q_p1008 {gr : Nat} {g : q_G} {S0 S : kp_S} (h : q_Gd gr g S0 S) : kp_R S 1008 (g 0 5 0) = some (g 1 1008 0) := h.2.1.1 _ (List.mem_of_getElem? (i := 20) rfl)
theorem q_p1400 {gr : Nat} {g : q_G} {S0 S : kp_S} (h : q_Gd gr g S0 S) : kp_R S 1400 (g 0 7 0) = some (g 1 1400 0) := h.2.1.1 _ (List.mem_of_getElem? (i := 21) rfl)
theorem q_p1401 {gr : Nat} {g : q_G} {S0 S : kp_S} (h : q_Gd gr g S0 S) : kp_R S 1401 (g 0 7 0) = some (g 1 1401 0) := h.2.1.1 _ (List.mem_of_getElem? (i := 22) rfl)
theorem q_p1402 {gr : Nat} {g : q_G} {S0 S : kp_S} (h : q_Gd gr g S0 S) : kp_R S 1402 (g 0 7 0) = some (g 1 1402 0) := h.2.1.1 _ (List.mem_of_getElem? (i := 23) rfl)
theorem q_p1600 {gr : Nat} {g : q_G} {S0 S : kp_S} (h : q_Gd gr g S0 S) : kp_R S 1600 (g 0 8 0) = some (g 0 9 0) := h.2.1.1 _ (List.mem_of_getElem? (i := 24) rfl)
theorem q_p1601 {gr : Nat} {g : q_G} {S0 S : kp_S} (h : q_Gd gr g S0 S) : kp_R S 1601 (g 0 8 0) = some (g 0 5 0) := h.2.1.1 _ (List.mem_of_getElem? (i := 25) rfl)
theorem q_p1602 {gr : Nat} {g : q_G} {S0 S : kp_S} (h : q_Gd gr g S0 S) : kp_R S 1602 (g 0 8 0) = some (g 0 2 0) := h.2.1.1 _ (List.mem_of_getElem? (i := 26) rfl)
theorem q_p1800 {gr : Nat} {g : q_G} {S0 S : kp_S} (h : q_Gd gr g S0 S) : kp_R S 1800 (g 0 9 0) = some (g 1 2200 0) := h.2.1.1 _ (List.mem_of_getElem? (i := 27) rfl)
theorem q_p1801 {gr : Nat} {g : q_G} {S0 S : kp_S} (h : q_Gd gr g S0 S) : kp_R S 1801 (g 0 9 0) = some (g 1 1801 0) := h.2.1.1 _ (List.mem_of_getElem? (i := 28) rfl)
theorem q_p2200 {gr : Nat} {g : q_G} {S0 S : kp_S} (h : q_Gd gr g S0 S) : kp_R S 2200 (g 0 11 0) = some (g 1 2200 0) := h.2.1.1 _ (List.mem_of_getElem? (i := 29) rfl)
theorem q_p2201 {gr : Nat} {g : q_G} {S0 S : kp_S} (h : q_Gd gr g S0 S) : kp_R S 2201 (g 0 11 0) = some (g 0 8 0) := h.2.1.1 _ (List.mem_of_getElem? (i := 30) rfl)
theorem q_p2202 {gr : Nat} {g : q_G} {S0 S : kp_S} (h : q_Gd gr g S0 S) : kp_R S 2202 (g 0 11 0) = some (g 0 1 0) := h.2.1.1 _ (List.mem_of_getElem? (i := 31) rfl)
theorem q_p2203 {gr : Nat} {g : q_G} {S0 S : kp_S} (h : q_Gd gr g S0 S) : kp_R S 2203 (g 0 11 0) = some (g 0 7 0) := h.2.1.1 _ (List.mem_of_getElem? (i := 32) rfl)
theorem q_p2204 {gr : Nat} {g : q_G} {S0 S : kp_S} (h : q_Gd gr g S0 S) : kp_R S 2204 (g 0 11 0) = some (g 0 4 0) := h.2.1.1 _ (List.mem_of_getElem? (i := 33) rfl)
theorem q_p2401 {gr : Nat} {g : q_G} {S0 S : kp_S} (h : q_Gd gr g S0 S) : kp_R S 2401 (g 0 12 0) = some (g 1 2401 0) := h.2.1.1 _ (List.mem_of_getElem? (i := 34) rfl)
theorem q_p2403 {gr : Nat} {g : q_G} {S0 S : kp_S} (h : q_Gd gr g S0 S) : kp_R S 2403 (g 0 12 0) = some (g 1 2403 0) := h.2.1.1 _ (List.mem_of_getElem? (i := 35) rfl)
theorem q_p2404 {gr : Nat} {g : q_G} {S0 S : kp_S} (h : q_Gd gr g S0 S) : kp_R S 2404 (g 0 12 0) = some (g 1 2404 0) := h.2.1.1 _ (List.mem_of_getElem? (i := 36) rfl)
theorem q_p2405 {gr : Nat} {g : q_G} {S0 S : kp_S} (h : q_Gd gr g S0 S) : kp_R S 2405 (g 0 12 0) = some (g 1 2405 0) := h.2.1.1 _ (List.mem_of_getElem? (i := 37) rfl)
theorem q_p2406 {gr : Nat} {g : q_G} {S0 S : kp_S} (h : q_Gd gr g S0 S) : kp_R S 2406 (g 0 12 0) = some (g 1 2406 0) := h.2.1.1 _ (List.mem_of_getElem? (i := 38) rfl)
theorem q_p2414 {gr : Nat} {g : q_G} {S0 S : kp_S} (h : q_Gd gr g S0 S) : kp_R S 2414 (g 0 12 0) = some (g 1 2414 0) := h.2.1.1 _ (List.mem_of_getElem? (i := 39) rfl)
theorem q_p2415 {gr : Nat} {g : q_G} {S0 S : kp_S} (h : q_Gd gr g S0 S) : kp_R S 2415 (g 0 12 0) = some (g 1 2415 0) := h.2.1.1 _ (List.mem_of_getElem? (i := 40) rfl)
theorem q_p2416 {gr : Nat} {g : q_G} {S0 S : kp_S} (h : q_Gd gr g S0 S) : kp_R S 2416 (g 0 12 0) = some (g 1 2416 0) := h.2.1.1 _ (List.mem_of_getElem? (i := 41) rfl)
theorem q_p2418 {gr : Nat} {g : q_G} {S0 S : kp_S} (h : q_Gd gr g S0 S) : kp_R S 2418 (g 0 12 0) = some (g 1 2418 0) := h.2.1.1 _ (List.mem_of_getElem? (i := 42) rfl)
theorem q_p2419 {gr : Nat} {g : q_G} {S0 S : kp_S} (h : q_Gd gr g S0 S) : kp_R S 2419 (g 0 12 0) = some (g 1 2419 0) := h.2.1.1 _ (List.mem_of_getElem? (i := 43) rfl)
theorem q_p2420 {gr : Nat} {g : q_G} {S0 S : kp_S} (h : q_Gd gr g S0 S) : kp_R S 2420 (g 0 12 0) = some (g 1 2420 0) := h.2.1.1 _ (List.mem_of_getElem? (i := 44) rfl)
theorem q_p2421 {gr : Nat} {g : q_G} {S0 S : kp_S} (h : q_Gd gr g S0 S) : kp_R S 2421 (g 0 12 0) = some (g 1 2421 0) := h.2.1.1 _ (List.mem_of_getElem? (i := 45) rfl)
theorem q_p2422 {gr : Nat} {g : q_G} {S0 S : kp_S} (h : q_Gd gr g S0 S) : kp_R S 2422 (g 0 12 0) = some (g 1 2422 0) := h.2.1.1 _ (List.mem_of_getElem? (i := 46) rfl)
theorem q_p2423 {gr : Nat} {g : q_G} {S0 S : kp_S} (h : q_Gd gr g S0 S) : kp_R S 2423 (g 0 12 0) = some (g 1 2423 0) := h.2.1.1 _ (List.mem_of_getElem? (i := 47) rfl)
theorem q_p2427 {gr : Nat} {g : q_G} {S0 S : kp_S} (h : q_Gd gr g S0 S) : kp_R S 2427 (g 0 12 0) = some (g 1 2427 0) := h.2.1.1 _ (List.mem_of_getElem? (i := 48) rfl)
theorem q_p2428 {gr : Nat} {g : q_G} {S0 S : kp_S} (h : q_Gd gr g S0 S) : kp_R S 2428 (g 0 12 0) = some (g 1 2428 0) := h.2.1.1 _ (List.mem_of_getElem? (i := 49) rfl)
theorem q_p2429 {gr : Nat} {g : q_G} {S0 S : kp_S} (h : q_Gd gr g S0 S) : kp_R S 2429 (g 0 12 0) = some (g 1 2429 0) := h.2.1.1 _ (List.mem_of_getElem? (i := 50) rfl)
theorem q_p2430 {gr : Nat} {g : q_G} {S0 S : kp_S} (h : q_Gd gr g S0 S) : kp_R S 2430 (g 0 12 0) = some (g 1 2430 0) := h.2.1.1 _ (List.mem_of_getElem? (i := 51) rfl)
theorem q_p2431 {gr : Nat} {g : q_G} {S0 S : kp_S} (h : q_Gd gr g S0 S) : kp_R S 2431 (g 0 12 0) = some (g 1 2431 0) := h.2.1.1 _ (List.mem_of_getElem? (i := 52) rfl)
theorem q_p2432 {gr : Nat} {g : q_G} {S0 S : kp_S} (h : q_Gd gr g S0 S) : kp_R S 2432 (g 0 12 0) = some (g 1 2432 0) := h.2.1.1 _ (List.mem_of_getElem? (i := 53) rfl)
theorem q_p2434 {gr : Nat} {g : q_G} {S0 S : kp_S} (h : q_Gd gr g S0 S) : kp_R S 2434 (g 0 12 0) = some (g 1 2434 0) := h.2.1.1 _ (List.mem_of_getElem? (i := 54) rfl)
theorem q_p2435 {gr : Nat} {g : q_G} {S0 S : kp_S} (h : q_Gd gr g S0 S) : kp_R S 2435 (g 0 12 0) = some (g 1 2435 0) := h.2.1.1 _ (List.mem_of_getElem? (i := 55) rfl)
theorem q_p2436 {gr : Nat} {g : q_G} {S0 S : kp_S} (h : q_Gd gr g S0 S) : kp_R S 2436 (g 0 12 0) = some (g 1 2436 0) := h.2.1.1 _ (List.mem_of_getElem? (i := 56) rfl)
theorem q_p2437 {gr : Nat} {g : q_G} {S0 S : kp_S} (h : q_Gd gr g S0 S) : kp_R S 2437 (g 0 12 0) = some (g 1 2437 0) := h.2.1.1 _ (List.mem_of_getElem? (i := 57) rfl)
theorem q_p2439 {gr : Nat} {g : q_G} {S0 S : kp_S} (h : q_Gd gr g S0 S) : kp_R S 2439 (g 0 12 0) = some (g 1 2439 0) := h.2.1.1 _ (List.mem_of_getElem? (i := 58) rfl)
theorem q_p2440 {gr : Nat} {g : q_G} {S0 S : kp_S} (h : q_Gd gr g S0 S) : kp_R S 2440 (g 0 12 0) = some (g 1 2440 0) := h.2.1.1 _ (List.mem_of_getElem? (i := 59) rfl)
theorem q_p2443 {gr : Nat} {g : q_G} {S0 S : kp_S} (h : q_Gd gr g S0 S) : kp_R S 2443 (g 0 12 0) = some (g 1 2443 0) := h.2.1.1 _ (List.mem_of_getElem? (i := 60) rfl)
theorem q_p2444 {gr : Nat} {g : q_G} {S0 S : kp_S} (h : q_Gd gr g S0 S) : kp_R S 2444 (g 0 12 0) = some (g 1 2444 0) := h.2.1.1 _ (List.mem_of_getElem? (i := 61) rfl)
theorem q_p2448 {gr : Nat} {g : q_G} {S0 S : kp_S} (h : q_Gd gr g S0 S) : kp_R S 2448 (g 0 12 0) = some (g 1 2448 0) := h.2.1.1 _ (List.mem_of_getElem? (i := 62) rfl)
theorem q_p2449 {gr : Nat} {g : q_G} {S0 S : kp_S} (h : q_Gd gr g S0 S) : kp_R S 2449 (g 0 12 0) = some (g 1 2449 0) := h.2.1.1 _ (List.mem_of_getElem? (i := 63) rfl)
theorem q_p2450 {gr : Nat} {g : q_G} {S0 S : kp_S} (h : q_Gd gr g S0 S) : kp_R S 2450 (g 0 12 0) = some (g 1 2450 0) := h.2.1.1 _ (List.mem_of_getElem? (i := 64) rfl)
theorem q_p2451 {gr : Nat} {g : q_G} {S0 S : kp_S} (h : q_Gd gr g S0 S) : kp_R S 2451 (g 0 12 0) = some (g 1 2451 0) := h.2.1.1 _ (List.mem_of_getElem? (i := 65) rfl)
theorem q_p2452 {gr : Nat} {g : q_G} {S0 S : kp_S} (h : q_Gd gr g S0 S) : kp_R S 2452 (g 0 12 0) = some (g 1 2452 0) := h.2.1.1 _ (List.mem_of_getElem? (i := 66) rfl)
theorem q_p2453 {gr : Nat} {g : q_G} {S0 S : kp_S} (h : q_Gd gr g S0 S) : kp_R S 2453 (g 0 12 0) = some (g 1 2453 0) := h.2.1.1 _ (List.mem_of_getElem? (i := 67) rfl)
theorem q_p2454 {gr : Nat} {g : q_G} {S0 S : kp_S} (h : q_Gd gr g S0 S) : kp_R S 2454 (g 0 12 0) = some (g 1 2454 0) := h.2.1.1 _ (List.mem_of_getElem? (i := 68) rfl)
theorem q_p2455 {gr : Nat} {g : q_G} {S0 S : kp_S} (h : q_Gd gr g S0 S) : kp_R S 2455 (g 0 12 0) = some (g 1 2455 0) := h.2.1.1 _ (List.mem_of_getElem? (i := 69) rfl)
theorem q_p2456 {gr : Nat} {g : q_G} {S0 S : kp_S} (h : q_Gd gr g S0 S) : kp_R S 2456 (g 0 12 0) = some (g 1 2456 0) := h.2.1.1 _ (List.mem_of_getElem? (i := 70) rfl)
theorem q_p2457 {gr : Nat} {g : q_G} {S0 S : kp_S} (h : q_Gd gr g S0 S) : kp_R S 2457 (g 0 12 0) = some (g 1 2457 0) := h.2.1.1 _ (List.mem_of_getElem? (i := 71) rfl)
theorem q_p2458 {gr : Nat} {g : q_G} {S0 S : kp_S} (h : q_Gd gr g S0 S) : kp_R S 2458 (g 0 12 0) = some (g 1 2458 0) := h.2.1.1 _ (List.mem_of_getElem? (i := 72) rfl)
theorem q_p2459 {gr : Nat} {g : q_G} {S0 S : kp_S} (h : q_Gd gr g S0 S) : kp_R S 2459 (g 0 12 0) = some (g 1 2459 0) := h.2.1.1 _ (List.mem_of_getElem? (i := 73) rfl)
theorem q_p2460 {gr : Nat} {g : q_G} {S0 S : kp_S} (h : q_Gd gr g S0 S) : kp_R S 2460 (g 0 12 0) = some (g 1 2460 0) := h.2.1.1 _ (List.mem_of_getElem? (i := 74) rfl)
theorem q_p2461 {gr : Nat} {g : q_G} {S0 S : kp_S} (h : q_Gd gr g S0 S) : kp_R S 2461 (g 0 12 0) = some (g 1 2461 0) := h.2.1.1 _ (List.mem_of_getElem? (i := 75) rfl)
theorem q_p2463 {gr : Nat} {g : q_G} {S0 S : kp_S} (h : q_Gd gr g S0 S) : kp_R S 2463 (g 0 12 0) = some (g 1 2463 0) := h.2.1.1 _ (List.mem_of_getElem? (i := 76) rfl)
theorem q_p2464 {gr : Nat} {g : q_G} {S0 S : kp_S} (h : q_Gd gr g S0 S) : kp_R S 2464 (g 0 12 0) = some (g 1 2464 0) := h.2.1.1 _ (List.mem_of_getElem? (i := 77) rfl)
theorem q_p2465 {gr : Nat} {g : q_G} {S0 S : kp_S} (h : q_Gd gr g S0 S) : kp_R S 2465 (g 0 12 0) = some (g 1 2465 0) := h.2.1.1 _ (List.mem_of_getElem? (i := 78) rfl)
theorem q_p2466 {gr : Nat} {g : q_G} {S0 S : kp_S} (h : q_Gd gr g S0 S) : kp_R S 2466 (g 0 12 0) = some (g 1 2466 0) := h.2.1.1 _ (List.mem_of_getElem? (i := 79) rfl)
theorem q_p2467 {gr : Nat} {g : q_G} {S0 S : kp_S} (h : q_Gd gr g S0 S) : kp_R S 2467 (g 0 12 0) = some (g 1 2467 0) := h.2.1.1 _ (List.mem_of_getElem? (i := 80) rfl)
theorem q_p2468 {gr : Nat} {g : q_G} {S0 S : kp_S} (h : q_Gd gr g S0 S) : kp_R S 2468 (g 0 12 0) = some (g 1 2468 0) := h.2.1.1 _ (List.mem_of_getElem? (i := 81) rfl)
theorem q_p2469 {gr : Nat} {g : q_G} {S0 S : kp_S} (h : q_Gd gr g S0 S) : kp_R S 2469 (g 0 12 0) = some (g 1 2469 0) := h.2.1.1 _ (List.mem_of_getElem? (i := 82) rfl)
theorem q_p2488 {gr : Nat} {g : q_G} {S0 S : kp_S} (h : q_Gd gr g S0 S) : kp_R S 2488 (g 0 12 0) = some (g 1 2488 0) := h.2.1.1 _ (List.mem_of_getElem? (i := 83) rfl)
theorem q_p2489 {gr : Nat} {g : q_G} {S0 S : kp_S} (h : q_Gd gr g S0 S) : kp_R S 2489 (g 0 12 0) = some (g 1 2489 0) := h.2.1.1 _ (List.mem_of_getElem? (i := 84) rfl)
theorem q_p2490 {gr : Nat} {g : q_G} {S0 S : kp_S} (h : q_Gd gr g S0 S) : kp_R S 2490 (g 0 12 0) = some (g 1 2490 0) := h.2.1.1 _ (List.mem_of_getElem? (i := 85) rfl)
theorem q_p2491 {gr : Nat} {g : q_G} {S0 S : kp_S} (h : q_Gd gr g S0 S) : kp_R S 2491 (g 0 12 0) = some (g 1 2491 0) := h.2.1.1 _ (List.mem_of_getElem? (i := 86) rfl)
theorem q_p2492 {gr : Nat} {g : q_G} {S0 S : kp_S} (h : q_Gd gr g S0 S) : kp_R S 2492 (g 0 12 0) = some (g 1 2492 0) := h.2.1.1 _ (List.mem_of_getElem? (i := 87) rfl)
theorem q_p2493 {gr : Nat} {g : q_G} {S0 S : kp_S} (h : q_Gd gr g S0 S) : kp_R S 2493 (g 0 12 0) = some (g 1 2493 0) := h.2.1.1 _ (List.mem_of_getElem? (i := 88) rfl)
theorem q_p2494 {gr : Nat} {g : q_G} {S0 S : kp_S} (h : q_Gd gr g S0 S) : kp_R S 2494 (g 0 12 0) = some (g 1 2494 0) := h.2.1.1 _ (List.mem_of_getElem? (i := 89) rfl)
theorem q_p2495 {gr : Nat} {g : q_G} {S0 S : kp_S} (h : q_Gd gr g S0 S) : kp_R S 2495 (g 0 12 0) = some (g 1 2495 0) := h.2.1.1 _ (List.mem_of_getElem? (i := 90) rfl)
theorem q_p2496 {gr : Nat} {g : q_G} {S0 S : kp_S} (h : q_Gd gr g S0 S) : kp_R S 2496 (g 0 12 0) = some (g 1 2496 0) := h.2.1.1 _ (List.mem_of_getElem? (i := 91) rfl)
theorem q_p2497 {gr : Nat} {g : q_G} {S0 S : kp_S} (h : q_Gd gr g S0 S) : kp_R S 2497 (g 0 12 0) = some (g 1 2497 0) := h.2.1.1 _ (List.mem_of_getElem? (i := 92) rfl)
theorem q_p2498 {gr : Nat} {g : q_G} {S0 S : kp_S} (h : q_Gd gr g S0 S) : kp_R S 2498 (g 0 12 0) = some (g 1 2498 0) := h.2.1.1 _ (List.mem_of_getElem? (i := 93) rfl)
theorem q_p2499 {gr : Nat} {g : q_G} {S0 S : kp_S} (h : q_Gd gr g S0 S) : kp_R S 2499 (g 0 12 0) = some (g 1 2499 0) := h.2.1.1 _ (List.mem_of_getElem? (i := 94) rfl)
theorem q_p2500 {gr : Nat} {g : q_G} {S0 S : kp_S} (h : q_Gd gr g S0 S) : kp_R S 2500 (g 0 12 0) = some (g 1 2500 0) := h.2.1.1 _ (List.mem_of_getElem? (i := 95) rfl)
theorem q_p2502 {gr : Nat} {g : q_G} {S0 S : kp_S} (h : q_Gd gr g S0 S) : kp_R S 2502 (g 0 12 0) = some (g 1 2502 0) := h.2.1.1 _ (List.mem_of_getElem? (i := 96) rfl)
theorem q_p2503 {gr : Nat} {g : q_G} {S0 S : kp_S} (h : q_Gd gr g S0 S) : kp_R S 2503 (g 0 12 0) = some (g 1 2503 0) := h.2.1.1 _ (List.mem_of_getElem? (i := 97) rfl)
theorem q_p2504 {gr : Nat} {g : q_G} {S0 S : kp_S} (h : q_Gd gr g S0 S) : kp_R S 2504 (g 0 12 0) = some (g 1 2504 0) := h.2.1.1 _ (List.mem_of_getElem? (i := 98) rfl)
theorem q_p2505 {gr : Nat} {g : q_G} {S0 S : kp_S} (h : q_Gd gr g S0 S) : kp_R S 2505 (g 0 12 0) = some (g 1 2505 0) := h.2.1.1 _ (List.mem_of_getElem? (i := 99) rfl)
theorem q_p2506 {gr : Nat} {g : q_G} {S0 S : kp_S} (h : q_Gd gr g S0 S) : kp_R S 2506 (g 0 12 0) = some (g 1 2506 0) := h.2.1.1 _ (List.mem_of_getElem? (i := 100) rfl)
theorem q_p2507 {gr : Nat} {g : q_G} {S0 S : kp_S} (h : q_Gd gr g S0 S) : kp_R S 2507 (g 0 12 0) = some (g 1 2507 0) := h.2.1.1 _ (List.mem_of_getElem? (i := 101) rfl)
theorem q_p2508 {gr : Nat} {g : q_G} {S0 S : kp_S} (h : q_Gd gr g S0 S) : kp_R S 2508 (g 0 12 0) = some (g 1 2508 0) := h.2.1.1 _ (List.mem_of_getElem? (i := 102) rfl)
theorem q_p2509 {gr : Nat} {g : q_G} {S0 S : kp_S} (h : q_Gd gr g S0 S) : kp_R S 2509 (g 0 12 0) = some (g 1 2509 0) := h.2.1.1 _ (List.mem_of_getElem? (i := 103) rfl)
theorem q_p2515 {gr : Nat} {g : q_G} {S0 S : kp_S} (h : q_Gd gr g S0 S) : kp_R S 2515 (g 0 12 0) = some (g 1 2515 0) := h.2.1.1 _ (List.mem_of_getElem? (i := 104) rfl)
theorem q_p809 {g : q_G} {S0 S : kp_S} (h : q_Gd 0 g S0 S) : kp_R S 809 (g 0 4 0) = some (g 0 0 0) := h.2.1.2.1 809 (by decide)
theorem q_p402 {g : q_G} {S0 S : kp_S} (h : q_Gd 1 g S0 S) : kp_R S 402 (g 0 2 0) = some (g 0 0 0) := h.2.1.2.1 402 (by decide)
theorem q_p1603 {g : q_G} {S0 S : kp_S} (h : q_Gd 1 g S0 S) : kp_R S 1603 (g 0 8 0) = some (g 0 0 0) := h.2.1.2.1 1603 (by decide)
theorem q_p2205 {g : q_G} {S0 S : kp_S} (h : q_Gd 3 g S0 S) : kp_R S 2205 (g 0 11 0) = some (g 0 0 0) := h.2.1.2.1 2205 (by decide)
theorem q_l200 {gr : Nat} {g : q_G} {S0 S : kp_S} (h : q_Gd gr g S0 S) : kp_N S (g 1 200 0) = 6 := h.2.1.2.2.1 _ (List.mem_of_getElem? (i := 0) rfl)
theorem q_l201 {gr : Nat} {g : q_G} {S0 S : kp_S} (h : q_Gd gr g S0 S) : kp_N S (g 1 201 0) = 7 := h.2.1.2.2.1 _ (List.mem_of_getElem? (i := 1) rfl)
theorem q_l202 {gr : Nat} {g : q_G} {S0 S : kp_S} (h : q_Gd gr g S0 S) : kp_N S (g 1 202 0) = 12 := h.2.1.2.2.1 _ (List.mem_of_getElem? (i := 2) rfl)
theorem q_l203 {gr : Nat} {g : q_G} {S0 S : kp_S} (h : q_Gd gr g S0 S) : kp_N S (g 1 203 0) = 6 := h.2.1.2.2.1 _ (List.mem_of_getElem? (i := 3) rfl)
theorem q_l204 {gr : Nat} {g : q_G} {S0 S : kp_S} (h : q_Gd gr g S0 S) : kp_N S (g 1 204 0) = 8 := h.2.1.2.2.1 _ (List.mem_of_getElem? (i := 4) rfl)
theorem q_l802 {gr : Nat} {g : q_G} {S0 S : kp_S} (h : q_Gd gr g S0 S) : kp_N S (g 1 802 0) = 1680 := h.2.1.2.2.1 _ (List.mem_of_getElem? (i := 5) rfl)
theorem q_l804 {gr : Nat} {g : q_G} {S0 S : kp_S} (h : q_Gd gr g S0 S) : kp_N S (g 1 804 0) = 12 := h.2.1.2.2.1 _ (List.mem_of_getElem? (i := 6) rfl)
theorem q_l806 {gr : Nat} {g : q_G} {S0 S : kp_S} (h : q_Gd gr g S0 S) : kp_N S (g 1 806 0) = 168 := h.2.1.2.2.1 _ (List.mem_of_getElem? (i := 7) rfl)
theorem q_l1000 {gr : Nat} {g : q_G} {S0 S : kp_S} (h : q_Gd gr g S0 S) : kp_N S (g 1 1000 0) = 300 := h.2.1.2.2.1 _ (List.mem_of_getElem? (i := 8) rfl)
theorem q_l1001 {gr : Nat} {g : q_G} {S0 S : kp_S} (h : q_Gd gr g S0 S) : kp_N S (g 1 1001 0) = 300 := h.2.1.2.2.1 _ (List.mem_of_getElem? (i := 9) rfl)
theorem q_l1003 {gr : Nat} {g : q_G} {S0 S : kp_S} (h : q_Gd gr g S0 S) : kp_N S (g 1 1003 0) = 24 := h.2.1.2.2.1 _ (List.mem_of_getElem? (i := 10) rfl)
theorem q_l1004 {gr : Nat} {g : q_G} {S0 S : kp_S} (h : q_Gd gr g S0 S) : kp_N S (g 1 1004 0) = 24 := h.2.1.2.2.1 _ (List.mem_of_getElem? (i := 11) rfl)
theorem q_l1007 {gr : Nat} {g : q_G} {S0 S : kp_S} (h : q_Gd gr g S0 S) : kp_N S (g 1 1007 0) = 14 := h.2.1.2.2.1 _ (List.mem_of_getElem? (i := 12) rfl)
theorem q_l1008 {gr : Nat} {g : q_G} {S0 S : kp_S} (h : q_Gd gr g S0 S) : kp_N S (g 1 1008 0) = 14 := h.2.1.2.2.1 _ (List.mem_of_getElem? (i := 13) rfl)
theorem q_l1400 {gr : Nat} {g : q_G} {S0 S : kp_S} (h : q_Gd gr g S0 S) : kp_N S (g 1 1400 0) = 19 := h.2.1.2.2.1 _ (List.mem_of_getElem? (i := 14) rfl)
theorem q_l1401 {gr : Nat} {g : q_G} {S0 S : kp_S} (h : q_Gd gr g S0 S) : kp_N S (g 1 1401 0) = 300 := h.2.1.2.2.1 _ (List.mem_of_getElem? (i := 15) rfl)
theorem q_l1402 {gr : Nat} {g : q_G} {S0 S : kp_S} (h : q_Gd gr g S0 S) : kp_N S (g 1 1402 0) = 300 := h.2.1.2.2.1 _ (List.mem_of_getElem? (i := 16) rfl)
theorem q_l1801 {gr : Nat} {g : q_G} {S0 S : kp_S} (h : q_Gd gr g S0 S) : kp_N S (g 1 1801 0) = 40 := h.2.1.2.2.1 _ (List.mem_of_getElem? (i := 17) rfl)
theorem q_l2200 {gr : Nat} {g : q_G} {S0 S : kp_S} (h : q_Gd gr g S0 S) : kp_N S (g 1 2200 0) = 3000 := h.2.1.2.2.1 _ (List.mem_of_getElem? (i := 18) rfl)
theorem q_l2401 {gr : Nat} {g : q_G} {S0 S : kp_S} (h : q_Gd gr g S0 S) : kp_N S (g 1 2401 0) = 3000 := h.2.1.2.2.1 _ (List.mem_of_getElem? (i := 19) rfl)
theorem q_l2403 {gr : Nat} {g : q_G} {S0 S : kp_S} (h : q_Gd gr g S0 S) : kp_N S (g 1 2403 0) = 50 := h.2.1.2.2.1 _ (List.mem_of_getElem? (i := 20) rfl)
theorem q_l2404 {gr : Nat} {g : q_G} {S0 S : kp_S} (h : q_Gd gr g S0 S) : kp_N S (g 1 2404 0) = 3002 := h.2.1.2.2.1 _ (List.mem_of_getElem? (i := 21) rfl)
theorem q_l2405 {gr : Nat} {g : q_G} {S0 S : kp_S} (h : q_Gd gr g S0 S) : kp_N S (g 1 2405 0) = 3002 := h.2.1.2.2.1 _ (List.mem_of_getElem? (i := 22) rfl)
theorem q_l2406 {gr : Nat} {g : q_G} {S0 S : kp_S} (h : q_Gd gr g S0 S) : kp_N S (g 1 2406 0) = 3002 := h.2.1.2.2.1 _ (List.mem_of_getElem? (i := 23) rfl)
theorem q_l2414 {gr : Nat} {g : q_G} {S0 S : kp_S} (h : q_Gd gr g S0 S) : kp_N S (g 1 2414 0) = 4000 := h.2.1.2.2.1 _ (List.mem_of_getElem? (i := 24) rfl)
theorem q_l2415 {gr : Nat} {g : q_G} {S0 S : kp_S} (h : q_Gd gr g S0 S) : kp_N S (g 1 2415 0) = 4000 := h.2.1.2.2.1 _ (List.mem_of_getElem? (i := 25) rfl)
theorem q_l2416 {gr : Nat} {g : q_G} {S0 S : kp_S} (h : q_Gd gr g S0 S) : kp_N S (g 1 2416 0) = 4000 := h.2.1.2.2.1 _ (List.mem_of_getElem? (i := 26) rfl)
theorem q_l2418 {gr : Nat} {g : q_G} {S0 S : kp_S} (h : q_Gd gr g S0 S) : kp_N S (g 1 2418 0) = 640 := h.2.1.2.2.1 _ (List.mem_of_getElem? (i := 27) rfl)
theorem q_l2419 {gr : Nat} {g : q_G} {S0 S : kp_S} (h : q_Gd gr g S0 S) : kp_N S (g 1 2419 0) = 640 := h.2.1.2.2.1 _ (List.mem_of_getElem? (i := 28) rfl)
theorem q_l2420 {gr : Nat} {g : q_G} {S0 S : kp_S} (h : q_Gd gr g S0 S) : kp_N S (g 1 2420 0) = 640 := h.2.1.2.2.1 _ (List.mem_of_getElem? (i := 29) rfl)
theorem q_l2421 {gr : Nat} {g : q_G} {S0 S : kp_S} (h : q_Gd gr g S0 S) : kp_N S (g 1 2421 0) = 640 := h.2.1.2.2.1 _ (List.mem_of_getElem? (i := 30) rfl)
theorem q_l2422 {gr : Nat} {g : q_G} {S0 S : kp_S} (h : q_Gd gr g S0 S) : kp_N S (g 1 2422 0) = 640 := h.2.1.2.2.1 _ (List.mem_of_getElem? (i := 31) rfl)
theorem q_l2423 {gr : Nat} {g : q_G} {S0 S : kp_S} (h : q_Gd gr g S0 S) : kp_N S (g 1 2423 0) = 640 := h.2.1.2.2.1 _ (List.mem_of_getElem? (i := 32) rfl)
theorem q_l2427 {gr : Nat} {g : q_G} {S0 S : kp_S} (h : q_Gd gr g S0 S) : kp_N S (g 1 2427 0) = 320 := h.2.1.2.2.1 _ (List.mem_of_getElem? (i := 33) rfl)
theorem q_l2428 {gr : Nat} {g : q_G} {S0 S : kp_S} (h : q_Gd gr g S0 S) : kp_N S (g 1 2428 0) = 320 := h.2.1.2.2.1 _ (List.mem_of_getElem? (i := 34) rfl)
theorem q_l2429 {gr : Nat} {g : q_G} {S0 S : kp_S} (h : q_Gd gr g S0 S) : kp_N S (g 1 2429 0) = 320 := h.2.1.2.2.1 _ (List.mem_of_getElem? (i := 35) rfl)
theorem q_l2430 {gr : Nat} {g : q_G} {S0 S : kp_S} (h : q_Gd gr g S0 S) : kp_N S (g 1 2430 0) = 320 := h.2.1.2.2.1 _ (List.mem_of_getElem? (i := 36) rfl)
theorem q_l2431 {gr : Nat} {g : q_G} {S0 S : kp_S} (h : q_Gd gr g S0 S) : kp_N S (g 1 2431 0) = 320 := h.2.1.2.2.1 _ (List.mem_of_getElem? (i := 37) rfl)
theorem q_l2432 {gr : Nat} {g : q_G} {S0 S : kp_S} (h : q_Gd gr g S0 S) : kp_N S (g 1 2432 0) = 320 := h.2.1.2.2.1 _ (List.mem_of_getElem? (i := 38) rfl)
theorem q_l2434 {gr : Nat} {g : q_G} {S0 S : kp_S} (h : q_Gd gr g S0 S) : kp_N S (g 1 2434 0) = 1600 := h.2.1.2.2.1 _ (List.mem_of_getElem? (i := 39) rfl)
theorem q_l2435 {gr : Nat} {g : q_G} {S0 S : kp_S} (h : q_Gd gr g S0 S) : kp_N S (g 1 2435 0) = 1600 := h.2.1.2.2.1 _ (List.mem_of_getElem? (i := 40) rfl)
theorem q_l2436 {gr : Nat} {g : q_G} {S0 S : kp_S} (h : q_Gd gr g S0 S) : kp_N S (g 1 2436 0) = 1600 := h.2.1.2.2.1 _ (List.mem_of_getElem? (i := 41) rfl)
theorem q_l2437 {gr : Nat} {g : q_G} {S0 S : kp_S} (h : q_Gd gr g S0 S) : kp_N S (g 1 2437 0) = 1600 := h.2.1.2.2.1 _ (List.mem_of_getElem? (i := 42) rfl)
theorem q_l2439 {gr : Nat} {g : q_G} {S0 S : kp_S} (h : q_Gd gr g S0 S) : kp_N S (g 1 2439 0) = 1600 := h.2.1.2.2.1 _ (List.mem_of_getElem? (i := 43) rfl)
theorem q_l2440 {gr : Nat} {g : q_G} {S0 S : kp_S} (h : q_Gd gr g S0 S) : kp_N S (g 1 2440 0) = 1600 := h.2.1.2.2.1 _ (List.mem_of_getElem? (i := 44) rfl)
theorem q_l2443 {gr : Nat} {g : q_G} {S0 S : kp_S} (h : q_Gd gr g S0 S) : kp_N S (g 1 2443 0) = 20 := h.2.1.2.2.1 _ (List.mem_of_getElem? (i := 45) rfl)
theorem q_l2444 {gr : Nat} {g : q_G} {S0 S : kp_S} (h : q_Gd gr g S0 S) : kp_N S (g 1 2444 0) = 20 := h.2.1.2.2.1 _ (List.mem_of_getElem? (i := 46) rfl)
theorem q_l2448 {gr : Nat} {g : q_G} {S0 S : kp_S} (h : q_Gd gr g S0 S) : kp_N S (g 1 2448 0) = 4000 := h.2.1.2.2.1 _ (List.mem_of_getElem? (i := 47) rfl)
theorem q_l2449 {gr : Nat} {g : q_G} {S0 S : kp_S} (h : q_Gd gr g S0 S) : kp_N S (g 1 2449 0) = 4000 := h.2.1.2.2.1 _ (List.mem_of_getElem? (i := 48) rfl)
theorem q_l2450 {gr : Nat} {g : q_G} {S0 S : kp_S} (h : q_Gd gr g S0 S) : kp_N S (g 1 2450 0) = 4000 := h.2.1.2.2.1 _ (List.mem_of_getElem? (i := 49) rfl)
theorem q_l2451 {gr : Nat} {g : q_G} {S0 S : kp_S} (h : q_Gd gr g S0 S) : kp_N S (g 1 2451 0) = 640 := h.2.1.2.2.1 _ (List.mem_of_getElem? (i := 50) rfl)
theorem q_l2452 {gr : Nat} {g : q_G} {S0 S : kp_S} (h : q_Gd gr g S0 S) : kp_N S (g 1 2452 0) = 640 := h.2.1.2.2.1 _ (List.mem_of_getElem? (i := 51) rfl)
theorem q_l2453 {gr : Nat} {g : q_G} {S0 S : kp_S} (h : q_Gd gr g S0 S) : kp_N S (g 1 2453 0) = 640 := h.2.1.2.2.1 _ (List.mem_of_getElem? (i := 52) rfl)
theorem q_l2454 {gr : Nat} {g : q_G} {S0 S : kp_S} (h : q_Gd gr g S0 S) : kp_N S (g 1 2454 0) = 640 := h.2.1.2.2.1 _ (List.mem_of_getElem? (i := 53) rfl)
theorem q_l2455 {gr : Nat} {g : q_G} {S0 S : kp_S} (h : q_Gd gr g S0 S) : kp_N S (g 1 2455 0) = 640 := h.2.1.2.2.1 _ (List.mem_of_getElem? (i := 54) rfl)
theorem q_l2456 {gr : Nat} {g : q_G} {S0 S : kp_S} (h : q_Gd gr g S0 S) : kp_N S (g 1 2456 0) = 640 := h.2.1.2.2.1 _ (List.mem_of_getElem? (i := 55) rfl)
theorem q_l2457 {gr : Nat} {g : q_G} {S0 S : kp_S} (h : q_Gd gr g S0 S) : kp_N S (g 1 2457 0) = 30 := h.2.1.2.2.1 _ (List.mem_of_getElem? (i := 56) rfl)
theorem q_l2458 {gr : Nat} {g : q_G} {S0 S : kp_S} (h : q_Gd gr g S0 S) : kp_N S (g 1 2458 0) = 30 := h.2.1.2.2.1 _ (List.mem_of_getElem? (i := 57) rfl)
theorem q_l2459 {gr : Nat} {g : q_G} {S0 S : kp_S} (h : q_Gd gr g S0 S) : kp_N S (g 1 2459 0) = 30 := h.2.1.2.2.1 _ (List.mem_of_getElem? (i := 58) rfl)
theorem q_l2460 {gr : Nat} {g : q_G} {S0 S : kp_S} (h : q_Gd gr g S0 S) : kp_N S (g 1 2460 0) = 30 := h.2.1.2.2.1 _ (List.mem_of_getElem? (i := 59) rfl)
theorem q_l2461 {gr : Nat} {g : q_G} {S0 S : kp_S} (h : q_Gd gr g S0 S) : kp_N S (g 1 2461 0) = 30 := h.2.1.2.2.1 _ (List.mem_of_getElem? (i := 60) rfl)
theorem q_l2463 {gr : Nat} {g : q_G} {S0 S : kp_S} (h : q_Gd gr g S0 S) : kp_N S (g 1 2463 0) = 6 := h.2.1.2.2.1 _ (List.mem_of_getElem? (i := 61) rfl)
theorem q_l2464 {gr : Nat} {g : q_G} {S0 S : kp_S} (h : q_Gd gr g S0 S) : kp_N S (g 1 2464 0) = 12 := h.2.1.2.2.1 _ (List.mem_of_getElem? (i := 62) rfl)
theorem q_l2465 {gr : Nat} {g : q_G} {S0 S : kp_S} (h : q_Gd gr g S0 S) : kp_N S (g 1 2465 0) = 6 := h.2.1.2.2.1 _ (List.mem_of_getElem? (i := 63) rfl)
theorem q_l2466 {gr : Nat} {g : q_G} {S0 S : kp_S} (h : q_Gd gr g S0 S) : kp_N S (g 1 2466 0) = 7 := h.2.1.2.2.1 _ (List.mem_of_getElem? (i := 64) rfl)
theorem q_l2467 {gr : Nat} {g : q_G} {S0 S : kp_S} (h : q_Gd gr g S0 S) : kp_N S (g 1 2467 0) = 8 := h.2.1.2.2.1 _ (List.mem_of_getElem? (i := 65) rfl)
theorem q_l2468 {gr : Nat} {g : q_G} {S0 S : kp_S} (h : q_Gd gr g S0 S) : kp_N S (g 1 2468 0) = 300 := h.2.1.2.2.1 _ (List.mem_of_getElem? (i := 66) rfl)
theorem q_l2469 {gr : Nat} {g : q_G} {S0 S : kp_S} (h : q_Gd gr g S0 S) : kp_N S (g 1 2469 0) = 300 := h.2.1.2.2.1 _ (List.mem_of_getElem? (i := 67) rfl)
theorem q_l2488 {gr : Nat} {g : q_G} {S0 S : kp_S} (h : q_Gd gr g S0 S) : kp_N S (g 1 2488 0) = 240 := h.2.1.2.2.1 _ (List.mem_of_getElem? (i := 68) rfl)
theorem q_l2489 {gr : Nat} {g : q_G} {S0 S : kp_S} (h : q_Gd gr g S0 S) : kp_N S (g 1 2489 0) = 240 := h.2.1.2.2.1 _ (List.mem_of_getElem? (i := 69) rfl)
theorem q_l2490 {gr : Nat} {g : q_G} {S0 S : kp_S} (h : q_Gd gr g S0 S) : kp_N S (g 1 2490 0) = 240 := h.2.1.2.2.1 _ (List.mem_of_getElem? (i := 70) rfl)
theorem q_l2491 {gr : Nat} {g : q_G} {S0 S : kp_S} (h : q_Gd gr g S0 S) : kp_N S (g 1 2491 0) = 240 := h.2.1.2.2.1 _ (List.mem_of_getElem? (i := 71) rfl)
theorem q_l2492 {gr : Nat} {g : q_G} {S0 S : kp_S} (h : q_Gd gr g S0 S) : kp_N S (g 1 2492 0) = 240 := h.2.1.2.2.1 _ (List.mem_of_getElem? (i := 72) rfl)
theorem q_l2493 {gr : Nat} {g : q_G} {S0 S : kp_S} (h : q_Gd gr g S0 S) : kp_N S (g 1 2493 0) = 240 := h.2.1.2.2.1 _ (List.mem_of_getElem? (i := 73) rfl)
theorem q_l2494 {gr : Nat} {g : q_G} {S0 S : kp_S} (h : q_Gd gr g S0 S) : kp_N S (g 1 2494 0) = 240 := h.2.1.2.2.1 _ (List.mem_of_getElem? (i := 74) rfl)
theorem q_l2495 {gr : Nat} {g : q_G} {S0 S : kp_S} (h : q_Gd gr g S0 S) : kp_N S (g 1 2495 0) = 240 := h.2.1.2.2.1 _ (List.mem_of_getElem? (i := 75) rfl)
theorem q_l2496 {gr : Nat} {g : q_G} {S0 S : kp_S} (h : q_Gd gr g S0 S) : kp_N S (g 1 2496 0) = 240 := h.2.1.2.2.1 _ (List.mem_of_getElem? (i := 76) rfl)
theorem q_l2497 {gr : Nat} {g : q_G} {S0 S : kp_S} (h : q_Gd gr g S0 S) : kp_N S (g 1 2497 0) = 240 := h.2.1.2.2.1 _ (List.mem_of_getElem? (i := 77) rfl)
theorem q_l2498 {gr : Nat} {g : q_G} {S0 S : kp_S} (h : q_Gd gr g S0 S) : kp_N S (g 1 2498 0) = 240 := h.2.1.2.2.1 _ (List.mem_of_getElem? (i := 78) rfl)
theorem q_l2499 {gr : Nat} {g : q_G} {S0 S : kp_S} (h : q_Gd gr g S0 S) : kp_N S (g 1 2499 0) = 240 := h.2.1.2.2.1 _ (List.mem_of_getElem? (i := 79) rfl)
theorem q_l2500 {gr : Nat} {g : q_G} {S0 S : kp_S} (h : q_Gd gr g S0 S) : kp_N S (g 1 2500 0) = 240 := h.2.1.2.2.1 _ (List.mem_of_getElem? (i := 80) rfl)
theorem q_l2502 {gr : Nat} {g : q_G} {S0 S : kp_S} (h : q_Gd gr g S0 S) : kp_N S (g 1 2502 0) = 13 := h.2.1.2.2.1 _ (List.mem_of_getElem? (i := 81) rfl)
theorem q_l2503 {gr : Nat} {g : q_G} {S0 S : kp_S} (h : q_Gd gr g S0 S) : kp_N S (g 1 2503 0) = 13 := h.2.1.2.2.1 _ (List.mem_of_getElem? (i := 82) rfl)
theorem q_l2504 {gr : Nat} {g : q_G} {S0 S : kp_S} (h : q_Gd gr g S0 S) : kp_N S (g 1 2504 0) = 13 := h.2.1.2.2.1 _ (List.mem_of_getElem? (i := 83) rfl)
theorem q_l2505 {gr : Nat} {g : q_G} {S0 S : kp_S} (h : q_Gd gr g S0 S) : kp_N S (g 1 2505 0) = 13 := h.2.1.2.2.1 _ (List.mem_of_getElem? (i := 84) rfl)
theorem q_l2506 {gr : Nat} {g : q_G} {S0 S : kp_S} (h : q_Gd gr g S0 S) : kp_N S (g 1 2506 0) = 13 := h.2.1.2.2.1 _ (List.mem_of_getElem? (i := 85) rfl)
theorem q_l2507 {gr : Nat} {g : q_G} {S0 S : kp_S} (h : q_Gd gr g S0 S) : kp_N S (g 1 2507 0) = 520 := h.2.1.2.2.1 _ (List.mem_of_getElem? (i := 86) rfl)
theorem q_l2508 {gr : Nat} {g : q_G} {S0 S : kp_S} (h : q_Gd gr g S0 S) : kp_N S (g 1 2508 0) = 520 := h.2.1.2.2.1 _ (List.mem_of_getElem? (i := 87) rfl)
theorem q_l2509 {gr : Nat} {g : q_G} {S0 S : kp_S} (h : q_Gd gr g S0 S) : kp_N S (g 1 2509 0) = 312 := h.2.1.2.2.1 _ (List.mem_of_getElem? (i := 88) rfl)
theorem q_l2515 {gr : Nat} {g : q_G} {S0 S : kp_S} (h : q_Gd gr g S0 S) : kp_N S (g 1 2515 0) = 4000 := h.2.1.2.2.1 _ (List.mem_of_getElem? (i := 89) rfl)
theorem q_c804 {gr : Nat} {g : q_G} {S0 S : kp_S} {i : Nat} (h : q_Gd gr g S0 S) (hi : i < 12) : kp_C S (g 1 804 0) i = some (g 2 3 i) := (h.2.1.2.2.2.1 i hi).1
theorem q_p600 {gr : Nat} {g : q_G} {S0 S : kp_S} {i : Nat} (h : q_Gd gr g S0 S) (hi : i < 12) : kp_R S 600 (g 2 3 i) = some (g 3 600 i) := (h.2.1.2.2.2.1 i hi).2.1
theorem q_p601 {gr : Nat} {g : q_G} {S0 S : kp_S} {i : Nat} (h : q_Gd gr g S0 S) (hi : i < 12) : kp_R S 601 (g 2 3 i) = some (g 3 601 i) := (h.2.1.2.2.2.1 i hi).2.2.1
theorem q_l600 {gr : Nat} {g : q_G} {S0 S : kp_S} {i : Nat} (h : q_Gd gr g S0 S) (hi : i < 12) : kp_N S (g 3 600 i) = 24 := (h.2.1.2.2.2.1 i hi).2.2.2.1
theorem q_l601 {gr : Nat} {g : q_G} {S0 S : kp_S} {i : Nat} (h : q_Gd gr g S0 S) (hi : i < 12) : kp_N S (g 3 601 i) = 40 := (h.2.1.2.2.2.1 i hi).2.2.2.2
theorem q_c806 {gr : Nat} {g : q_G} {S0 S : kp_S} {i : Nat} (h : q_Gd gr g S0 S) (hi : i < 168) : kp_C S (g 1 806 0) i = some (g 2 6 i) := (h.2.1.2.2.2.2 i hi).1
theorem q_p1208 {gr : Nat} {g : q_G} {S0 S : kp_S} {i : Nat} (h : q_Gd gr g S0 S) (hi : i < 168) : kp_R S 1208 (g 2 6 i) = some (g 2 10 i) := (h.2.1.2.2.2.2 i hi).2
theorem q_fr {gr : Nat} {g : q_G} {S0 S T : kp_S} (h : kp_fr (q_own gr g) S0 S) (t : kp_fr (q_own gr g) S T) : kp_fr (q_own gr g) S0 T := h.tr (t.mono (fun _ _ h => Or.inl h))
theorem q_wI {gr : Nat} {g : q_G} {S0 S T : kp_S} {k c : Nat} {x : Int32} (h : q_Gd gr g S0 S) (e : T = kp_sI S k (g 0 c 0) x) (hc : k / 200 = c) (ho : q_oc gr 0 c = true) : q_Gd gr g S0 T ∧ q_w g T = q_si (q_w g S) k x := by
  subst e; subst hc
  refine ⟨⟨h.1, h.2.1, q_fr h.2.2 (kp_fr.sI ⟨0, _, 0, ho, rfl⟩)⟩, ?_⟩
  refine Prod.ext (funext fun j => ?_) (Prod.ext rfl (Prod.ext rfl (Prod.ext rfl (Prod.ext (funext fun j => funext fun m => ?_) rfl))))
  · show kp_I (kp_sI S k (g 0 (k / 200) 0) x) j (g 0 (j / 200) 0) = if j = k then x else kp_I S j (g 0 (j / 200) 0)
    rw [rd_I_sI]
    by_cases hj : j = k
    · subst hj; rw [if_pos ⟨rfl, rfl⟩, if_pos rfl]
    · rw [if_neg (fun q => hj q.1), if_neg hj]
  · show kp_I (kp_sI S k (g 0 (k / 200) 0) x) j (g 2 (j / 200) m) = kp_I S j (g 2 (j / 200) m)
    rw [rd_I_sI, if_neg (fun q => absurd (h.1 _ _ _ _ _ _ q.2).1 (by decide))]
theorem q_wJ {gr : Nat} {g : q_G} {S0 S T : kp_S} {k c : Nat} {x : Int64} (h : q_Gd gr g S0 S) (e : T = kp_sJ S k (g 0 c 0) x) (hc : k / 200 = c) (ho : q_oc gr 0 c = true) : q_Gd gr g S0 T ∧ q_w g T = q_sj (q_w g S) k x := by
  subst e; subst hc
  refine ⟨⟨h.1, h.2.1, q_fr h.2.2 (kp_fr.sJ ⟨0, _, 0, ho, rfl⟩)⟩, ?_⟩
  refine Prod.ext rfl (Prod.ext (funext fun j => ?_) rfl)
  show kp_J (kp_sJ S k (g 0 (k / 200) 0) x) j (g 0 (j / 200) 0) = if j = k then x else kp_J S j (g 0 (j / 200) 0)
  rw [rd_J_sJ]
  by_cases hj : j = k
  · subst hj; rw [if_pos ⟨rfl, rfl⟩, if_pos rfl]
  · rw [if_neg (fun q => hj q.1), if_neg hj]
theorem q_wF {gr : Nat} {g : q_G} {S0 S T : kp_S} {k c n : Nat} {x : Int32} (h : q_Gd gr g S0 S) (e : T = kp_sI S k (g 2 c n) x) (hc : k / 200 = c) (ho : q_oc gr 2 c = true) : q_Gd gr g S0 T ∧ q_w g T = q_sf (q_w g S) k n x := by
  subst e; subst hc
  refine ⟨⟨h.1, h.2.1, q_fr h.2.2 (kp_fr.sI ⟨2, _, n, ho, rfl⟩)⟩, ?_⟩
  refine Prod.ext (funext fun j => ?_) (Prod.ext rfl (Prod.ext rfl (Prod.ext rfl (Prod.ext (funext fun j => funext fun m => ?_) rfl))))
  · show kp_I (kp_sI S k (g 2 (k / 200) n) x) j (g 0 (j / 200) 0) = kp_I S j (g 0 (j / 200) 0)
    rw [rd_I_sI, if_neg (fun q => absurd (h.1 _ _ _ _ _ _ q.2).1 (by decide))]
  · show kp_I (kp_sI S k (g 2 (k / 200) n) x) j (g 2 (j / 200) m) = if j = k ∧ m = n then x else kp_I S j (g 2 (j / 200) m)
    rw [rd_I_sI]
    by_cases hj : j = k ∧ m = n
    · rw [if_pos hj, if_pos ⟨hj.1, by rw [hj.1, hj.2]⟩]
    · rw [if_neg hj, if_neg (fun q => hj ⟨q.1, (h.1 _ _ _ _ _ _ q.2).2.2⟩)]
theorem q_wA {gr : Nat} {g : q_G} {S0 S T : kp_S} {k : Nat} {x : Nat → Int32} (h : q_Gd gr g S0 S) (e : T = kp_sA S (g 1 k 0) x) (ho : q_oc gr 1 k = true) : q_Gd gr g S0 T ∧ q_w g T = q_sa (q_w g S) k x := by
  subst e
  refine ⟨⟨h.1, h.2.1, q_fr h.2.2 (kp_fr.sA ⟨1, _, 0, ho, rfl⟩)⟩, ?_⟩
  refine Prod.ext rfl (Prod.ext rfl (Prod.ext (funext fun j => ?_) (Prod.ext rfl (Prod.ext rfl (Prod.ext (funext fun j => funext fun m => ?_) rfl)))))
  · show kp_A (kp_sA S (g 1 k 0) x) (g 1 j 0) = if j = k then x else kp_A S (g 1 j 0)
    rw [rd_A_sA]
    by_cases hj : j = k
    · subst hj; rw [if_pos rfl, if_pos rfl]
    · rw [if_neg (fun q => hj (h.1 _ _ _ _ _ _ q).2.1), if_neg hj]
  · show kp_A (kp_sA S (g 1 k 0) x) (g 3 j m) = kp_A S (g 3 j m)
    rw [rd_A_sA, if_neg (fun q => absurd (h.1 _ _ _ _ _ _ q).1 (by decide))]
theorem q_wC {gr : Nat} {g : q_G} {S0 S T : kp_S} {k n : Nat} {x : Nat → Int32} (h : q_Gd gr g S0 S) (e : T = kp_sA S (g 3 k n) x) (ho : q_oc gr 3 k = true) : q_Gd gr g S0 T ∧ q_w g T = q_sc (q_w g S) k n x := by
  subst e
  refine ⟨⟨h.1, h.2.1, q_fr h.2.2 (kp_fr.sA ⟨3, _, n, ho, rfl⟩)⟩, ?_⟩
  refine Prod.ext rfl (Prod.ext rfl (Prod.ext (funext fun j => ?_) (Prod.ext rfl (Prod.ext rfl (Prod.ext (funext fun j => funext fun m => ?_) rfl)))))
  · show kp_A (kp_sA S (g 3 k n) x) (g 1 j 0) = kp_A S (g 1 j 0)
    rw [rd_A_sA, if_neg (fun q => absurd (h.1 _ _ _ _ _ _ q).1 (by decide))]
  · show kp_A (kp_sA S (g 3 k n) x) (g 3 j m) = if j = k ∧ m = n then x else kp_A S (g 3 j m)
    rw [rd_A_sA]
    by_cases hj : j = k ∧ m = n
    · rw [if_pos hj, if_pos (by rw [hj.1, hj.2])]
    · rw [if_neg hj, if_neg (fun q => hj (h.1 _ _ _ _ _ _ q).2)]
theorem q_wB {gr : Nat} {g : q_G} {S0 S T : kp_S} {k : Nat} {x : Nat → Int64} (h : q_Gd gr g S0 S) (e : T = kp_sB S (g 1 k 0) x) (ho : q_oc gr 1 k = true) : q_Gd gr g S0 T ∧ q_w g T = q_sb (q_w g S) k x := by
  subst e
  refine ⟨⟨h.1, h.2.1, q_fr h.2.2 (kp_fr.sB ⟨1, _, 0, ho, rfl⟩)⟩, ?_⟩
  refine Prod.ext rfl (Prod.ext rfl (Prod.ext rfl (Prod.ext (funext fun j => ?_) rfl)))
  show kp_B (kp_sB S (g 1 k 0) x) (g 1 j 0) = if j = k then x else kp_B S (g 1 j 0)
  rw [rd_B_sB]
  by_cases hj : j = k
  · subst hj; rw [if_pos rfl, if_pos rfl]
  · rw [if_neg (fun q => hj (h.1 _ _ _ _ _ _ q).2.1), if_neg hj]
/-! THE PIECES of the functions. -/
def q_N : Nat := 2000000000
def q_lt {α β : Type} (x : α) (k : α → β) : β := k x
def q_bd {α β : Type} (o : Option (α × q_V)) (k : α → q_V → Option β) : Option β := match o with
  | some r => k r.1 r.2
  | none => none
def q_bv {β : Type} (o : Option q_V) (k : q_V → Option β) : Option β := match o with
  | some r => k r
  | none => none
theorem q_bd_s {α β : Type} {y : α} {v : q_V} {k : α → q_V → Option β} : q_bd (some (y, v)) k = k y v := rfl
theorem q_bv_s {β : Type} {v : q_V} {k : q_V → Option β} : q_bv (some v) k = k v := rfl
theorem q_lt_s {α β : Type} {x : α} {k : α → β} : q_lt x k = k x := rfl
theorem q_bdi {α β : Type} {o : Option (α × q_V)} {k : α → q_V → Option β} {z : β} (h : q_bd o k = some z) : ∃ y v, o = some (y, v) ∧ k y v = some z := by
  cases o with
  | none => cases h
  | some r => exact ⟨r.1, r.2, rfl, h⟩
theorem q_bvi {β : Type} {o : Option q_V} {k : q_V → Option β} {z : β} (h : q_bv o k = some z) : ∃ v, o = some v ∧ k v = some z := by
  cases o with
  | none => cases h
  | some r => exact ⟨r, rfl, h⟩
theorem q_ltw {α β : Type} {x y : α} {k : α → β} {z : β} (h : q_lt x k = z) (q : y = x) : k y = z := by subst q; exact h
theorem q_ifp {c : Prop} [Decidable c] {α : Type} {a b z : α} (h : (if c then a else b) = z) (hc : c) : a = z := by rw [if_pos hc] at h; exact h
theorem q_ifn {c : Prop} [Decidable c] {α : Type} {a b z : α} (h : (if c then a else b) = z) (hc : ¬ c) : b = z := by rw [if_neg hc] at h; exact h
theorem q_in {c : Prop} [Decidable c] {α : Type} {b : Option α} {z : α} (h : (if c then none else b) = some z) : ¬ c ∧ b = some z := by
  by_cases hc : c
  · rw [if_pos hc] at h; cases h
  · rw [if_neg hc] at h; exact ⟨hc, h⟩
theorem q_ilt {i : Int32} {n : Nat} (h : ¬ (i < 0 ∨ n ≤ i.toNatClampNeg)) : i.toNatClampNeg < n := Nat.lt_of_not_le (fun q => h (Or.inr q))
theorem q_fin {α : Type} {gr : Nat} {g : q_G} {S0 T : kp_S} {a y : α} {v : q_V} {post : α → kp_S → Prop} (h : some (a, q_w g T) = some (y, v)) (kk : ∀ S', q_Gd gr g S0 S' → v = q_w g S' → post y S') (R : q_Gd gr g S0 T) : post a T := by
  cases h; exact kk _ R rfl
theorem q_finv {gr : Nat} {g : q_G} {S0 T : kp_S} {v : q_V} {post : kp_S → Prop} (h : some (q_w g T) = some v) (kk : ∀ S', q_Gd gr g S0 S' → v = q_w g S' → post S') (R : q_Gd gr g S0 T) : post T := by
  cases h; exact kk _ R rfl
theorem q_finf {gr : Nat} {g : q_G} {S0 T : kp_S} {a y d c : Nat} {v : q_V} {post : Nat → kp_S → Prop} (h : some (a, q_w g T) = some (y, v)) (kk : ∀ S', q_Gd gr g S0 S' → v = q_w g S' → y < d → post (g 2 c y) S') (R : q_Gd gr g S0 T) (hd : a < d) : post (g 2 c a) T := by
  cases h; exact kk _ R rfl hd
