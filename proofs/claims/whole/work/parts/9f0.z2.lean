set_option maxHeartbeats 200000 in
theorem cs_set {k : Nat} {x : Int32} {v : q_V} (hk : k < 19) : fX7_set (nI k) x v = some (q_sa v 1400 (upd (q_a v 1400) k x)) := by
  unfold fX7_set fX7_set_b17
  rw [if_neg (show ¬ nI k < 0 by rw [ni_neg (by omega)]; exact id), if_neg (show ¬ 19 ≤ nI k by rw [show (19 : Int32) = nI 19 from rfl, ni_le (by omega) (by omega)]; omega), if_neg (show ¬ (nI k < 0 ∨ 19 ≤ (nI k).toNatClampNeg) by rw [ni_in hk (by omega)]; exact id), q_lt_s, ni_clamp (by omega)]
set_option maxHeartbeats 200000 in
theorem cs_get17 {v : q_V} : fX7_get 17 v = some (q_a v 1400 17, v) := by
  unfold fX7_get fX7_get_b20
  rw [if_neg (by decide), if_neg (by decide), if_neg (by decide)]; rfl
/-- the class's holds dropped -/
def ru_dh (v : q_V) : q_V := q_sa v 203 (fun k => if k < 6 then 0 else q_a v 203 k)
set_option maxHeartbeats 200000 in
theorem cs_drop_L {v : q_V} : ∀ r i n, i + r = 6 → r < n → fX1_dropHolds_L2 n (nI i) (q_sa v 203 (fun k => if k < i then 0 else q_a v 203 k)) = some (ru_dh v) := by
  intro r
  induction r with
  | zero =>
    intro i n hi hn
    obtain ⟨n, rfl⟩ : ∃ k, n = k + 1 := ⟨n - 1, by omega⟩
    obtain rfl : i = 6 := by omega
    rw [fX1_dropHolds_L2, if_pos (by decide)]; rfl
  | succ r ih =>
    intro i n hi hn
    obtain ⟨n, rfl⟩ : ∃ k, n = k + 1 := ⟨n - 1, by omega⟩
    have e : upd (fun k => if k < i then 0 else q_a v 203 k) i 0 = fun k => if k < i + 1 then 0 else q_a v 203 k := by
      funext k
      unfold upd
      by_cases c : k = i
      · rw [if_pos c, if_pos (by omega)]
      · rw [if_neg c]
        by_cases c2 : k < i
        · exact (if_pos c2).trans (if_pos (by omega)).symm
        · exact (if_neg c2).trans (if_neg (by omega)).symm
    rw [fX1_dropHolds_L2, if_neg (by rw [show (6 : Int32) = nI 6 from rfl, ni_le (by omega) (by omega)]; omega), if_neg (by rw [ni_in (show i < 6 by omega) (by omega)]; exact id), q_lt_s, q_lt_s, ni_clamp (by omega), ni_add1, q_a_sa, if_pos rfl, q_sa_sa, e]
    exact ih (i + 1) n (by omega) (by omega)
set_option maxHeartbeats 200000 in
theorem cs_drop {v : q_V} : fX1_dropHolds v = some (ru_dh v) := by
  unfold fX1_dropHolds
  have h := cs_drop_L (v := v) 6 0 q_N (by omega) (by unfold q_N; omega)
  have e : q_sa v 203 (fun k => if k < 0 then 0 else q_a v 203 k) = v := by
    have : (fun k => if k < 0 then (0 : Int32) else q_a v 203 k) = q_a v 203 := by funext k; rw [if_neg (by omega)]
    rw [this, q_sa_id]
  rw [e] at h
  exact h
/-- the reference's -/
def ru_dr (v : q_V) : q_V := q_sa v 2465 (fun k => if k < 6 then 0 else q_a v 2465 k)
set_option maxHeartbeats 200000 in
theorem rs_drop_L {v : q_V} : ∀ r i n, i + r = 6 → r < n → fX12_tellEnd_L69 n (nI i) (q_sa v 2465 (fun k => if k < i then 0 else q_a v 2465 k)) = some (q_si (ru_dr v) 2517 (q_i v 2513)) := by
  intro r
  induction r with
  | zero =>
    intro i n hi hn
    obtain ⟨n, rfl⟩ : ∃ k, n = k + 1 := ⟨n - 1, by omega⟩
    obtain rfl : i = 6 := by omega
    rw [fX12_tellEnd_L69, if_pos (by decide), q_lt_s]; rfl
  | succ r ih =>
    intro i n hi hn
    obtain ⟨n, rfl⟩ : ∃ k, n = k + 1 := ⟨n - 1, by omega⟩
    have e : upd (fun k => if k < i then 0 else q_a v 2465 k) i 0 = fun k => if k < i + 1 then 0 else q_a v 2465 k := by
      funext k
      unfold upd
      by_cases c : k = i
      · rw [if_pos c, if_pos (by omega)]
      · rw [if_neg c]
        by_cases c2 : k < i
        · exact (if_pos c2).trans (if_pos (by omega)).symm
        · exact (if_neg c2).trans (if_neg (by omega)).symm
    rw [fX12_tellEnd_L69, if_neg (by rw [show (6 : Int32) = nI 6 from rfl, ni_le (by omega) (by omega)]; omega), if_neg (by rw [ni_in (show i < 6 by omega) (by omega)]; exact id), q_lt_s, q_lt_s, ni_clamp (by omega), ni_add1, q_a_sa, if_pos rfl, q_sa_sa, e]
    exact ih (i + 1) n (by omega) (by omega)
set_option maxHeartbeats 200000 in
theorem rs_drop {v : q_V} : fX12_tellEnd_L69 q_N 0 v = some (q_si (ru_dr v) 2517 (q_i v 2513)) := by
  have h := rs_drop_L (v := v) 6 0 q_N (by omega) (by unfold q_N; omega)
  have e : q_sa v 2465 (fun k => if k < 0 then 0 else q_a v 2465 k) = v := by
    have : (fun k => if k < 0 then (0 : Int32) else q_a v 2465 k) = q_a v 2465 := by funext k; rw [if_neg (by omega)]
    rw [this, q_sa_id]
  rw [e] at h
  exact h
/-- what the class's report says at the end -/
def ru_te (v : q_V) (x : Int32) : Nat → Int32 := upd (upd (upd (q_a v 1400) 0 (q_i v 814)) 5 (q_i v 813)) 17 (q_a v 1400 17 + x - q_i v 813)
set_option maxHeartbeats 200000 in
theorem cs_te {v : q_V} {x : Int32} : fX4_tellEnd x v =
    if q_i v 814 = 0 then
      if q_f v 2000 168 = 2 then some (q_sa v 1400 (upd (upd (ru_te v x) 1 (q_f v 2001 168)) 18 (q_f v 2000 168)))
      else some (q_sa v 1400 (upd (upd (ru_te v x) 1 0) 18 (q_f v 2000 168)))
    else if q_i v 814 = 3 then some (q_sa v 1400 (upd (upd (upd (upd (ru_te v x) 2 (q_f v 2001 168)) 3 (q_f v 2002 168)) 4 (q_f v 2003 168)) 18 (q_f v 2000 168)))
    else some (ru_dh (q_sa v 1400 (ru_te v x))) := by
  have s : ∀ (k : Nat) (y : Int32) (z : Nat → Int32), k < 19 → fX7_set (nI k) y (q_sa v 1400 z) = some (q_sa v 1400 (upd z k y)) := by
    intro k y z hk
    rw [cs_set hk, q_a_sa, if_pos rfl, q_sa_sa]
  have b83 : ∀ y : Int32, fX4_tellEnd_b83 x y 1 (q_sa v 1400 (ru_te v x)) = some (q_sa v 1400 (upd (upd (ru_te v x) 1 y) 18 (q_f v 2000 168))) := by
    intro y
    unfold fX4_tellEnd_b83 fX4_tellEnd_b184
    rw [show fX7_set 1 y (q_sa v 1400 (ru_te v x)) = _ from s 1 y _ (by omega), q_bv_s, q_f_sa, show ∀ z w, fX7_set 18 w (q_sa v 1400 z) = _ from fun z w => s 18 w z (by omega), q_bv_s]
  unfold fX4_tellEnd
  rw [show fX7_set 0 (q_i v 814) v = _ from cs_set (k := 0) (by omega), q_bv_s, q_i_sa, show ∀ z w, fX7_set 5 w (q_sa v 1400 z) = _ from fun z w => s 5 w z (by omega), q_bv_s, cs_get17, q_bd_s, q_a_sa, if_pos rfl, q_i_sa, show ∀ z w, fX7_set 17 w (q_sa v 1400 z) = _ from fun z w => s 17 w z (by omega), q_bv_s, upd_ne (by omega), upd_ne (by omega), q_i_sa, q_f_sa]
  rw [show upd (upd (upd (q_a v 1400) 0 (q_i v 814)) 5 (q_i v 813)) 17 (q_a v 1400 17 + x - q_i v 813) = ru_te v x from rfl, b83, b83]
  unfold fX4_tellEnd_b184
  rw [cs_drop, q_bv_s, show ∀ z w, fX7_set 2 w (q_sa v 1400 z) = _ from fun z w => s 2 w z (by omega), q_bv_s, q_f_sa, show ∀ z w, fX7_set 3 w (q_sa v 1400 z) = _ from fun z w => s 3 w z (by omega), q_bv_s, q_f_sa, show ∀ z w, fX7_set 4 w (q_sa v 1400 z) = _ from fun z w => s 4 w z (by omega), q_bv_s, q_f_sa, show ∀ z w, fX7_set 18 w (q_sa v 1400 z) = _ from fun z w => s 18 w z (by omega), q_bv_s]
