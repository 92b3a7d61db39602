def ru_B (sz : Nat) (v : q_V) : Prop := q_i v 1 = nI sz ∧ sz ≤ q_n v 0 ∧ q_n v 0 ≤ 6016
theorem cs_get {sz p : Nat} {v : q_V} (B : ru_B sz v) (hp : p < sz) : fX0_get (nI p) v = some (q_a v 0 p, v) := by
  obtain ⟨h1, h2, h3⟩ := B
  unfold fX0_get fX0_get_b32
  rw [h1, if_neg (by rw [ni_neg (by omega)]; exact id), if_neg (by rw [ni_le (by omega) (by omega)]; omega), if_neg (by rw [ni_le (by omega) (by omega)]; omega), if_neg (by rw [ni_in (by omega) (by omega)]; exact id), ni_clamp (by omega)]
theorem cs_take {sz : Nat} {v : q_V} {p h f np cl : Nat} (B : ru_B sz v) (hp : p < sz) : fX4_take (mC v p h f np cl) = some (q_a v 0 p, mC v (p + 1) h f np cl) := by
  unfold fX4_take
  rw [mC_810, cs_get (v := mC v p h f np cl) B hp, q_bd_s, q_lt_s, mC_810, ni_add1, mC_s810]; rfl
theorem cs_push {v : q_V} {x : Int32} {p h f np cl : Nat} (hh : h < 1680) : fX4_push x (mC v p h f np cl) = some (mC (q_sa v 802 (upd (q_a v 802) h x)) p (h + 1) f np cl) := by
  unfold fX4_push fX4_push_b39
  rw [mC_803, if_neg (by rw [ni_neg (by omega)]; exact id), if_neg (by rw [show (1680 : Int32) = nI 1680 from rfl, ni_le (by omega) (by omega)]; omega), if_neg (by rw [ni_in (by omega) (by omega)]; exact id), ni_clamp (by omega), q_lt_s, q_lt_s, mC_sa, mC_803, ni_add1, mC_s803]; rfl
theorem cs_pop {v : q_V} {p h f np cl : Nat} (hh : h < 1680) : fX4_pop (mC v p (h + 1) f np cl) = some (q_a v 802 h, mC v p h f np cl) := by
  have e1 : nI (h + 1) - 1 = nI h := by rw [show (1 : Int32) = nI 1 from rfl, ni_sub (by omega)]; rfl
  unfold fX4_pop
  rw [mC_803, if_neg (by rw [show (0 : Int32) = nI 0 from rfl, ni_le (by omega) (by omega)]; omega), if_pos (by rw [show (1680 : Int32) = nI 1680 from rfl, ni_le (by omega) (by omega)]; omega), q_lt_s, e1, mC_s803, mC_803]
  rw [if_neg (by rw [ni_in (by omega) (by omega)]; exact id), ni_clamp (by omega)]; rfl
theorem cs_peek0 {v : q_V} {p h f np cl : Nat} (hh : h < 1680) : fX4_peek 0 (mC v p (h + 1) f np cl) = some (q_a v 802 h, mC v p (h + 1) f np cl) := by
  have e1 : nI (h + 1) - 1 - 0 = nI h := by rw [show (1 : Int32) = nI 1 from rfl, ni_sub (by omega), show (0 : Int32) = nI 0 from rfl, ni_sub (by omega)]; rfl
  unfold fX4_peek fX4_peek_b32
  rw [mC_803, e1, q_lt_s, if_neg (by rw [ni_neg (by omega)]; exact id), if_neg (by rw [show (1680 : Int32) = nI 1680 from rfl, ni_le (by omega) (by omega)]; omega), if_neg (by rw [ni_in (by omega) (by omega)]; exact id), ni_clamp (by omega)]; rfl
theorem cs_peek1 {v : q_V} {p h f np cl : Nat} (hh : h < 1680) : fX4_peek 1 (mC v p (h + 2) f np cl) = some (q_a v 802 h, mC v p (h + 2) f np cl) := by
  have e1 : nI (h + 2) - 1 - 1 = nI h := by rw [show (1 : Int32) = nI 1 from rfl, ni_sub (by omega), ni_sub (by omega)]; rfl
  unfold fX4_peek fX4_peek_b32
  rw [mC_803, e1, q_lt_s, if_neg (by rw [ni_neg (by omega)]; exact id), if_neg (by rw [show (1680 : Int32) = nI 1680 from rfl, ni_le (by omega) (by omega)]; omega), if_neg (by rw [ni_in (by omega) (by omega)]; exact id), ni_clamp (by omega)]; rfl
theorem cs_frame {v : q_V} {p h f np cl : Nat} (hc : cl < 12) : fX4_frame (mC v p h f np (cl + 1)) = some (cl, mC v p h f np (cl + 1)) := by
  have e1 : nI (cl + 1) - 1 = nI cl := by rw [show (1 : Int32) = nI 1 from rfl, ni_sub (by omega)]; rfl
  unfold fX4_frame fX4_frame_b33
  rw [mC_805, if_neg (by rw [show (0 : Int32) = nI 0 from rfl, ni_le (by omega) (by omega)]; omega), if_neg (by rw [show (12 : Int32) = nI 12 from rfl, ni_lt (by omega) (by omega)]; omega), e1, if_neg (by rw [ni_in (by omega) (by omega)]; exact id), ni_clamp (by omega)]
theorem cs_top {v : q_V} {p h f np cl : Nat} (hc : np < 168) : fX4_top (mC v p h f (np + 1) cl) = some (np, mC v p h f (np + 1) cl) := by
  have e1 : nI (np + 1) - 1 = nI np := by rw [show (1 : Int32) = nI 1 from rfl, ni_sub (by omega)]; rfl
  unfold fX4_top fX4_top_b33
  rw [mC_807, if_neg (by rw [show (0 : Int32) = nI 0 from rfl, ni_le (by omega) (by omega)]; omega), if_neg (by rw [show (168 : Int32) = nI 168 from rfl, ni_lt (by omega) (by omega)]; omega), e1, if_neg (by rw [ni_in (by omega) (by omega)]; exact id), ni_clamp (by omega)]
theorem cs_spend {v : q_V} {p h f np cl : Nat} (hf : f < 20000) : fX4_spend (mC v p h (f + 1) np cl) = some (1, mC v p h f np cl) := by
  have e1 : nI (f + 1) - 1 = nI f := by rw [show (1 : Int32) = nI 1 from rfl, ni_sub (by omega)]; rfl
  unfold fX4_spend
  rw [mC_813, if_pos (by rw [show (0 : Int32) = nI 0 from rfl, ni_lt (by omega) (by omega)]; omega), e1, mC_s813, q_lt_s]
theorem cs_spend0 {v : q_V} {p h np cl : Nat} : fX4_spend (mC v p h 0 np cl) = some (0, mC (q_si v 814 2) p h 0 np cl) := by
  unfold fX4_spend
  rw [mC_813, if_neg (by decide), mC_s814, q_lt_s]
/-- what begins a part: its order, where it stands, values and WITHIN -/
def ru_bg (v : q_V) (np h : Nat) (op at_ : Int32) : q_V := q_sf (q_sf (q_sf (q_sf (q_sf v 1200 np op) 1201 np 0) 1202 np at_) 1203 np (nI h)) 1207 np (q_i v 812)
theorem cs_begin {v : q_V} {x y : Int32} {p h f np cl : Nat} (hc : np < 168) : fX4_begin x y (mC v p h f np cl) = some (np, mC (ru_bg v np h x y) p h f (np + 1) cl) := by
  unfold fX4_begin fX4_begin_b22
  rw [mC_807, if_neg (by rw [show (168 : Int32) = nI 168 from rfl, ni_le (by omega) (by omega)]; omega), q_lt_s, ni_add1, mC_s807, cs_top hc, q_bd_s]
  simp only [q_lt_s, mC_sf]; rfl
/-- the report -/
def ru_ct (v : q_V) (k : Nat) : q_V := q_sa v 1400 (upd (q_a v 1400) k (q_a v 1400 k + 1))
def ru_wr (v : q_V) (s n : Int32) : q_V :=
  q_sa (q_sa (q_sa v 1401 (if q_a v 1400 16 < 0 ∨ 300 ≤ q_a v 1400 16 then q_a v 1401 else upd (q_a v 1401) (q_a v 1400 16).toNatClampNeg s)) 1402 (if q_a v 1400 16 < 0 ∨ 300 ≤ q_a v 1400 16 then q_a v 1402 else upd (q_a v 1402) (q_a v 1400 16).toNatClampNeg n)) 1400 (upd (q_a v 1400) 16 (q_a v 1400 16 + 1))
theorem q_sa_id {v : q_V} {k : Nat} : q_sa v k (q_a v k) = v := by
  refine q_ext (fun _ => rfl) rfl ?_ rfl rfl rfl rfl
  funext j; rw [q_a_sa]; split
  · next h => rw [h]
  · rfl
theorem cs_ct6 {v : q_V} : fX7_count 6 v = some (ru_ct v 6) := rfl
theorem cs_ct7 {v : q_V} : fX7_count 7 v = some (ru_ct v 7) := rfl
theorem cs_ct8 {v : q_V} : fX7_count 8 v = some (ru_ct v 8) := rfl
theorem cs_ct9 {v : q_V} : fX7_count 9 v = some (ru_ct v 9) := rfl
theorem cs_ct10 {v : q_V} : fX7_count 10 v = some (ru_ct v 10) := rfl
theorem cs_ct11 {v : q_V} : fX7_count 11 v = some (ru_ct v 11) := rfl
theorem cs_ct12 {v : q_V} : fX7_count 12 v = some (ru_ct v 12) := rfl
theorem cs_ct13 {v : q_V} : fX7_count 13 v = some (ru_ct v 13) := rfl
theorem cs_ct14 {v : q_V} : fX7_count 14 v = some (ru_ct v 14) := rfl
theorem cs_ct15 {v : q_V} : fX7_count 15 v = some (ru_ct v 15) := rfl
