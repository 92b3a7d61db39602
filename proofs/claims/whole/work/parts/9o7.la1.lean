/-! what a run leaves alone, a row for each function (made by genloc.py) -/
def lc (b : Nat → Bool) (v0 v : q_V) : Prop := (∀ k, b k = false → q_i v k = q_i v0 k) ∧ (∀ k, b k = false → q_j v k = q_j v0 k) ∧ (∀ k, b k = false → q_a v k = q_a v0 k) ∧ (∀ k, b k = false → q_b v k = q_b v0 k) ∧ (∀ k, b k = false → q_f v k = q_f v0 k) ∧ (∀ k, b k = false → q_c v k = q_c v0 k) ∧ q_n v = q_n v0
def lo_D {α : Type} (b : Nat → Bool) (v0 : q_V) (X : Option (α × q_V)) : Prop := ∀ a v, X = some (a, v) → lc b v0 v
def lo_V (b : Nat → Bool) (v0 : q_V) (X : Option q_V) : Prop := ∀ v, X = some v → lc b v0 v
def bR (k : Nat) : Bool := (Nat.ble 200 k && Nat.ble k 204) || (Nat.ble 600 k && Nat.ble k 604) || (Nat.ble 802 k && Nat.ble k 814) || (Nat.ble 1200 k && Nat.ble k 1207) || (Nat.ble 1400 k && Nat.ble k 1402) || (Nat.ble 2000 k && Nat.ble k 2003)
def bW (k : Nat) : Bool := Nat.ble 2463 k && Nat.ble k 2524
section
variable {b : Nat → Bool} {v0 v : q_V} {α β : Type}
set_option maxHeartbeats 200000 in
theorem lc_0 : lc b v v := ⟨fun _ _ => rfl, fun _ _ => rfl, fun _ _ => rfl, fun _ _ => rfl, fun _ _ => rfl, fun _ _ => rfl, rfl⟩
set_option maxHeartbeats 200000 in
theorem bne {k j : Nat} (hk : b k = true) (hj : b j = false) : j ≠ k := fun z => by rw [z, hk] at hj; cases hj
set_option maxHeartbeats 200000 in
theorem lcI {k : Nat} {x : Int32} (h : lc b v0 v) (hk : b k = true) : lc b v0 (q_si v k x) := ⟨fun j hj => by rw [q_i_ne (bne hk hj)]; exact h.1 j hj, h.2⟩
set_option maxHeartbeats 200000 in
theorem lcJ {k : Nat} {x : Int64} (h : lc b v0 v) (hk : b k = true) : lc b v0 (q_sj v k x) := ⟨h.1, fun j hj => by rw [q_j_sj, if_neg (bne hk hj)]; exact h.2.1 j hj, h.2.2⟩
set_option maxHeartbeats 200000 in
theorem lcA {k : Nat} {x : Nat → Int32} (h : lc b v0 v) (hk : b k = true) : lc b v0 (q_sa v k x) := ⟨h.1, h.2.1, fun j hj => by rw [q_a_sa, if_neg (bne hk hj)]; exact h.2.2.1 j hj, h.2.2.2⟩
set_option maxHeartbeats 200000 in
theorem lcB {k : Nat} {x : Nat → Int64} (h : lc b v0 v) (hk : b k = true) : lc b v0 (q_sb v k x) := ⟨h.1, h.2.1, h.2.2.1, fun j hj => by rw [q_b_sb, if_neg (bne hk hj)]; exact h.2.2.2.1 j hj, h.2.2.2.2⟩
set_option maxHeartbeats 200000 in
theorem lcF {k n : Nat} {x : Int32} (h : lc b v0 v) (hk : b k = true) : lc b v0 (q_sf v k n x) := ⟨h.1, h.2.1, h.2.2.1, h.2.2.2.1, fun j hj => by
  funext m
  rw [q_f_sf, if_neg (fun z => bne hk hj z.1)]; exact congrFun (h.2.2.2.2.1 j hj) m, h.2.2.2.2.2⟩
set_option maxHeartbeats 200000 in
theorem lcC {k n : Nat} {x : Nat → Int32} (h : lc b v0 v) (hk : b k = true) : lc b v0 (q_sc v k n x) := ⟨h.1, h.2.1, h.2.2.1, h.2.2.2.1, h.2.2.2.2.1, fun j hj => by
  funext m
  rw [q_c_sc, if_neg (fun z => bne hk hj z.1)]; exact congrFun (h.2.2.2.2.2.1 j hj) m, h.2.2.2.2.2.2⟩
set_option maxHeartbeats 200000 in
theorem lo_nD : lo_D b v0 (none : Option (α × q_V)) := fun _ _ h => by cases h
set_option maxHeartbeats 200000 in
theorem lo_nV : lo_V b v0 none := fun _ h => by cases h
set_option maxHeartbeats 200000 in
theorem lo_sD {a : α} (h : lc b v0 v) : lo_D b v0 (some (a, v)) := fun _ _ e => by cases e; exact h
set_option maxHeartbeats 200000 in
theorem lo_sV (h : lc b v0 v) : lo_V b v0 (some v) := fun _ e => by cases e; exact h
set_option maxHeartbeats 200000 in
theorem lo_iD {c : Prop} [Decidable c] {X Y : Option (α × q_V)} (h1 : c → lo_D b v0 X) (h2 : ¬ c → lo_D b v0 Y) : lo_D b v0 (if c then X else Y) := by
  split
  · exact h1 (by assumption)
  · exact h2 (by assumption)
set_option maxHeartbeats 200000 in
theorem lo_iV {c : Prop} [Decidable c] {X Y : Option q_V} (h1 : c → lo_V b v0 X) (h2 : ¬ c → lo_V b v0 Y) : lo_V b v0 (if c then X else Y) := by
  split
  · exact h1 (by assumption)
  · exact h2 (by assumption)
set_option maxHeartbeats 200000 in
theorem lo_xD {x : β} {k : β → Option (α × q_V)} (h : ∀ {y}, lo_D b v0 (k y)) : lo_D b v0 (q_lt x k) := h
set_option maxHeartbeats 200000 in
theorem lo_xV {x : β} {k : β → Option q_V} (h : ∀ {y}, lo_V b v0 (k y)) : lo_V b v0 (q_lt x k) := h
set_option maxHeartbeats 200000 in
theorem lo_wD {x : q_V} {k : q_V → Option (α × q_V)} (hx : lc b v0 x) (h : ∀ y, lc b v0 y → lo_D b v0 (k y)) : lo_D b v0 (q_lt x k) := h x hx
set_option maxHeartbeats 200000 in
theorem lo_wV {x : q_V} {k : q_V → Option q_V} (hx : lc b v0 x) (h : ∀ y, lc b v0 y → lo_V b v0 (k y)) : lo_V b v0 (q_lt x k) := h x hx
set_option maxHeartbeats 200000 in
theorem lo_dD {X : Option (β × q_V)} {k : β → q_V → Option (α × q_V)} (hx : lo_D b v0 X) (h : ∀ a y, lc b v0 y → lo_D b v0 (k a y)) : lo_D b v0 (q_bd X k) := by
  cases X with
  | none => exact fun _ _ e => by cases e
  | some x => exact h x.1 x.2 (hx x.1 x.2 rfl)
set_option maxHeartbeats 200000 in
theorem lo_dV {X : Option (β × q_V)} {k : β → q_V → Option q_V} (hx : lo_D b v0 X) (h : ∀ a y, lc b v0 y → lo_V b v0 (k a y)) : lo_V b v0 (q_bd X k) := by
  cases X with
  | none => exact fun _ e => by cases e
  | some x => exact h x.1 x.2 (hx x.1 x.2 rfl)
set_option maxHeartbeats 200000 in
theorem lo_vD {X : Option q_V} {k : q_V → Option (α × q_V)} (hx : lo_V b v0 X) (h : ∀ y, lc b v0 y → lo_D b v0 (k y)) : lo_D b v0 (q_bv X k) := by
  cases X with
  | none => exact fun _ _ e => by cases e
  | some x => exact h x (hx x rfl)
set_option maxHeartbeats 200000 in
theorem lo_vV {X : Option q_V} {k : q_V → Option q_V} (hx : lo_V b v0 X) (h : ∀ y, lc b v0 y → lo_V b v0 (k y)) : lo_V b v0 (q_bv X k) := by
  cases X with
  | none => exact fun _ e => by cases e
  | some x => exact h x (hx x rfl)
end
section
variable {v0 : q_V}
set_option maxHeartbeats 200000 in
theorem l_X0_get_b32 {x1 : Int32} {xt0 : Int32} {Sn : q_V} (h : lc bR v0 Sn) : lo_D bR v0 (fX0_get_b32 x1 xt0 Sn) := by
  unfold fX0_get_b32
  exact (lo_sD h)
set_option maxHeartbeats 200000 in
theorem l_X0_get_b30 {x1 : Int32} {Sn : q_V} (h : lc bR v0 Sn) : lo_D bR v0 (fX0_get_b30 x1 Sn) := by
  unfold fX0_get_b30
  exact (l_X0_get_b32  h)
set_option maxHeartbeats 200000 in
theorem l_X0_get {x1 : Int32} {S : q_V} (h : lc bR v0 S) : lo_D bR v0 (fX0_get x1 S) := by
  unfold fX0_get
  exact (lo_iD (fun _ => (l_X0_get_b30  h)) (fun _ => (lo_iD (fun _ => (l_X0_get_b30  h)) (fun _ => (lo_iD (fun _ => (l_X0_get_b30  h)) (fun _ => (lo_iD (fun _ => lo_nD) (fun _ => (l_X0_get_b32  h)))))))))
set_option maxHeartbeats 200000 in
theorem l_X0_fact_b41 {x1 : Int32} {x2 : Int32} {xt0 : Int32} {Sn : q_V} (h : lc bR v0 Sn) : lo_D bR v0 (fX0_fact_b41 x1 x2 xt0 Sn) := by
  unfold fX0_fact_b41
  exact (lo_sD h)
set_option maxHeartbeats 200000 in
theorem l_X0_fact_b40 {x1 : Int32} {x2 : Int32} {Sn : q_V} (h : lc bR v0 Sn) : lo_D bR v0 (fX0_fact_b40 x1 x2 Sn) := by
  unfold fX0_fact_b40
  exact (l_X0_fact_b41  h)
set_option maxHeartbeats 200000 in
theorem l_X0_fact {x1 : Int32} {x2 : Int32} {S : q_V} (h : lc bR v0 S) : lo_D bR v0 (fX0_fact x1 x2 S) := by
  unfold fX0_fact
  exact (lo_xD (lo_iD (fun _ => (l_X0_fact_b40  h)) (fun _ => (lo_iD (fun _ => (l_X0_fact_b40  h)) (fun _ => (lo_iD (fun _ => (l_X0_fact_b40  h)) (fun _ => (lo_iD (fun _ => (l_X0_fact_b40  h)) (fun _ => (lo_iD (fun _ => lo_nD) (fun _ => (l_X0_fact_b41  h))))))))))))
set_option maxHeartbeats 200000 in
theorem l_X0_parameters {x1 : Int32} {S : q_V} (h : lc bR v0 S) : lo_D bR v0 (fX0_parameters x1 S) := by
  unfold fX0_parameters
  exact (lo_dD (l_X0_fact  h) (fun _ _ hT1 => (lo_sD hT1)))
set_option maxHeartbeats 200000 in
theorem l_X0_entry {x1 : Int32} {S : q_V} (h : lc bR v0 S) : lo_D bR v0 (fX0_entry x1 S) := by
  unfold fX0_entry
  exact (lo_dD (l_X0_fact  h) (fun _ _ hT1 => (lo_sD hT1)))
set_option maxHeartbeats 200000 in
theorem l_X1_isLock_b15 {x0 : Int32} {xt0 : Int32} {Sn : q_V} (h : lc bR v0 Sn) : lo_D bR v0 (fX1_isLock_b15 x0 xt0 Sn) := by
  unfold fX1_isLock_b15
  exact (lo_iD (fun _ => lo_nD) (fun _ => (lo_sD h)))
set_option maxHeartbeats 200000 in
theorem l_X1_isLock_b14 {x0 : Int32} {Sn : q_V} (h : lc bR v0 Sn) : lo_D bR v0 (fX1_isLock_b14 x0 Sn) := by
  unfold fX1_isLock_b14
  exact (l_X1_isLock_b15  h)
set_option maxHeartbeats 200000 in
theorem l_X1_isLock {x0 : Int32} {S : q_V} (h : lc bR v0 S) : lo_D bR v0 (fX1_isLock x0 S) := by
  unfold fX1_isLock
  exact (lo_iD (fun _ => (l_X1_isLock_b14  h)) (fun _ => (lo_iD (fun _ => (l_X1_isLock_b14  h)) (fun _ => (l_X1_isLock_b15  h)))))
set_option maxHeartbeats 200000 in
theorem l_X1_isReach_b15 {x0 : Int32} {xt0 : Int32} {Sn : q_V} (h : lc bR v0 Sn) : lo_D bR v0 (fX1_isReach_b15 x0 xt0 Sn) := by
  unfold fX1_isReach_b15
  exact (lo_iD (fun _ => lo_nD) (fun _ => (lo_sD h)))
set_option maxHeartbeats 200000 in
theorem l_X1_isReach_b14 {x0 : Int32} {Sn : q_V} (h : lc bR v0 Sn) : lo_D bR v0 (fX1_isReach_b14 x0 Sn) := by
  unfold fX1_isReach_b14
  exact (l_X1_isReach_b15  h)
set_option maxHeartbeats 200000 in
theorem l_X1_isReach {x0 : Int32} {S : q_V} (h : lc bR v0 S) : lo_D bR v0 (fX1_isReach x0 S) := by
  unfold fX1_isReach
  exact (lo_iD (fun _ => (l_X1_isReach_b14  h)) (fun _ => (lo_iD (fun _ => (l_X1_isReach_b14  h)) (fun _ => (l_X1_isReach_b15  h)))))
set_option maxHeartbeats 200000 in
theorem l_X1_isShip_b15 {x0 : Int32} {xt0 : Int32} {Sn : q_V} (h : lc bR v0 Sn) : lo_D bR v0 (fX1_isShip_b15 x0 xt0 Sn) := by
  unfold fX1_isShip_b15
  exact (lo_iD (fun _ => lo_nD) (fun _ => (lo_sD h)))
set_option maxHeartbeats 200000 in
theorem l_X1_isShip_b14 {x0 : Int32} {Sn : q_V} (h : lc bR v0 Sn) : lo_D bR v0 (fX1_isShip_b14 x0 Sn) := by
  unfold fX1_isShip_b14
  exact (l_X1_isShip_b15  h)
set_option maxHeartbeats 200000 in
theorem l_X1_isShip {x0 : Int32} {S : q_V} (h : lc bR v0 S) : lo_D bR v0 (fX1_isShip x0 S) := by
  unfold fX1_isShip
  exact (lo_iD (fun _ => (l_X1_isShip_b14  h)) (fun _ => (lo_iD (fun _ => (l_X1_isShip_b14  h)) (fun _ => (l_X1_isShip_b15  h)))))
set_option maxHeartbeats 200000 in
theorem l_X1_isGate_b24 {x0 : Int32} {x1 : Int32} {xt0 : Int32} {Sn : q_V} (h : lc bR v0 Sn) : lo_D bR v0 (fX1_isGate_b24 x0 x1 xt0 Sn) := by
  unfold fX1_isGate_b24
  exact (lo_iD (fun _ => lo_nD) (fun _ => (lo_sD h)))
set_option maxHeartbeats 200000 in
theorem l_X1_isGate_b23 {x0 : Int32} {x1 : Int32} {Sn : q_V} (h : lc bR v0 Sn) : lo_D bR v0 (fX1_isGate_b23 x0 x1 Sn) := by
  unfold fX1_isGate_b23
  exact (l_X1_isGate_b24  h)
set_option maxHeartbeats 200000 in
theorem l_X1_isGate_b19 {x0 : Int32} {x1 : Int32} {Sn : q_V} (h : lc bR v0 Sn) : lo_D bR v0 (fX1_isGate_b19 x0 x1 Sn) := by
  unfold fX1_isGate_b19
  exact (l_X1_isGate_b24  h)
set_option maxHeartbeats 200000 in
theorem l_X1_isGate {x0 : Int32} {x1 : Int32} {S : q_V} (h : lc bR v0 S) : lo_D bR v0 (fX1_isGate x0 x1 S) := by
  unfold fX1_isGate
  exact (lo_iD (fun _ => (l_X1_isGate_b23  h)) (fun _ => (lo_iD (fun _ => (l_X1_isGate_b23  h)) (fun _ => (lo_iD (fun _ => (l_X1_isGate_b19  h)) (fun _ => (lo_iD (fun _ => (l_X1_isGate_b19  h)) (fun _ => (l_X1_isGate_b23  h)))))))))
set_option maxHeartbeats 200000 in
theorem l_X1_gateOf_b22 {x1 : Int32} {x2 : Int32} {xt0 : Int32} {Sn : q_V} (h : lc bR v0 Sn) : lo_D bR v0 (fX1_gateOf_b22 x1 x2 xt0 Sn) := by
  unfold fX1_gateOf_b22
  exact (lo_sD h)
set_option maxHeartbeats 200000 in
theorem l_X1_gateOf {x1 : Int32} {x2 : Int32} {S : q_V} (h : lc bR v0 S) : lo_D bR v0 (fX1_gateOf x1 x2 S) := by
  unfold fX1_gateOf
  exact (lo_dD (l_X1_isGate  h) (fun _ _ hT1 => (lo_iD (fun _ => (l_X1_gateOf_b22  hT1)) (fun _ => (lo_iD (fun _ => lo_nD) (fun _ => (l_X1_gateOf_b22  hT1)))))))
set_option maxHeartbeats 200000 in
theorem l_X1_isTaken_b33 {x1 : Int32} {x2 : Int32} {xn3 : Int32} {K10 : Int32 → q_V → Option (Int32 × q_V)} (kK10 : ∀ a0 S, lc bR v0 S → lo_D bR v0 (K10 a0 S)) {Sn : q_V} (h : lc bR v0 Sn) : lo_D bR v0 (fX1_isTaken_b33 x1 x2 xn3 K10 Sn) := by
  unfold fX1_isTaken_b33
  exact (lo_xD (kK10 _ _ h))
set_option maxHeartbeats 200000 in
theorem l_X1_isTaken_L10 {x1 : Int32} {x2 : Int32} : ∀ n xn3 Sn, lc bR v0 Sn → lo_D bR v0 (fX1_isTaken_L10 x1 x2 n xn3 Sn) := by
  intro n
  induction n with
  | zero => intro xn3 Sn _; exact lo_nD
  | succ n ih =>
    intro xn3 Sn h
    rw [fX1_isTaken_L10]
    exact (lo_iD (fun _ => (lo_sD h)) (fun _ => (lo_iD (fun _ => (l_X1_isTaken_b33 (fun _ _ hk => (ih _ _ hk)) h)) (fun _ => (lo_iD (fun _ => lo_nD) (fun _ => (lo_iD (fun _ => (lo_sD h)) (fun _ => (l_X1_isTaken_b33 (fun _ _ hk => (ih _ _ hk)) h)))))))))
set_option maxHeartbeats 200000 in
theorem l_X1_isTaken {x1 : Int32} {x2 : Int32} {S : q_V} (h : lc bR v0 S) : lo_D bR v0 (fX1_isTaken x1 x2 S) := by
  unfold fX1_isTaken
  exact (lo_iD (fun _ => (lo_sD h)) (fun _ => (l_X1_isTaken_L10  _ _ _ h)))
set_option maxHeartbeats 200000 in
theorem l_X1_levelOf_b17 {x1 : Int32} {xt0 : Int32} {Sn : q_V} (h : lc bR v0 Sn) : lo_D bR v0 (fX1_levelOf_b17 x1 xt0 Sn) := by
  unfold fX1_levelOf_b17
  exact (lo_sD h)
set_option maxHeartbeats 200000 in
theorem l_X1_levelOf {x1 : Int32} {S : q_V} (h : lc bR v0 S) : lo_D bR v0 (fX1_levelOf x1 S) := by
  unfold fX1_levelOf
  exact (lo_dD (l_X1_isLock  h) (fun _ _ hT1 => (lo_iD (fun _ => (l_X1_levelOf_b17  hT1)) (fun _ => (lo_iD (fun _ => lo_nD) (fun _ => (l_X1_levelOf_b17  hT1)))))))
set_option maxHeartbeats 200000 in
theorem l_X1_reachLevelOf_b20 {x1 : Int32} {xt0 : Int32} {Sn : q_V} (h : lc bR v0 Sn) : lo_D bR v0 (fX1_reachLevelOf_b20 x1 xt0 Sn) := by
  unfold fX1_reachLevelOf_b20
  exact (lo_sD h)
set_option maxHeartbeats 200000 in
theorem l_X1_reachLevelOf {x1 : Int32} {S : q_V} (h : lc bR v0 S) : lo_D bR v0 (fX1_reachLevelOf x1 S) := by
  unfold fX1_reachLevelOf
  exact (lo_dD (l_X1_isReach  h) (fun _ _ hT1 => (lo_iD (fun _ => (l_X1_reachLevelOf_b20  hT1)) (fun _ => (lo_iD (fun _ => lo_nD) (fun _ => (l_X1_reachLevelOf_b20  hT1)))))))
set_option maxHeartbeats 200000 in
theorem l_X1_holdsOf_b17 {x1 : Int32} {xt0 : Int32} {Sn : q_V} (h : lc bR v0 Sn) : lo_D bR v0 (fX1_holdsOf_b17 x1 xt0 Sn) := by
  unfold fX1_holdsOf_b17
  exact (lo_sD h)
set_option maxHeartbeats 200000 in
theorem l_X1_holdsOf {x1 : Int32} {S : q_V} (h : lc bR v0 S) : lo_D bR v0 (fX1_holdsOf x1 S) := by
  unfold fX1_holdsOf
  exact (lo_dD (l_X1_isLock  h) (fun _ _ hT1 => (lo_iD (fun _ => (l_X1_holdsOf_b17  hT1)) (fun _ => (lo_iD (fun _ => lo_nD) (fun _ => (l_X1_holdsOf_b17  hT1)))))))
set_option maxHeartbeats 200000 in
theorem l_X1_placeOf_b17 {x1 : Int32} {xt0 : Int32} {Sn : q_V} (h : lc bR v0 Sn) : lo_D bR v0 (fX1_placeOf_b17 x1 xt0 Sn) := by
  unfold fX1_placeOf_b17
  exact (lo_sD h)
set_option maxHeartbeats 200000 in
theorem l_X1_placeOf {x1 : Int32} {S : q_V} (h : lc bR v0 S) : lo_D bR v0 (fX1_placeOf x1 S) := by
  unfold fX1_placeOf
  exact (lo_dD (l_X1_isShip  h) (fun _ _ hT1 => (lo_iD (fun _ => (l_X1_placeOf_b17  hT1)) (fun _ => (lo_iD (fun _ => lo_nD) (fun _ => (l_X1_placeOf_b17  hT1)))))))
set_option maxHeartbeats 200000 in
theorem l_X1_addHold {x1 : Int32} {x2 : Int32} {S : q_V} (h : lc bR v0 S) : lo_D bR v0 (fX1_addHold x1 x2 S) := by
  unfold fX1_addHold
  exact (lo_dD (l_X1_isLock  h) (fun _ _ hT1 => (lo_iD (fun _ => (lo_sD hT1)) (fun _ => (lo_iD (fun _ => lo_nD) (fun _ => (lo_iD (fun _ => lo_nD) (fun _ => (lo_wD (lcA hT1 rfl) (fun _ hT4 => (lo_iD (fun _ => lo_nD) (fun _ => (lo_sD hT4)))))))))))))
set_option maxHeartbeats 200000 in
theorem l_X1_dropHolds_L2  : ∀ n xn1 Sn, lc bR v0 Sn → lo_V bR v0 (fX1_dropHolds_L2  n xn1 Sn) := by
  intro n
  induction n with
  | zero => intro xn1 Sn _; exact lo_nV
  | succ n ih =>
    intro xn1 Sn h
    rw [fX1_dropHolds_L2]
    exact (lo_iV (fun _ => (lo_sV h)) (fun _ => (lo_iV (fun _ => lo_nV) (fun _ => (lo_wV (lcA h rfl) (fun _ hT1002 => (lo_xV (ih _ _ hT1002))))))))
set_option maxHeartbeats 200000 in
theorem l_X1_dropHolds  {S : q_V} (h : lc bR v0 S) : lo_V bR v0 (fX1_dropHolds  S) := by
  unfold fX1_dropHolds
  exact (l_X1_dropHolds_L2  _ _ _ h)
set_option maxHeartbeats 200000 in
theorem l_X1_troubleToShut_b24 {x1 : Int32} {x2 : Int32} {xt0 : Int32} {Sn : q_V} (h : lc bR v0 Sn) : lo_D bR v0 (fX1_troubleToShut_b24 x1 x2 xt0 Sn) := by
  unfold fX1_troubleToShut_b24
  exact (lo_sD h)
set_option maxHeartbeats 200000 in
theorem l_X1_troubleToShut {x1 : Int32} {x2 : Int32} {S : q_V} (h : lc bR v0 S) : lo_D bR v0 (fX1_troubleToShut x1 x2 S) := by
  unfold fX1_troubleToShut
  exact (lo_dD (l_X1_isGate  h) (fun _ _ hT1 => (lo_iD (fun _ => (lo_sD hT1)) (fun _ => (lo_iD (fun _ => lo_nD) (fun _ => (lo_iD (fun _ => (l_X1_troubleToShut_b24  hT1)) (fun _ => (l_X1_troubleToShut_b24  hT1)))))))))
set_option maxHeartbeats 200000 in
theorem l_X1_headOf_b38 {x1 : Int32} {x2 : Int32} {xt0 : Int32} {Sn : q_V} (h : lc bR v0 Sn) : lo_D bR v0 (fX1_headOf_b38 x1 x2 xt0 Sn) := by
  unfold fX1_headOf_b38
  exact (lo_sD h)
set_option maxHeartbeats 200000 in
theorem l_X1_headOf_b37 {x1 : Int32} {x2 : Int32} {Sn : q_V} (h : lc bR v0 Sn) : lo_D bR v0 (fX1_headOf_b37 x1 x2 Sn) := by
  unfold fX1_headOf_b37
  exact (l_X1_headOf_b38  h)
set_option maxHeartbeats 200000 in
theorem l_X1_headOf {x1 : Int32} {x2 : Int32} {S : q_V} (h : lc bR v0 S) : lo_D bR v0 (fX1_headOf x1 x2 S) := by
  unfold fX1_headOf
  exact (lo_dD (l_X1_isLock  h) (fun _ _ hT1 => (lo_iD (fun _ => (l_X1_headOf_b37  hT1)) (fun _ => (lo_dD (l_X1_isReach  hT1) (fun _ _ hT3 => (lo_iD (fun _ => (l_X1_headOf_b37  hT3)) (fun _ => (lo_iD (fun _ => lo_nD) (fun _ => (lo_iD (fun _ => lo_nD) (fun _ => (l_X1_headOf_b38  hT3)))))))))))))
set_option maxHeartbeats 200000 in
theorem l_X1_troubleToOpen_b53 {x1 : Int32} {x2 : Int32} {xt0 : Int32} {Sn : q_V} (h : lc bR v0 Sn) : lo_D bR v0 (fX1_troubleToOpen_b53 x1 x2 xt0 Sn) := by
  unfold fX1_troubleToOpen_b53
  exact (lo_sD h)
set_option maxHeartbeats 200000 in
theorem l_X1_troubleToOpen_b48 {x1 : Int32} {x2 : Int32} {Sn : q_V} (h : lc bR v0 Sn) : lo_D bR v0 (fX1_troubleToOpen_b48 x1 x2 Sn) := by
  unfold fX1_troubleToOpen_b48
  exact (l_X1_troubleToOpen_b53  h)
set_option maxHeartbeats 200000 in
theorem l_X1_troubleToOpen {x1 : Int32} {x2 : Int32} {S : q_V} (h : lc bR v0 S) : lo_D bR v0 (fX1_troubleToOpen x1 x2 S) := by
  unfold fX1_troubleToOpen
  exact (lo_dD (l_X1_troubleToShut  h) (fun _ _ hT1 => (lo_iD (fun _ => (lo_dD (l_X1_gateOf  hT1) (fun _ _ hT3 => (lo_iD (fun _ => (lo_sD hT3)) (fun _ => (lo_dD (l_X1_headOf  hT3) (fun _ _ hT5 => (lo_iD (fun _ => (l_X1_troubleToOpen_b48  hT5)) (fun _ => (lo_iD (fun _ => (l_X1_troubleToOpen_b53  hT5)) (fun _ => (l_X1_troubleToOpen_b48  hT5)))))))))))) (fun _ => (lo_sD hT1)))))
set_option maxHeartbeats 200000 in
theorem l_X1_troubleToSluice_b11 {x1 : Int32} {x2 : Int32} {x3 : Int32} {Sn : q_V} (h : lc bR v0 Sn) : lo_D bR v0 (fX1_troubleToSluice_b11 x1 x2 x3 Sn) := by
  unfold fX1_troubleToSluice_b11
  exact (lo_sD h)
set_option maxHeartbeats 200000 in
theorem l_X1_troubleToSluice_b47 {x1 : Int32} {x2 : Int32} {x3 : Int32} {xt0 : Int32} {Sn : q_V} (h : lc bR v0 Sn) : lo_D bR v0 (fX1_troubleToSluice_b47 x1 x2 x3 xt0 Sn) := by
  unfold fX1_troubleToSluice_b47
  exact (lo_sD h)
set_option maxHeartbeats 200000 in
theorem l_X1_troubleToSluice {x1 : Int32} {x2 : Int32} {x3 : Int32} {S : q_V} (h : lc bR v0 S) : lo_D bR v0 (fX1_troubleToSluice x1 x2 x3 S) := by
  unfold fX1_troubleToSluice
  exact (lo_iD (fun _ => (l_X1_troubleToSluice_b11  h)) (fun _ => (lo_iD (fun _ => (lo_dD (l_X1_troubleToShut  h) (fun _ _ hT1 => (lo_iD (fun _ => (lo_dD (l_X1_gateOf  hT1) (fun _ _ hT3 => (lo_iD (fun _ => (l_X1_troubleToSluice_b47  hT3)) (fun _ => (l_X1_troubleToSluice_b47  hT3)))))) (fun _ => (lo_sD hT1)))))) (fun _ => (l_X1_troubleToSluice_b11  h)))))
set_option maxHeartbeats 200000 in
theorem l_X1_placeBeyond_b14 {x0 : Int32} {x1 : Int32} {xt0 : Int32} {Sn : q_V} (h : lc bR v0 Sn) : lo_D bR v0 (fX1_placeBeyond_b14 x0 x1 xt0 Sn) := by
  unfold fX1_placeBeyond_b14
  exact (lo_sD h)
set_option maxHeartbeats 200000 in
theorem l_X1_placeBeyond {x0 : Int32} {x1 : Int32} {S : q_V} (h : lc bR v0 S) : lo_D bR v0 (fX1_placeBeyond x0 x1 S) := by
  unfold fX1_placeBeyond
  exact (lo_iD (fun _ => (l_X1_placeBeyond_b14  h)) (fun _ => (l_X1_placeBeyond_b14  h)))
set_option maxHeartbeats 200000 in
theorem l_X1_troubleToSail_b16 {x1 : Int32} {x2 : Int32} {Sn : q_V} (h : lc bR v0 Sn) : lo_D bR v0 (fX1_troubleToSail_b16 x1 x2 Sn) := by
  unfold fX1_troubleToSail_b16
  exact (lo_sD h)
set_option maxHeartbeats 200000 in
theorem l_X1_troubleToSail_b56 {x1 : Int32} {x2 : Int32} {Sn : q_V} (h : lc bR v0 Sn) : lo_D bR v0 (fX1_troubleToSail_b56 x1 x2 Sn) := by
  unfold fX1_troubleToSail_b56
  exact (lo_sD h)
set_option maxHeartbeats 200000 in
theorem l_X1_troubleToSail_b100 {x1 : Int32} {x2 : Int32} {xt0 : Int32} {Sn : q_V} (h : lc bR v0 Sn) : lo_D bR v0 (fX1_troubleToSail_b100 x1 x2 xt0 Sn) := by
  unfold fX1_troubleToSail_b100
  exact (lo_sD h)
set_option maxHeartbeats 200000 in
theorem l_X1_troubleToSail_b18 {x1 : Int32} {x2 : Int32} {Sn : q_V} (h : lc bR v0 Sn) : lo_D bR v0 (fX1_troubleToSail_b18 x1 x2 Sn) := by
  unfold fX1_troubleToSail_b18
  exact (lo_iD (fun _ => lo_nD) (fun _ => (lo_dD (l_X1_placeBeyond  h) (fun _ _ hT4002 => (lo_iD (fun _ => lo_nD) (fun _ => (lo_xD (lo_iD (fun _ => (l_X1_troubleToSail_b56  hT4002)) (fun _ => (lo_iD (fun _ => (lo_dD (l_X1_holdsOf  hT4002) (fun _ _ hT4007 => (lo_iD (fun _ => (lo_sD hT4007)) (fun _ => (lo_iD (fun _ => lo_nD) (fun _ => (lo_iD (fun _ => (lo_sD hT4007)) (fun _ => (lo_dD (l_X1_isTaken  hT4007) (fun _ _ hT4010 => (lo_iD (fun _ => (l_X1_troubleToSail_b100  hT4010)) (fun _ => (l_X1_troubleToSail_b100  hT4010)))))))))))))) (fun _ => (l_X1_troubleToSail_b56  hT4002))))))))))))
set_option maxHeartbeats 200000 in
theorem l_X1_troubleToSail {x1 : Int32} {x2 : Int32} {S : q_V} (h : lc bR v0 S) : lo_D bR v0 (fX1_troubleToSail x1 x2 S) := by
  unfold fX1_troubleToSail
  exact (lo_dD (l_X1_isShip  h) (fun _ _ hT1 => (lo_iD (fun _ => (l_X1_troubleToSail_b16  hT1)) (fun _ => (lo_iD (fun _ => (l_X1_troubleToSail_b18  hT1)) (fun _ => (lo_iD (fun _ => (l_X1_troubleToSail_b18  hT1)) (fun _ => (l_X1_troubleToSail_b16  hT1)))))))))
set_option maxHeartbeats 200000 in
theorem l_X1_setGate_b19 {x1 : Int32} {x2 : Int32} {x3 : Int32} {Sn : q_V} (h : lc bR v0 Sn) : lo_V bR v0 (fX1_setGate_b19 x1 x2 x3 Sn) := by
  unfold fX1_setGate_b19
  exact (lo_sV h)
set_option maxHeartbeats 200000 in
theorem l_X1_setGate {x1 : Int32} {x2 : Int32} {x3 : Int32} {S : q_V} (h : lc bR v0 S) : lo_V bR v0 (fX1_setGate x1 x2 x3 S) := by
  unfold fX1_setGate
  exact (lo_dV (l_X1_isGate  h) (fun _ _ hT1 => (lo_iV (fun _ => (l_X1_setGate_b19  hT1)) (fun _ => (lo_iV (fun _ => lo_nV) (fun _ => (lo_wV (lcA hT1 rfl) (fun _ hT4 => (l_X1_setGate_b19  hT4)))))))))
set_option maxHeartbeats 200000 in
theorem l_X1_moveShip {x1 : Int32} {x2 : Int32} {S : q_V} (h : lc bR v0 S) : lo_D bR v0 (fX1_moveShip x1 x2 S) := by
  unfold fX1_moveShip
  exact (lo_dD (l_X1_isShip  h) (fun _ _ hT1 => (lo_iD (fun _ => (lo_sD hT1)) (fun _ => (lo_iD (fun _ => lo_nD) (fun _ => (lo_dD (l_X1_placeBeyond  hT1) (fun _ _ hT4 => (lo_iD (fun _ => lo_nD) (fun _ => (lo_wD (lcA hT4 rfl) (fun _ hT6 => (lo_iD (fun _ => lo_nD) (fun _ => (lo_sD hT6)))))))))))))))
set_option maxHeartbeats 200000 in
theorem l_X1_moveUnit_b51 {x1 : Int32} {x2 : Int32} {x3 : Int32} {Sn : q_V} (h : lc bR v0 Sn) : lo_V bR v0 (fX1_moveUnit_b51 x1 x2 x3 Sn) := by
  unfold fX1_moveUnit_b51
  exact (lo_sV h)
set_option maxHeartbeats 200000 in
theorem l_X1_moveUnit_b9 {x1 : Int32} {x2 : Int32} {x3 : Int32} {xt0 : Int32} {Sn : q_V} (h : lc bR v0 Sn) : lo_V bR v0 (fX1_moveUnit_b9 x1 x2 x3 xt0 Sn) := by
  unfold fX1_moveUnit_b9
  exact (lo_dV (l_X1_isLock  h) (fun _ _ hT2001 => (lo_iV (fun _ => (l_X1_moveUnit_b51  hT2001)) (fun _ => (lo_dV (l_X1_isReach  hT2001) (fun _ _ hT2003 => (lo_iV (fun _ => (l_X1_moveUnit_b51  hT2003)) (fun _ => (lo_iV (fun _ => lo_nV) (fun _ => (lo_iV (fun _ => lo_nV) (fun _ => (lo_wV (lcA hT2003 rfl) (fun _ hT2006 => (lo_iV (fun _ => lo_nV) (fun _ => (lo_iV (fun _ => lo_nV) (fun _ => (lo_wV (lcA hT2006 rfl) (fun _ hT2008 => (l_X1_moveUnit_b51  hT2008)))))))))))))))))))))
set_option maxHeartbeats 200000 in
theorem l_X1_moveUnit {x1 : Int32} {x2 : Int32} {x3 : Int32} {S : q_V} (h : lc bR v0 S) : lo_V bR v0 (fX1_moveUnit x1 x2 x3 S) := by
  unfold fX1_moveUnit
  exact (lo_iV (fun _ => (l_X1_moveUnit_b9  h)) (fun _ => (l_X1_moveUnit_b9  h)))
set_option maxHeartbeats 200000 in
theorem l_X7_clear_b21 {xn1 : Int32} {K2 : Int32 → q_V → Option q_V} (kK2 : ∀ a0 S, lc bR v0 S → lo_V bR v0 (K2 a0 S)) {Sn : q_V} (h : lc bR v0 Sn) : lo_V bR v0 (fX7_clear_b21 xn1 K2 Sn) := by
  unfold fX7_clear_b21
  exact (lo_xV (kK2 _ _ h))
set_option maxHeartbeats 200000 in
theorem l_X7_clear_L2  : ∀ n xn1 Sn, lc bR v0 Sn → lo_V bR v0 (fX7_clear_L2  n xn1 Sn) := by
  intro n
  induction n with
  | zero => intro xn1 Sn _; exact lo_nV
  | succ n ih =>
    intro xn1 Sn h
    rw [fX7_clear_L2]
    exact (lo_iV (fun _ => (lo_iV (fun _ => lo_nV) (fun _ => (lo_wV (lcA h rfl) (fun _ hT2002 => (lo_sV hT2002)))))) (fun _ => (lo_iV (fun _ => (l_X7_clear_b21 (fun _ _ hk => (ih _ _ hk)) h)) (fun _ => (lo_iV (fun _ => lo_nV) (fun _ => (lo_wV (lcA h rfl) (fun _ hT2004 => (l_X7_clear_b21 (fun _ _ hk => (ih _ _ hk)) hT2004)))))))))
set_option maxHeartbeats 200000 in
theorem l_X7_clear  {S : q_V} (h : lc bR v0 S) : lo_V bR v0 (fX7_clear  S) := by
  unfold fX7_clear
  exact (l_X7_clear_L2  _ _ _ h)
set_option maxHeartbeats 200000 in
theorem l_X7_get_b20 {x1 : Int32} {xt0 : Int32} {Sn : q_V} (h : lc bR v0 Sn) : lo_D bR v0 (fX7_get_b20 x1 xt0 Sn) := by
  unfold fX7_get_b20
  exact (lo_sD h)
set_option maxHeartbeats 200000 in
theorem l_X7_get_b19 {x1 : Int32} {Sn : q_V} (h : lc bR v0 Sn) : lo_D bR v0 (fX7_get_b19 x1 Sn) := by
  unfold fX7_get_b19
  exact (l_X7_get_b20  h)
set_option maxHeartbeats 200000 in
theorem l_X7_get {x1 : Int32} {S : q_V} (h : lc bR v0 S) : lo_D bR v0 (fX7_get x1 S) := by
  unfold fX7_get
  exact (lo_iD (fun _ => (l_X7_get_b19  h)) (fun _ => (lo_iD (fun _ => (l_X7_get_b19  h)) (fun _ => (lo_iD (fun _ => lo_nD) (fun _ => (l_X7_get_b20  h)))))))
set_option maxHeartbeats 200000 in
theorem l_X7_set_b17 {x1 : Int32} {x2 : Int32} {Sn : q_V} (h : lc bR v0 Sn) : lo_V bR v0 (fX7_set_b17 x1 x2 Sn) := by
  unfold fX7_set_b17
  exact (lo_sV h)
set_option maxHeartbeats 200000 in
theorem l_X7_set {x1 : Int32} {x2 : Int32} {S : q_V} (h : lc bR v0 S) : lo_V bR v0 (fX7_set x1 x2 S) := by
  unfold fX7_set
  exact (lo_iV (fun _ => (l_X7_set_b17  h)) (fun _ => (lo_iV (fun _ => (l_X7_set_b17  h)) (fun _ => (lo_iV (fun _ => lo_nV) (fun _ => (lo_wV (lcA h rfl) (fun _ hT2 => (l_X7_set_b17  hT2)))))))))
set_option maxHeartbeats 200000 in
theorem l_X7_count_b20 {x1 : Int32} {Sn : q_V} (h : lc bR v0 Sn) : lo_V bR v0 (fX7_count_b20 x1 Sn) := by
  unfold fX7_count_b20
  exact (lo_sV h)
set_option maxHeartbeats 200000 in
theorem l_X7_count {x1 : Int32} {S : q_V} (h : lc bR v0 S) : lo_V bR v0 (fX7_count x1 S) := by
  unfold fX7_count
  exact (lo_iV (fun _ => (l_X7_count_b20  h)) (fun _ => (lo_iV (fun _ => (l_X7_count_b20  h)) (fun _ => (lo_iV (fun _ => lo_nV) (fun _ => (lo_iV (fun _ => lo_nV) (fun _ => (lo_wV (lcA h rfl) (fun _ hT2 => (l_X7_count_b20  hT2)))))))))))
set_option maxHeartbeats 200000 in
theorem l_X7_write_b33 {x1 : Int32} {x2 : Int32} {Sn : q_V} (h : lc bR v0 Sn) : lo_V bR v0 (fX7_write_b33 x1 x2 Sn) := by
  unfold fX7_write_b33
  exact (lo_iV (fun _ => lo_nV) (fun _ => (lo_iV (fun _ => lo_nV) (fun _ => (lo_wV (lcA h rfl) (fun _ hT1002 => (lo_sV hT1002)))))))
set_option maxHeartbeats 200000 in
theorem l_X7_write {x1 : Int32} {x2 : Int32} {S : q_V} (h : lc bR v0 S) : lo_V bR v0 (fX7_write x1 x2 S) := by
  unfold fX7_write
  exact (lo_iV (fun _ => lo_nV) (fun _ => (lo_xV (lo_iV (fun _ => (l_X7_write_b33  h)) (fun _ => (lo_iV (fun _ => (l_X7_write_b33  h)) (fun _ => (lo_iV (fun _ => lo_nV) (fun _ => (lo_wV (lcA h rfl) (fun _ hT4 => (lo_iV (fun _ => lo_nV) (fun _ => (lo_wV (lcA hT4 rfl) (fun _ hT6 => (l_X7_write_b33  hT6))))))))))))))))
set_option maxHeartbeats 200000 in
theorem l_X3_clear_L2 {a0 : Nat} : ∀ n xn1 Sn, lc bR v0 Sn → lo_V bR v0 (fX3_clear_L2 a0 n xn1 Sn) := by
  intro n
  induction n with
  | zero => intro xn1 Sn _; exact lo_nV
  | succ n ih =>
    intro xn1 Sn h
    rw [fX3_clear_L2]
    exact (lo_iV (fun _ => (lo_wV (lcF h rfl) (fun _ hT1002 => (lo_wV (lcF hT1002 rfl) (fun _ hT1003 => (lo_wV (lcF hT1003 rfl) (fun _ hT1004 => (lo_sV hT1004)))))))) (fun _ => (lo_iV (fun _ => lo_nV) (fun _ => (lo_wV (lcC h rfl) (fun _ hT1005 => (lo_xV (ih _ _ hT1005))))))))
set_option maxHeartbeats 200000 in
theorem l_X3_clear {a0 : Nat} {S : q_V} (h : lc bR v0 S) : lo_V bR v0 (fX3_clear a0 S) := by
  unfold fX3_clear
  exact (l_X3_clear_L2  _ _ _ h)
set_option maxHeartbeats 200000 in
theorem l_X3_get_b23 {a0 : Nat} {x1 : Int32} {xt0 : Int32} {Sn : q_V} (h : lc bR v0 Sn) : lo_D bR v0 (fX3_get_b23 a0 x1 xt0 Sn) := by
  unfold fX3_get_b23
  exact (lo_sD h)
set_option maxHeartbeats 200000 in
theorem l_X3_get_b22 {a0 : Nat} {x1 : Int32} {Sn : q_V} (h : lc bR v0 Sn) : lo_D bR v0 (fX3_get_b22 a0 x1 Sn) := by
  unfold fX3_get_b22
  exact (l_X3_get_b23  h)
set_option maxHeartbeats 200000 in
theorem l_X3_get {a0 : Nat} {x1 : Int32} {S : q_V} (h : lc bR v0 S) : lo_D bR v0 (fX3_get a0 x1 S) := by
  unfold fX3_get
  exact (lo_iD (fun _ => (l_X3_get_b22  h)) (fun _ => (lo_iD (fun _ => (l_X3_get_b22  h)) (fun _ => (lo_iD (fun _ => lo_nD) (fun _ => (l_X3_get_b23  h)))))))
set_option maxHeartbeats 200000 in
theorem l_X3_set_b20 {a0 : Nat} {x1 : Int32} {x2 : Int32} {Sn : q_V} (h : lc bR v0 Sn) : lo_V bR v0 (fX3_set_b20 a0 x1 x2 Sn) := by
  unfold fX3_set_b20
  exact (lo_sV h)
set_option maxHeartbeats 200000 in
theorem l_X3_set {a0 : Nat} {x1 : Int32} {x2 : Int32} {S : q_V} (h : lc bR v0 S) : lo_V bR v0 (fX3_set a0 x1 x2 S) := by
  unfold fX3_set
  exact (lo_iV (fun _ => (l_X3_set_b20  h)) (fun _ => (lo_iV (fun _ => (l_X3_set_b20  h)) (fun _ => (lo_iV (fun _ => lo_nV) (fun _ => (lo_wV (lcC h rfl) (fun _ hT2 => (l_X3_set_b20  hT2)))))))))
set_option maxHeartbeats 200000 in
theorem l_X3_pledge_b19 {a0 : Nat} {x1 : Int32} {Sn : q_V} (h : lc bR v0 Sn) : lo_D bR v0 (fX3_pledge_b19 a0 x1 Sn) := by
  unfold fX3_pledge_b19
  exact (lo_sD h)
set_option maxHeartbeats 200000 in
theorem l_X3_pledge {a0 : Nat} {x1 : Int32} {S : q_V} (h : lc bR v0 S) : lo_D bR v0 (fX3_pledge a0 x1 S) := by
  unfold fX3_pledge
  exact (lo_iD (fun _ => (l_X3_pledge_b19  h)) (fun _ => (lo_iD (fun _ => (lo_iD (fun _ => lo_nD) (fun _ => (lo_wD (lcC h rfl) (fun _ hT2 => (lo_wD (lcF hT2 rfl) (fun _ hT3 => (lo_sD hT3)))))))) (fun _ => (l_X3_pledge_b19  h)))))
set_option maxHeartbeats 200000 in
theorem l_X3_hasLater_b24 {a0 : Nat} {xt0 : Int32} {Sn : q_V} (h : lc bR v0 Sn) : lo_D bR v0 (fX3_hasLater_b24 a0 xt0 Sn) := by
  unfold fX3_hasLater_b24
  exact (lo_iD (fun _ => lo_nD) (fun _ => (lo_sD h)))
set_option maxHeartbeats 200000 in
theorem l_X3_hasLater_b23 {a0 : Nat} {Sn : q_V} (h : lc bR v0 Sn) : lo_D bR v0 (fX3_hasLater_b23 a0 Sn) := by
  unfold fX3_hasLater_b23
  exact (l_X3_hasLater_b24  h)
set_option maxHeartbeats 200000 in
theorem l_X3_hasLater {a0 : Nat} {S : q_V} (h : lc bR v0 S) : lo_D bR v0 (fX3_hasLater a0 S) := by
  unfold fX3_hasLater
  exact (lo_iD (fun _ => (l_X3_hasLater_b23  h)) (fun _ => (lo_iD (fun _ => (l_X3_hasLater_b23  h)) (fun _ => (l_X3_hasLater_b24  h)))))
set_option maxHeartbeats 200000 in
theorem l_X3_takeLater {a0 : Nat} {S : q_V} (h : lc bR v0 S) : lo_D bR v0 (fX3_takeLater a0 S) := by
  unfold fX3_takeLater
  exact (lo_dD (l_X3_hasLater  h) (fun _ _ hT1 => (lo_iD (fun _ => (lo_sD hT1)) (fun _ => (lo_wD (lcF hT1 rfl) (fun _ hT3 => (lo_iD (fun _ => lo_nD) (fun _ => (lo_sD hT3)))))))))
set_option maxHeartbeats 200000 in
theorem l_X10_become {a0 : Nat} {x1 : Int32} {x2 : Int32} {S : q_V} (h : lc bR v0 S) : lo_V bR v0 (fX10_become a0 x1 x2 S) := by
  unfold fX10_become
  exact (lo_wV (lcF h rfl) (fun _ hT1 => (lo_wV (lcF hT1 rfl) (fun _ hT2 => (lo_sV hT2)))))
set_option maxHeartbeats 200000 in
theorem l_X10_copy {a0 : Nat} {a1 : Nat} {S : q_V} (h : lc bR v0 S) : lo_V bR v0 (fX10_copy a0 a1 S) := by
  unfold fX10_copy
  exact (lo_wV (lcF h rfl) (fun _ hT1 => (lo_wV (lcF hT1 rfl) (fun _ hT2 => (lo_wV (lcF hT2 rfl) (fun _ hT3 => (lo_wV (lcF hT3 rfl) (fun _ hT4 => (lo_sV hT4)))))))))
set_option maxHeartbeats 200000 in
theorem l_X4_take  {S : q_V} (h : lc bR v0 S) : lo_D bR v0 (fX4_take  S) := by
  unfold fX4_take
  exact (lo_dD (l_X0_get  h) (fun _ _ hT2 => (lo_wD (lcI hT2 rfl) (fun _ hT4 => (lo_sD hT4)))))
set_option maxHeartbeats 200000 in
theorem l_X4_push_b39 {x1 : Int32} {Sn : q_V} (h : lc bR v0 Sn) : lo_V bR v0 (fX4_push_b39 x1 Sn) := by
  unfold fX4_push_b39
  exact (lo_sV h)
set_option maxHeartbeats 200000 in
theorem l_X4_push {x1 : Int32} {S : q_V} (h : lc bR v0 S) : lo_V bR v0 (fX4_push x1 S) := by
  unfold fX4_push
  exact (lo_iV (fun _ => (l_X4_push_b39  h)) (fun _ => (lo_iV (fun _ => (l_X4_push_b39  h)) (fun _ => (lo_iV (fun _ => lo_nV) (fun _ => (lo_wV (lcA h rfl) (fun _ hT2 => (lo_wV (lcI hT2 rfl) (fun _ hT3 => (l_X4_push_b39  hT3)))))))))))
set_option maxHeartbeats 200000 in
theorem l_X4_pop_b19  {Sn : q_V} (h : lc bR v0 Sn) : lo_D bR v0 (fX4_pop_b19  Sn) := by
  unfold fX4_pop_b19
  exact (lo_sD h)
set_option maxHeartbeats 200000 in
theorem l_X4_pop  {S : q_V} (h : lc bR v0 S) : lo_D bR v0 (fX4_pop  S) := by
  unfold fX4_pop
  exact (lo_iD (fun _ => (l_X4_pop_b19  h)) (fun _ => (lo_iD (fun _ => (lo_wD (lcI h rfl) (fun _ hT2 => (lo_iD (fun _ => lo_nD) (fun _ => (lo_sD hT2)))))) (fun _ => (l_X4_pop_b19  h)))))
set_option maxHeartbeats 200000 in
theorem l_X4_peek_b32 {x1 : Int32} {xt0 : Int32} {Sn : q_V} (h : lc bR v0 Sn) : lo_D bR v0 (fX4_peek_b32 x1 xt0 Sn) := by
  unfold fX4_peek_b32
  exact (lo_sD h)
set_option maxHeartbeats 200000 in
theorem l_X4_peek_b31 {x1 : Int32} {Sn : q_V} (h : lc bR v0 Sn) : lo_D bR v0 (fX4_peek_b31 x1 Sn) := by
  unfold fX4_peek_b31
  exact (l_X4_peek_b32  h)
set_option maxHeartbeats 200000 in
theorem l_X4_peek {x1 : Int32} {S : q_V} (h : lc bR v0 S) : lo_D bR v0 (fX4_peek x1 S) := by
  unfold fX4_peek
  exact (lo_xD (lo_iD (fun _ => (l_X4_peek_b31  h)) (fun _ => (lo_iD (fun _ => (l_X4_peek_b31  h)) (fun _ => (lo_iD (fun _ => lo_nD) (fun _ => (l_X4_peek_b32  h))))))))
set_option maxHeartbeats 200000 in
theorem l_X4_frame_b33 {xt0 : Int32} {Sn : q_V} (h : lc bR v0 Sn) : lo_D bR v0 (fX4_frame_b33 xt0 Sn) := by
  unfold fX4_frame_b33
  exact (lo_iD (fun _ => lo_nD) (fun _ => (lo_sD h)))
set_option maxHeartbeats 200000 in
theorem l_X4_frame_b32  {Sn : q_V} (h : lc bR v0 Sn) : lo_D bR v0 (fX4_frame_b32  Sn) := by
  unfold fX4_frame_b32
  exact (l_X4_frame_b33  h)
set_option maxHeartbeats 200000 in
theorem l_X4_frame  {S : q_V} (h : lc bR v0 S) : lo_D bR v0 (fX4_frame  S) := by
  unfold fX4_frame
  exact (lo_iD (fun _ => (l_X4_frame_b32  h)) (fun _ => (lo_iD (fun _ => (l_X4_frame_b32  h)) (fun _ => (l_X4_frame_b33  h)))))
set_option maxHeartbeats 200000 in
theorem l_X4_top_b33 {xt0 : Int32} {Sn : q_V} (h : lc bR v0 Sn) : lo_D bR v0 (fX4_top_b33 xt0 Sn) := by
  unfold fX4_top_b33
  exact (lo_iD (fun _ => lo_nD) (fun _ => (lo_sD h)))
set_option maxHeartbeats 200000 in
theorem l_X4_top_b32  {Sn : q_V} (h : lc bR v0 Sn) : lo_D bR v0 (fX4_top_b32  Sn) := by
  unfold fX4_top_b32
  exact (l_X4_top_b33  h)
set_option maxHeartbeats 200000 in
theorem l_X4_top  {S : q_V} (h : lc bR v0 S) : lo_D bR v0 (fX4_top  S) := by
  unfold fX4_top
  exact (lo_iD (fun _ => (l_X4_top_b32  h)) (fun _ => (lo_iD (fun _ => (l_X4_top_b32  h)) (fun _ => (l_X4_top_b33  h)))))
set_option maxHeartbeats 200000 in
theorem l_X4_begin_b22 {x1 : Int32} {x2 : Int32} {Sn : q_V} (h : lc bR v0 Sn) : lo_D bR v0 (fX4_begin_b22 x1 x2 Sn) := by
  unfold fX4_begin_b22
  exact (lo_dD (l_X4_top  h) (fun _ _ hT1001 => (lo_wD (lcF hT1001 rfl) (fun _ hT1003 => (lo_wD (lcF hT1003 rfl) (fun _ hT1004 => (lo_wD (lcF hT1004 rfl) (fun _ hT1005 => (lo_wD (lcF hT1005 rfl) (fun _ hT1006 => (lo_wD (lcF hT1006 rfl) (fun _ hT1007 => (lo_sD hT1007)))))))))))))
set_option maxHeartbeats 200000 in
theorem l_X4_begin {x1 : Int32} {x2 : Int32} {S : q_V} (h : lc bR v0 S) : lo_D bR v0 (fX4_begin x1 x2 S) := by
  unfold fX4_begin
  exact (lo_iD (fun _ => (l_X4_begin_b22  h)) (fun _ => (lo_wD (lcI h rfl) (fun _ hT2 => (l_X4_begin_b22  hT2)))))
set_option maxHeartbeats 200000 in
theorem l_X4_spend  {S : q_V} (h : lc bR v0 S) : lo_D bR v0 (fX4_spend  S) := by
  unfold fX4_spend
  exact (lo_iD (fun _ => (lo_wD (lcI h rfl) (fun _ hT1 => (lo_sD hT1)))) (fun _ => (lo_wD (lcI h rfl) (fun _ hT2 => (lo_sD hT2)))))
set_option maxHeartbeats 200000 in
theorem l_X4_trouble {x1 : Int32} {S : q_V} (h : lc bR v0 S) : lo_V bR v0 (fX4_trouble x1 S) := by
  unfold fX4_trouble
  exact (lo_vV (l_X7_count  h) (fun _ hT2 => (lo_vV (l_X7_write  hT2) (fun _ hT4 => (lo_vV (l_X10_become  hT4) (fun _ hT6 => (lo_wV (lcF hT6 rfl) (fun _ hT8 => (lo_wV (lcF hT8 rfl) (fun _ hT9 => (lo_sV hT9)))))))))))
set_option maxHeartbeats 200000 in
theorem l_X4_workSingle_b144 {x1 : Int32} {Sn : q_V} (h : lc bR v0 Sn) : lo_V bR v0 (fX4_workSingle_b144 x1 Sn) := by
  unfold fX4_workSingle_b144
  exact (lo_sV h)
set_option maxHeartbeats 200000 in
theorem l_X4_workSingle_b122 {x1 : Int32} {xt0 : Int32} {Sn : q_V} (h : lc bR v0 Sn) : lo_V bR v0 (fX4_workSingle_b122 x1 xt0 Sn) := by
  unfold fX4_workSingle_b122
  exact (lo_vV (l_X4_push  h) (fun _ hT2001 => (l_X4_workSingle_b144  hT2001)))
set_option maxHeartbeats 200000 in
theorem l_X4_workSingle_b141 {x1 : Int32} {xt0 : Int32} {Sn : q_V} (h : lc bR v0 Sn) : lo_V bR v0 (fX4_workSingle_b141 x1 xt0 Sn) := by
  unfold fX4_workSingle_b141
  exact (lo_vV (l_X4_push  h) (fun _ hT3001 => (l_X4_workSingle_b144  hT3001)))
set_option maxHeartbeats 200000 in
theorem l_X4_workSingle {x1 : Int32} {S : q_V} (h : lc bR v0 S) : lo_V bR v0 (fX4_workSingle x1 S) := by
  unfold fX4_workSingle
  exact (lo_iV (fun _ => (lo_dV (l_X4_take  h) (fun _ _ hT2 => (lo_vV (l_X4_push  hT2) (fun _ hT4 => (l_X4_workSingle_b144  hT4)))))) (fun _ => (lo_iV (fun _ => (lo_dV (l_X4_frame  h) (fun _ _ hT6 => (lo_dV (l_X4_take  hT6) (fun _ _ hT8 => (lo_dV (l_X3_get  hT8) (fun _ _ hT10 => (lo_vV (l_X4_push  hT10) (fun _ hT12 => (l_X4_workSingle_b144  hT12)))))))))) (fun _ => (lo_iV (fun _ => (lo_dV (l_X4_frame  h) (fun _ _ hT14 => (lo_vV (l_X4_push  hT14) (fun _ hT16 => (l_X4_workSingle_b144  hT16)))))) (fun _ => (lo_iV (fun _ => (lo_dV (l_X4_frame  h) (fun _ _ hT18 => (lo_vV (l_X4_push  hT18) (fun _ hT20 => (l_X4_workSingle_b144  hT20)))))) (fun _ => (lo_iV (fun _ => (lo_dV (l_X4_pop  h) (fun _ _ hT22 => (lo_vV (l_X4_push  hT22) (fun _ hT24 => (l_X4_workSingle_b144  hT24)))))) (fun _ => (lo_iV (fun _ => (lo_dV (l_X4_pop  h) (fun _ _ hT26 => (lo_iV (fun _ => (l_X4_workSingle_b122  hT26)) (fun _ => (l_X4_workSingle_b122  hT26)))))) (fun _ => (lo_dV (l_X4_pop  h) (fun _ _ hT29 => (lo_iV (fun _ => (l_X4_workSingle_b141  hT29)) (fun _ => (l_X4_workSingle_b141  hT29)))))))))))))))))
set_option maxHeartbeats 200000 in
theorem l_X4_divide_b31 {x1 : Int32} {x2 : Int32} {x3 : Int32} {Sn : q_V} (h : lc bR v0 Sn) : lo_V bR v0 (fX4_divide_b31 x1 x2 x3 Sn) := by
  unfold fX4_divide_b31
  exact (lo_sV h)
set_option maxHeartbeats 200000 in
theorem l_X4_divide_b28 {x1 : Int32} {x2 : Int32} {x3 : Int32} {xt0 : Int32} {Sn : q_V} (h : lc bR v0 Sn) : lo_V bR v0 (fX4_divide_b28 x1 x2 x3 xt0 Sn) := by
  unfold fX4_divide_b28
  exact (lo_vV (l_X4_push  h) (fun _ hT2001 => (l_X4_divide_b31  hT2001)))
set_option maxHeartbeats 200000 in
theorem l_X4_divide {x1 : Int32} {x2 : Int32} {x3 : Int32} {S : q_V} (h : lc bR v0 S) : lo_V bR v0 (fX4_divide x1 x2 x3 S) := by
  unfold fX4_divide
  exact (lo_iV (fun _ => (lo_vV (l_X4_trouble  h) (fun _ hT2 => (l_X4_divide_b31  hT2)))) (fun _ => (lo_iV (fun _ => (lo_iV (fun _ => lo_nV) (fun _ => (l_X4_divide_b28  h)))) (fun _ => (lo_iV (fun _ => lo_nV) (fun _ => (l_X4_divide_b28  h)))))))
set_option maxHeartbeats 200000 in
theorem l_X4_workPair_b165 {x1 : Int32} {Sn : q_V} (h : lc bR v0 Sn) : lo_V bR v0 (fX4_workPair_b165 x1 Sn) := by
  unfold fX4_workPair_b165
  exact (lo_sV h)
set_option maxHeartbeats 200000 in
theorem l_X4_workPair_b158 {x1 : Int32} {xn2 : Int32} {xn3 : Int32} {Sn : q_V} (h : lc bR v0 Sn) : lo_V bR v0 (fX4_workPair_b158 x1 xn2 xn3 Sn) := by
  unfold fX4_workPair_b158
  exact (lo_vV (l_X4_divide  h) (fun _ hT2001 => (l_X4_workPair_b165  hT2001)))
set_option maxHeartbeats 200000 in
theorem l_X4_workPair_b101 {x1 : Int32} {xt0 : Int32} {Sn : q_V} (h : lc bR v0 Sn) : lo_V bR v0 (fX4_workPair_b101 x1 xt0 Sn) := by
  unfold fX4_workPair_b101
  exact (lo_vV (l_X4_push  h) (fun _ hT3001 => (l_X4_workPair_b165  hT3001)))
set_option maxHeartbeats 200000 in
theorem l_X4_workPair_b118 {x1 : Int32} {xt0 : Int32} {Sn : q_V} (h : lc bR v0 Sn) : lo_V bR v0 (fX4_workPair_b118 x1 xt0 Sn) := by
  unfold fX4_workPair_b118
  exact (lo_vV (l_X4_push  h) (fun _ hT4001 => (l_X4_workPair_b165  hT4001)))
set_option maxHeartbeats 200000 in
theorem l_X4_workPair_b135 {x1 : Int32} {xt0 : Int32} {Sn : q_V} (h : lc bR v0 Sn) : lo_V bR v0 (fX4_workPair_b135 x1 xt0 Sn) := by
  unfold fX4_workPair_b135
  exact (lo_vV (l_X4_push  h) (fun _ hT5001 => (l_X4_workPair_b165  hT5001)))
set_option maxHeartbeats 200000 in
theorem l_X4_workPair_b152 {x1 : Int32} {xt0 : Int32} {Sn : q_V} (h : lc bR v0 Sn) : lo_V bR v0 (fX4_workPair_b152 x1 xt0 Sn) := by
  unfold fX4_workPair_b152
  exact (lo_vV (l_X4_push  h) (fun _ hT6001 => (l_X4_workPair_b165  hT6001)))
set_option maxHeartbeats 200000 in
theorem l_X4_workPair {x1 : Int32} {S : q_V} (h : lc bR v0 S) : lo_V bR v0 (fX4_workPair x1 S) := by
  unfold fX4_workPair
  exact (lo_dV (l_X4_pop  h) (fun _ _ hT1 => (lo_dV (l_X4_pop  hT1) (fun _ _ hT3 => (lo_iV (fun _ => (lo_vV (l_X4_push  hT3) (fun _ hT6 => (l_X4_workPair_b165  hT6)))) (fun _ => (lo_iV (fun _ => (lo_vV (l_X4_push  hT3) (fun _ hT8 => (l_X4_workPair_b165  hT8)))) (fun _ => (lo_iV (fun _ => (lo_vV (l_X4_push  hT3) (fun _ hT10 => (l_X4_workPair_b165  hT10)))) (fun _ => (lo_iV (fun _ => (l_X4_workPair_b158  hT3)) (fun _ => (lo_iV (fun _ => (l_X4_workPair_b158  hT3)) (fun _ => (lo_iV (fun _ => (lo_iV (fun _ => (l_X4_workPair_b101  hT3)) (fun _ => (l_X4_workPair_b101  hT3)))) (fun _ => (lo_iV (fun _ => (lo_iV (fun _ => (l_X4_workPair_b118  hT3)) (fun _ => (l_X4_workPair_b118  hT3)))) (fun _ => (lo_iV (fun _ => (lo_iV (fun _ => (l_X4_workPair_b135  hT3)) (fun _ => (l_X4_workPair_b135  hT3)))) (fun _ => (lo_iV (fun _ => (lo_iV (fun _ => (l_X4_workPair_b152  hT3)) (fun _ => (l_X4_workPair_b152  hT3)))) (fun _ => (l_X4_workPair_b158  hT3)))))))))))))))))))))))
set_option maxHeartbeats 200000 in
theorem l_X4_workQuery_b115 {x1 : Int32} {Sn : q_V} (h : lc bR v0 Sn) : lo_V bR v0 (fX4_workQuery_b115 x1 Sn) := by
  unfold fX4_workQuery_b115
  exact (lo_sV h)
set_option maxHeartbeats 200000 in
theorem l_X4_workQuery_b97 {x1 : Int32} {xn3 : Int32} {Sn : q_V} (h : lc bR v0 Sn) : lo_V bR v0 (fX4_workQuery_b97 x1 xn3 Sn) := by
  unfold fX4_workQuery_b97
  exact (lo_iV (fun _ => (lo_vV (l_X4_trouble  h) (fun _ hT2002 => (l_X4_workQuery_b115  hT2002)))) (fun _ => (lo_vV (l_X4_push  h) (fun _ hT2001 => (l_X4_workQuery_b115  hT2001)))))
set_option maxHeartbeats 200000 in
theorem l_X4_workQuery {x1 : Int32} {S : q_V} (h : lc bR v0 S) : lo_V bR v0 (fX4_workQuery x1 S) := by
  unfold fX4_workQuery
  exact (lo_dV (l_X4_pop  h) (fun _ _ hT1 => (lo_iV (fun _ => (lo_dV (l_X1_levelOf  hT1) (fun _ _ hT5 => (l_X4_workQuery_b97  hT5)))) (fun _ => (lo_iV (fun _ => (lo_dV (l_X1_reachLevelOf  hT1) (fun _ _ hT9 => (l_X4_workQuery_b97  hT9)))) (fun _ => (lo_iV (fun _ => (lo_dV (l_X4_pop  hT1) (fun _ _ hT13 => (lo_dV (l_X1_gateOf  hT13) (fun _ _ hT15 => (l_X4_workQuery_b97  hT15)))))) (fun _ => (lo_iV (fun _ => (lo_dV (l_X1_placeOf  hT1) (fun _ _ hT19 => (l_X4_workQuery_b97  hT19)))) (fun _ => (lo_dV (l_X1_holdsOf  hT1) (fun _ _ hT22 => (l_X4_workQuery_b97  hT22)))))))))))))
set_option maxHeartbeats 200000 in
theorem l_X4_jumpIf_b9 {x1 : Int32} {x2 : Int32} {Sn : q_V} (h : lc bR v0 Sn) : lo_V bR v0 (fX4_jumpIf_b9 x1 x2 Sn) := by
  unfold fX4_jumpIf_b9
  exact (lo_sV h)
set_option maxHeartbeats 200000 in
theorem l_X4_jumpIf {x1 : Int32} {x2 : Int32} {S : q_V} (h : lc bR v0 S) : lo_V bR v0 (fX4_jumpIf x1 x2 S) := by
  unfold fX4_jumpIf
  exact (lo_iV (fun _ => (l_X4_jumpIf_b9  h)) (fun _ => (lo_wV (lcI h rfl) (fun _ hT1 => (l_X4_jumpIf_b9  hT1)))))
set_option maxHeartbeats 200000 in
theorem l_X4_settle_b27 {x1 : Int32} {x2 : Int32} {Sn : q_V} (h : lc bR v0 Sn) : lo_V bR v0 (fX4_settle_b27 x1 x2 Sn) := by
  unfold fX4_settle_b27
  exact (lo_sV h)
set_option maxHeartbeats 200000 in
theorem l_X4_settle_b19 {x1 : Int32} {x2 : Int32} {xt0 : Int32} {Sn : q_V} (h : lc bR v0 Sn) : lo_V bR v0 (fX4_settle_b19 x1 x2 xt0 Sn) := by
  unfold fX4_settle_b19
  exact (lo_vV (l_X4_push  h) (fun _ hT2001 => (lo_wV (lcI hT2001 rfl) (fun _ hT2002 => (l_X4_settle_b27  hT2002)))))
set_option maxHeartbeats 200000 in
theorem l_X4_settle {x1 : Int32} {x2 : Int32} {S : q_V} (h : lc bR v0 S) : lo_V bR v0 (fX4_settle x1 x2 S) := by
  unfold fX4_settle
  exact (lo_dV (l_X4_pop  h) (fun _ _ hT1 => (lo_iV (fun _ => (l_X4_settle_b27  hT1)) (fun _ => (lo_iV (fun _ => (l_X4_settle_b19  hT1)) (fun _ => (l_X4_settle_b19  hT1)))))))
set_option maxHeartbeats 200000 in
theorem l_X4_match_b19 {x1 : Int32} {x2 : Int32} {Sn : q_V} (h : lc bR v0 Sn) : lo_V bR v0 (fX4_match_b19 x1 x2 Sn) := by
  unfold fX4_match_b19
  exact (lo_sV h)
set_option maxHeartbeats 200000 in
theorem l_X4_match {x1 : Int32} {x2 : Int32} {S : q_V} (h : lc bR v0 S) : lo_V bR v0 (fX4_match x1 x2 S) := by
  unfold fX4_match
  exact (lo_dV (l_X4_peek  h) (fun _ _ hT1 => (lo_iV (fun _ => (lo_dV (l_X4_pop  hT1) (fun _ _ hT3 => (lo_wV (lcI hT3 rfl) (fun _ hT5 => (l_X4_match_b19  hT5)))))) (fun _ => (l_X4_match_b19  hT1)))))
set_option maxHeartbeats 200000 in
theorem l_X4_beginRoundOfEach_b41 {x1 : Int32} {x2 : Int32} {Sn : q_V} (h : lc bR v0 Sn) : lo_V bR v0 (fX4_beginRoundOfEach_b41 x1 x2 Sn) := by
  unfold fX4_beginRoundOfEach_b41
  exact (lo_sV h)
set_option maxHeartbeats 200000 in
theorem l_X4_beginRoundOfEach {x1 : Int32} {x2 : Int32} {S : q_V} (h : lc bR v0 S) : lo_V bR v0 (fX4_beginRoundOfEach x1 x2 S) := by
  unfold fX4_beginRoundOfEach
  exact (lo_dV (l_X4_peek  h) (fun _ _ hT1 => (lo_dV (l_X4_peek  hT1) (fun _ _ hT3 => (lo_iV (fun _ => (lo_dV (l_X4_spend  hT3) (fun _ _ hT5 => (lo_iV (fun _ => (l_X4_beginRoundOfEach_b41  hT5)) (fun _ => (lo_dV (l_X4_frame  hT5) (fun _ _ hT7 => (lo_dV (l_X4_peek  hT7) (fun _ _ hT9 => (lo_vV (l_X3_set  hT9) (fun _ hT11 => (l_X4_beginRoundOfEach_b41  hT11)))))))))))) (fun _ => (lo_wV (lcI hT3 rfl) (fun _ hT13 => (l_X4_beginRoundOfEach_b41  hT13)))))))))
set_option maxHeartbeats 200000 in
theorem l_X4_stepEach_b42 {x1 : Int32} {xt0 : Int32} {Sn : q_V} (h : lc bR v0 Sn) : lo_V bR v0 (fX4_stepEach_b42 x1 xt0 Sn) := by
  unfold fX4_stepEach_b42
  exact (lo_vV (l_X4_jumpIf  h) (fun _ hT1001 => (lo_sV hT1001)))
set_option maxHeartbeats 200000 in
theorem l_X4_stepEach_b23 {x1 : Int32} {xn2 : Int32} {xn3 : Int32} {xt0 : Int32} {Sn : q_V} (h : lc bR v0 Sn) : lo_V bR v0 (fX4_stepEach_b23 x1 xn2 xn3 xt0 Sn) := by
  unfold fX4_stepEach_b23
  exact (lo_vV (l_X4_push  h) (fun _ hT2001 => (lo_vV (l_X4_push  hT2001) (fun _ hT2002 => (lo_iV (fun _ => (l_X4_stepEach_b42  hT2002)) (fun _ => (l_X4_stepEach_b42  hT2002)))))))
set_option maxHeartbeats 200000 in
theorem l_X4_stepEach {x1 : Int32} {S : q_V} (h : lc bR v0 S) : lo_V bR v0 (fX4_stepEach x1 S) := by
  unfold fX4_stepEach
  exact (lo_dV (l_X4_pop  h) (fun _ _ hT1 => (lo_dV (l_X4_pop  hT1) (fun _ _ hT3 => (lo_iV (fun _ => (l_X4_stepEach_b23  hT3)) (fun _ => (l_X4_stepEach_b23  hT3)))))))
set_option maxHeartbeats 200000 in
theorem l_X4_flow_b272 {x1 : Int32} {Sn : q_V} (h : lc bR v0 Sn) : lo_V bR v0 (fX4_flow_b272 x1 Sn) := by
  unfold fX4_flow_b272
  exact (lo_sV h)
set_option maxHeartbeats 200000 in
theorem l_X4_flow_b101 {x1 : Int32} {xn2 : Int32} {xt0 : Int32} {Sn : q_V} (h : lc bR v0 Sn) : lo_V bR v0 (fX4_flow_b101 x1 xn2 xt0 Sn) := by
  unfold fX4_flow_b101
  exact (lo_vV (l_X4_jumpIf  h) (fun _ hT2001 => (l_X4_flow_b272  hT2001)))
set_option maxHeartbeats 200000 in
theorem l_X4_flow_b122 {x1 : Int32} {xn2 : Int32} {xt0 : Int32} {Sn : q_V} (h : lc bR v0 Sn) : lo_V bR v0 (fX4_flow_b122 x1 xn2 xt0 Sn) := by
  unfold fX4_flow_b122
  exact (lo_vV (l_X4_settle  h) (fun _ hT3001 => (l_X4_flow_b272  hT3001)))
set_option maxHeartbeats 200000 in
theorem l_X4_flow_b143 {x1 : Int32} {xn2 : Int32} {xt0 : Int32} {Sn : q_V} (h : lc bR v0 Sn) : lo_V bR v0 (fX4_flow_b143 x1 xn2 xt0 Sn) := by
  unfold fX4_flow_b143
  exact (lo_vV (l_X4_settle  h) (fun _ hT4001 => (l_X4_flow_b272  hT4001)))
set_option maxHeartbeats 200000 in
theorem l_X4_flow_b217 {x1 : Int32} {xn2 : Int32} {xt0 : Int32} {Sn : q_V} (h : lc bR v0 Sn) : lo_V bR v0 (fX4_flow_b217 x1 xn2 xt0 Sn) := by
  unfold fX4_flow_b217
  exact (lo_vV (l_X4_jumpIf  h) (fun _ hT5001 => (l_X4_flow_b272  hT5001)))
set_option maxHeartbeats 200000 in
theorem l_X4_flow_b14 {x1 : Int32} {xt0 : Int32} {Sn : q_V} (h : lc bR v0 Sn) : lo_V bR v0 (fX4_flow_b14 x1 xt0 Sn) := by
  unfold fX4_flow_b14
  exact (lo_iV (fun _ => (lo_wV (lcI h rfl) (fun _ hT6002 => (l_X4_flow_b272  hT6002)))) (fun _ => (lo_iV (fun _ => (lo_dV (l_X4_pop  h) (fun _ _ hT6004 => (lo_iV (fun _ => (l_X4_flow_b101  hT6004)) (fun _ => (l_X4_flow_b101  hT6004)))))) (fun _ => (lo_iV (fun _ => (lo_dV (l_X4_peek  h) (fun _ _ hT6008 => (lo_iV (fun _ => (l_X4_flow_b122  hT6008)) (fun _ => (l_X4_flow_b122  hT6008)))))) (fun _ => (lo_iV (fun _ => (lo_dV (l_X4_peek  h) (fun _ _ hT6012 => (lo_iV (fun _ => (l_X4_flow_b143  hT6012)) (fun _ => (l_X4_flow_b143  hT6012)))))) (fun _ => (lo_iV (fun _ => (lo_wV (lcI h rfl) (fun _ hT6016 => (l_X4_flow_b272  hT6016)))) (fun _ => (lo_iV (fun _ => (lo_dV (l_X4_frame  h) (fun _ _ hT6018 => (lo_dV (l_X4_pop  hT6018) (fun _ _ hT6020 => (lo_vV (l_X3_set  hT6020) (fun _ hT6022 => (l_X4_flow_b272  hT6022)))))))) (fun _ => (lo_iV (fun _ => (lo_dV (l_X4_pop  h) (fun _ _ hT6024 => (lo_vV (l_X4_match  hT6024) (fun _ hT6026 => (l_X4_flow_b272  hT6026)))))) (fun _ => (lo_iV (fun _ => (lo_dV (l_X4_pop  h) (fun _ _ hT6028 => (lo_dV (l_X4_top  hT6028) (fun _ _ hT6030 => (lo_iV (fun _ => (l_X4_flow_b217  hT6030)) (fun _ => (l_X4_flow_b217  hT6030)))))))) (fun _ => (lo_iV (fun _ => (lo_dV (l_X4_spend  h) (fun _ _ hT6035 => (lo_iV (fun _ => (l_X4_flow_b272  hT6035)) (fun _ => (lo_wV (lcI hT6035 rfl) (fun _ hT6037 => (l_X4_flow_b272  hT6037)))))))) (fun _ => (lo_iV (fun _ => (lo_wV (lcI h rfl) (fun _ hT6040 => (l_X4_flow_b272  hT6040)))) (fun _ => (lo_iV (fun _ => (lo_dV (l_X4_spend  h) (fun _ _ hT6042 => (l_X4_flow_b272  hT6042)))) (fun _ => (lo_iV (fun _ => (lo_dV (l_X4_take  h) (fun _ _ hT6045 => (lo_vV (l_X4_beginRoundOfEach  hT6045) (fun _ hT6047 => (l_X4_flow_b272  hT6047)))))) (fun _ => (lo_vV (l_X4_stepEach  h) (fun _ hT6048 => (l_X4_flow_b272  hT6048)))))))))))))))))))))))))))
set_option maxHeartbeats 200000 in
theorem l_X4_flow {x1 : Int32} {S : q_V} (h : lc bR v0 S) : lo_V bR v0 (fX4_flow x1 S) := by
  unfold fX4_flow
  exact (lo_iV (fun _ => (l_X4_flow_b14  h)) (fun _ => (lo_dV (l_X4_take  h) (fun _ _ hT1 => (l_X4_flow_b14  hT1)))))
set_option maxHeartbeats 200000 in
theorem l_X4_fail_b19 {x1 : Int32} {xt0 : Int32} {Sn : q_V} (h : lc bR v0 Sn) : lo_V bR v0 (fX4_fail_b19 x1 xt0 Sn) := by
  unfold fX4_fail_b19
  exact (lo_vV (l_X4_trouble  h) (fun _ hT1001 => (lo_sV hT1001)))
set_option maxHeartbeats 200000 in
theorem l_X4_fail_b17 {x1 : Int32} {Sn : q_V} (h : lc bR v0 Sn) : lo_V bR v0 (fX4_fail_b17 x1 Sn) := by
  unfold fX4_fail_b17
  exact (l_X4_fail_b19  h)
set_option maxHeartbeats 200000 in
theorem l_X4_fail {x1 : Int32} {S : q_V} (h : lc bR v0 S) : lo_V bR v0 (fX4_fail x1 S) := by
  unfold fX4_fail
  exact (lo_iV (fun _ => (l_X4_fail_b17  h)) (fun _ => (lo_iV (fun _ => (l_X4_fail_b17  h)) (fun _ => (l_X4_fail_b19  h)))))
set_option maxHeartbeats 200000 in
theorem l_X4_moveGate_b96 {x1 : Int32} {xn2 : Int32} {xn3 : Int32} {xt0 : Int32} {Sn : q_V} (h : lc bR v0 Sn) : lo_V bR v0 (fX4_moveGate_b96 x1 xn2 xn3 xt0 Sn) := by
  unfold fX4_moveGate_b96
  exact (lo_vV (l_X7_write  h) (fun _ hT1001 => (lo_sV hT1001)))
set_option maxHeartbeats 200000 in
theorem l_X4_moveGate_b79 {x1 : Int32} {xn2 : Int32} {xn3 : Int32} {xn4 : Int32} {xt0 : Int32} {xt1 : Int32} {xt2 : Int32} {Sn : q_V} (h : lc bR v0 Sn) : lo_V bR v0 (fX4_moveGate_b79 x1 xn2 xn3 xn4 xt0 xt1 xt2 Sn) := by
  unfold fX4_moveGate_b79
  exact (lo_vV (l_X1_setGate  h) (fun _ hT2001 => (lo_iV (fun _ => (l_X4_moveGate_b96  hT2001)) (fun _ => (l_X4_moveGate_b96  hT2001)))))
set_option maxHeartbeats 200000 in
theorem l_X4_moveGate_b49 {x1 : Int32} {xn2 : Int32} {xn3 : Int32} {xn4 : Int32} {xt0 : Int32} {Sn : q_V} (h : lc bR v0 Sn) : lo_V bR v0 (fX4_moveGate_b49 x1 xn2 xn3 xn4 xt0 Sn) := by
  unfold fX4_moveGate_b49
  exact (lo_iV (fun _ => (lo_iV (fun _ => (l_X4_moveGate_b79  h)) (fun _ => (l_X4_moveGate_b79  h)))) (fun _ => (lo_vV (l_X4_trouble  h) (fun _ hT3003 => (lo_sV hT3003)))))
set_option maxHeartbeats 200000 in
theorem l_X4_moveGate_b21 {x1 : Int32} {xn2 : Int32} {xn3 : Int32} {xt0 : Int32} {Sn : q_V} (h : lc bR v0 Sn) : lo_V bR v0 (fX4_moveGate_b21 x1 xn2 xn3 xt0 Sn) := by
  unfold fX4_moveGate_b21
  exact (lo_iV (fun _ => (lo_dV (l_X1_troubleToShut  h) (fun _ _ hT4002 => (l_X4_moveGate_b49  hT4002)))) (fun _ => (lo_dV (l_X1_troubleToOpen  h) (fun _ _ hT4005 => (l_X4_moveGate_b49  hT4005)))))
set_option maxHeartbeats 200000 in
theorem l_X4_moveGate {x1 : Int32} {S : q_V} (h : lc bR v0 S) : lo_V bR v0 (fX4_moveGate x1 S) := by
  unfold fX4_moveGate
  exact (lo_dV (l_X4_pop  h) (fun _ _ hT1 => (lo_dV (l_X4_pop  hT1) (fun _ _ hT3 => (lo_iV (fun _ => (l_X4_moveGate_b21  hT3)) (fun _ => (l_X4_moveGate_b21  hT3)))))))
set_option maxHeartbeats 200000 in
theorem l_X4_sluice_b140 {xn2 : Int32} {xn3 : Int32} {xn6 : Int32} {Sn : q_V} (h : lc bR v0 Sn) : lo_V bR v0 (fX4_sluice_b140 xn2 xn3 xn6 Sn) := by
  unfold fX4_sluice_b140
  exact (lo_vV (l_X7_write  h) (fun _ hT1002 => (lo_sV hT1002)))
set_option maxHeartbeats 200000 in
theorem l_X4_sluice_b106 {xn1 : Int32} {xn2 : Int32} {xn3 : Int32} {xn5 : Int32} {xn6 : Int32} {xn7 : Int32} {xt0 : Int32} {K61 : Int32 → Int32 → Int32 → Int32 → Int32 → q_V → Option q_V} (kK61 : ∀ a0 a1 a2 a3 a4 S, lc bR v0 S → lo_V bR v0 (K61 a0 a1 a2 a3 a4 S)) {Sn : q_V} (h : lc bR v0 Sn) : lo_V bR v0 (fX4_sluice_b106 xn1 xn2 xn3 xn5 xn6 xn7 xt0 K61 Sn) := by
  unfold fX4_sluice_b106
  exact (lo_iV (fun _ => (l_X4_sluice_b140  h)) (fun _ => (lo_dV (l_X4_spend  h) (fun _ _ hT2001 => (lo_iV (fun _ => (l_X4_sluice_b140  hT2001)) (fun _ => (lo_vV (l_X1_moveUnit  hT2001) (fun _ hT2004 => (lo_xV (kK61 _ _ _ _ _ _ hT2004))))))))))
set_option maxHeartbeats 200000 in
theorem l_X4_sluice_L61  : ∀ n xn1 xn2 xn3 xn5 xn6 Sn, lc bR v0 Sn → lo_V bR v0 (fX4_sluice_L61  n xn1 xn2 xn3 xn5 xn6 Sn) := by
  intro n
  induction n with
  | zero => intro xn1 xn2 xn3 xn5 xn6 Sn _; exact lo_nV
  | succ n ih =>
    intro xn1 xn2 xn3 xn5 xn6 Sn h
    rw [fX4_sluice_L61]
    exact (lo_iV (fun _ => (l_X4_sluice_b140  h)) (fun _ => (lo_dV (l_X1_headOf  h) (fun _ _ hT3002 => (lo_iV (fun _ => (lo_iV (fun _ => (l_X4_sluice_b106 (fun _ _ _ _ _ _ hk => (ih _ _ _ _ _ _ hk)) hT3002)) (fun _ => (l_X4_sluice_b106 (fun _ _ _ _ _ _ hk => (ih _ _ _ _ _ _ hk)) hT3002)))) (fun _ => (lo_iV (fun _ => (l_X4_sluice_b106 (fun _ _ _ _ _ _ hk => (ih _ _ _ _ _ _ hk)) hT3002)) (fun _ => (l_X4_sluice_b106 (fun _ _ _ _ _ _ hk => (ih _ _ _ _ _ _ hk)) hT3002)))))))))
set_option maxHeartbeats 200000 in
theorem l_X4_sluice_b56 {xn1 : Int32} {xn2 : Int32} {xn3 : Int32} {xt0 : Int32} {Sn : q_V} (h : lc bR v0 Sn) : lo_V bR v0 (fX4_sluice_b56 xn1 xn2 xn3 xt0 Sn) := by
  unfold fX4_sluice_b56
  exact (l_X4_sluice_L61  _ _ _ _ _ _ _ h)
set_option maxHeartbeats 200000 in
theorem l_X4_sluice  {S : q_V} (h : lc bR v0 S) : lo_V bR v0 (fX4_sluice  S) := by
  unfold fX4_sluice
  exact (lo_dV (l_X4_pop  h) (fun _ _ hT1 => (lo_dV (l_X4_pop  hT1) (fun _ _ hT3 => (lo_dV (l_X4_pop  hT3) (fun _ _ hT5 => (lo_dV (l_X1_troubleToSluice  hT5) (fun _ _ hT8 => (lo_iV (fun _ => (lo_dV (l_X1_headOf  hT8) (fun _ _ hT11 => (lo_iV (fun _ => (l_X4_sluice_b56  hT11)) (fun _ => (l_X4_sluice_b56  hT11)))))) (fun _ => (lo_vV (l_X4_trouble  hT8) (fun _ hT14 => (lo_sV hT14)))))))))))))
set_option maxHeartbeats 200000 in
theorem l_X4_sail  {S : q_V} (h : lc bR v0 S) : lo_V bR v0 (fX4_sail  S) := by
  unfold fX4_sail
  exact (lo_dV (l_X4_pop  h) (fun _ _ hT1 => (lo_dV (l_X4_pop  hT1) (fun _ _ hT3 => (lo_dV (l_X1_troubleToSail  hT3) (fun _ _ hT6 => (lo_iV (fun _ => (lo_dV (l_X1_moveShip  hT6) (fun _ _ hT10 => (lo_vV (l_X7_write  hT10) (fun _ hT12 => (lo_sV hT12)))))) (fun _ => (lo_vV (l_X4_trouble  hT6) (fun _ hT13 => (lo_sV hT13)))))))))))
set_option maxHeartbeats 200000 in
theorem l_X4_order_b152 {x1 : Int32} {Sn : q_V} (h : lc bR v0 Sn) : lo_V bR v0 (fX4_order_b152 x1 Sn) := by
  unfold fX4_order_b152
  exact (lo_sV h)
set_option maxHeartbeats 200000 in
theorem l_X4_order_b67 {x1 : Int32} {Sn : q_V} (h : lc bR v0 Sn) : lo_V bR v0 (fX4_order_b67 x1 Sn) := by
  unfold fX4_order_b67
  exact (lo_vV (l_X4_moveGate  h) (fun _ hT2001 => (l_X4_order_b152  hT2001)))
set_option maxHeartbeats 200000 in
theorem l_X4_order {x1 : Int32} {S : q_V} (h : lc bR v0 S) : lo_V bR v0 (fX4_order x1 S) := by
  unfold fX4_order
  exact (lo_iV (fun _ => (lo_dV (l_X4_pop  h) (fun _ _ hT3 => (lo_vV (l_X7_write  hT3) (fun _ hT5 => (l_X4_order_b152  hT5)))))) (fun _ => (lo_iV (fun _ => (l_X4_order_b67  h)) (fun _ => (lo_iV (fun _ => (l_X4_order_b67  h)) (fun _ => (lo_iV (fun _ => (lo_vV (l_X4_sluice  h) (fun _ hT9 => (l_X4_order_b152  hT9)))) (fun _ => (lo_iV (fun _ => (lo_vV (l_X4_sail  h) (fun _ hT11 => (l_X4_order_b152  hT11)))) (fun _ => (lo_iV (fun _ => (lo_dV (l_X4_take  h) (fun _ _ hT14 => (lo_vV (l_X10_become  hT14) (fun _ hT16 => (l_X4_order_b152  hT16)))))) (fun _ => (lo_iV (fun _ => (lo_dV (l_X4_take  h) (fun _ _ hT19 => (lo_vV (l_X10_become  hT19) (fun _ hT21 => (l_X4_order_b152  hT21)))))) (fun _ => (lo_iV (fun _ => (lo_dV (l_X4_pop  h) (fun _ _ hT24 => (lo_vV (l_X10_become  hT24) (fun _ hT26 => (l_X4_order_b152  hT26)))))) (fun _ => (lo_iV (fun _ => (lo_dV (l_X4_pop  h) (fun _ _ hT28 => (lo_vV (l_X4_fail  hT28) (fun _ hT30 => (l_X4_order_b152  hT30)))))) (fun _ => (lo_wV (lcI h rfl) (fun _ hT31 => (l_X4_order_b152  hT31)))))))))))))))))))))
set_option maxHeartbeats 200000 in
theorem l_X4_hold_b44 {x1 : Int32} {x2 : Int32} {Sn : q_V} (h : lc bR v0 Sn) : lo_V bR v0 (fX4_hold_b44 x1 x2 Sn) := by
  unfold fX4_hold_b44
  exact (lo_dV (l_X4_begin  h) (fun _ _ hT1001 => (lo_wV (lcF hT1001 rfl) (fun _ hT1003 => (lo_sV hT1003)))))
set_option maxHeartbeats 200000 in
theorem l_X4_hold {x1 : Int32} {x2 : Int32} {S : q_V} (h : lc bR v0 S) : lo_V bR v0 (fX4_hold x1 x2 S) := by
  unfold fX4_hold
  exact (lo_dV (l_X1_addHold  h) (fun _ _ hT2 => (lo_iV (fun _ => (lo_vV (l_X4_trouble  hT2) (fun _ hT9 => (lo_sV hT9)))) (fun _ => (lo_vV (l_X7_count  hT2) (fun _ hT5 => (lo_iV (fun _ => (lo_vV (l_X7_write  hT5) (fun _ hT7 => (l_X4_hold_b44  hT7)))) (fun _ => (l_X4_hold_b44  hT5)))))))))
set_option maxHeartbeats 200000 in
theorem l_X4_mended {a1 : Nat} {S : q_V} (h : lc bR v0 S) : lo_V bR v0 (fX4_mended a1 S) := by
  unfold fX4_mended
  exact (lo_vV (l_X7_count  h) (fun _ hT2 => (lo_vV (l_X7_write  hT2) (fun _ hT5 => (lo_dV (l_X4_frame  hT5) (fun _ _ hT6 => (lo_wV (lcF hT6 rfl) (fun _ hT9 => (lo_dV (l_X4_frame  hT9) (fun _ _ hT10 => (lo_wV (lcF hT10 rfl) (fun _ hT13 => (lo_wV (lcF hT13 rfl) (fun _ hT14 => (lo_sV hT14)))))))))))))))
set_option maxHeartbeats 200000 in
theorem l_X4_ensured_b22 {x1 : Int32} {Sn : q_V} (h : lc bR v0 Sn) : lo_V bR v0 (fX4_ensured_b22 x1 Sn) := by
  unfold fX4_ensured_b22
  exact (lo_sV h)
set_option maxHeartbeats 200000 in
theorem l_X4_ensured {x1 : Int32} {S : q_V} (h : lc bR v0 S) : lo_V bR v0 (fX4_ensured x1 S) := by
  unfold fX4_ensured
  exact (lo_iV (fun _ => (lo_vV (l_X4_trouble  h) (fun _ hT3 => (l_X4_ensured_b22  hT3)))) (fun _ => (lo_vV (l_X10_become  h) (fun _ hT2 => (l_X4_ensured_b22  hT2)))))
set_option maxHeartbeats 200000 in
theorem l_X4_pledge {x1 : Int32} {S : q_V} (h : lc bR v0 S) : lo_V bR v0 (fX4_pledge x1 S) := by
  unfold fX4_pledge
  exact (lo_dV (l_X4_frame  h) (fun _ _ hT1 => (lo_dV (l_X3_pledge  hT1) (fun _ _ hT3 => (lo_iV (fun _ => (lo_vV (l_X4_trouble  hT3) (fun _ hT11 => (lo_sV hT11)))) (fun _ => (lo_vV (l_X7_count  hT3) (fun _ hT6 => (lo_dV (l_X0_get  hT6) (fun _ _ hT8 => (lo_wV (lcI hT8 rfl) (fun _ hT10 => (lo_sV hT10)))))))))))))
set_option maxHeartbeats 200000 in
theorem l_X4_call_L62 {x1 : Int32} : ∀ n an2 xn3 Sn, lc bR v0 Sn → lo_V bR v0 (fX4_call_L62 x1 n an2 xn3 Sn) := by
  intro n
  induction n with
  | zero => intro an2 xn3 Sn _; exact lo_nV
  | succ n ih =>
    intro an2 xn3 Sn h
    rw [fX4_call_L62]
    exact (lo_iV (fun _ => (lo_dV (l_X4_begin  h) (fun _ _ hT1001 => (lo_wV (lcF hT1001 rfl) (fun _ hT1003 => (lo_wV (lcF hT1003 rfl) (fun _ hT1004 => (lo_dV (l_X0_entry  hT1004) (fun _ _ hT1006 => (lo_wV (lcI hT1006 rfl) (fun _ hT1008 => (lo_sV hT1008)))))))))))) (fun _ => (lo_dV (l_X4_pop  h) (fun _ _ hT1009 => (lo_vV (l_X3_set  hT1009) (fun _ hT1011 => (lo_xV (ih _ _ _ hT1011))))))))
set_option maxHeartbeats 200000 in
theorem l_X4_call {x1 : Int32} {S : q_V} (h : lc bR v0 S) : lo_V bR v0 (fX4_call x1 S) := by
  unfold fX4_call
  exact (lo_dV (l_X4_spend  h) (fun _ _ hT1 => (lo_iV (fun _ => (lo_sV hT1)) (fun _ => (lo_iV (fun _ => (lo_vV (l_X7_count  hT1) (fun _ hT4 => (lo_wV (lcI hT4 rfl) (fun _ hT5 => (lo_dV (l_X4_frame  hT5) (fun _ _ hT6 => (lo_vV (l_X3_clear  hT6) (fun _ hT8 => (lo_dV (l_X0_parameters  hT8) (fun _ _ hT10 => (lo_xV (l_X4_call_L62  _ _ _ _ hT10))))))))))))) (fun _ => (lo_vV (l_X4_trouble  hT1) (fun _ hT13 => (lo_sV hT13)))))))))
set_option maxHeartbeats 200000 in
theorem l_X4_beginOrEnd_b185 {x1 : Int32} {Sn : q_V} (h : lc bR v0 Sn) : lo_V bR v0 (fX4_beginOrEnd_b185 x1 Sn) := by
  unfold fX4_beginOrEnd_b185
  exact (lo_sV h)
set_option maxHeartbeats 200000 in
theorem l_X4_beginOrEnd_b101 {x1 : Int32} {xn2 : Int32} {Sn : q_V} (h : lc bR v0 Sn) : lo_V bR v0 (fX4_beginOrEnd_b101 x1 xn2 Sn) := by
  unfold fX4_beginOrEnd_b101
  exact (lo_wV (lcI h rfl) (fun _ hT2001 => (l_X4_beginOrEnd_b185  hT2001)))
set_option maxHeartbeats 200000 in
theorem l_X4_beginOrEnd_b72 {x1 : Int32} {xn2 : Int32} {Sn : q_V} (h : lc bR v0 Sn) : lo_V bR v0 (fX4_beginOrEnd_b72 x1 xn2 Sn) := by
  unfold fX4_beginOrEnd_b72
  exact (lo_dV (l_X4_begin  h) (fun _ _ hT3001 => (lo_dV (l_X0_get  hT3001) (fun _ _ hT3004 => (lo_iV (fun _ => (l_X4_beginOrEnd_b101  hT3004)) (fun _ => (lo_vV (l_X7_count  hT3004) (fun _ hT3007 => (l_X4_beginOrEnd_b101  hT3007)))))))))
set_option maxHeartbeats 200000 in
theorem l_X4_beginOrEnd_b176 {x1 : Int32} {Sn : q_V} (h : lc bR v0 Sn) : lo_V bR v0 (fX4_beginOrEnd_b176 x1 Sn) := by
  unfold fX4_beginOrEnd_b176
  exact (lo_vV (l_X10_become  h) (fun _ hT4002 => (l_X4_beginOrEnd_b185  hT4002)))
set_option maxHeartbeats 200000 in
theorem l_X4_beginOrEnd {x1 : Int32} {S : q_V} (h : lc bR v0 S) : lo_V bR v0 (fX4_beginOrEnd x1 S) := by
  unfold fX4_beginOrEnd
  exact (lo_xV (lo_iV (fun _ => (lo_dV (l_X4_pop  h) (fun _ _ hT3 => (lo_vV (l_X4_hold  hT3) (fun _ hT5 => (l_X4_beginOrEnd_b185  hT5)))))) (fun _ => (lo_iV (fun _ => (l_X4_beginOrEnd_b72  h)) (fun _ => (lo_iV (fun _ => (l_X4_beginOrEnd_b72  h)) (fun _ => (lo_iV (fun _ => (lo_dV (l_X4_top  h) (fun _ _ hT9 => (lo_vV (l_X4_mended  hT9) (fun _ hT11 => (l_X4_beginOrEnd_b185  hT11)))))) (fun _ => (lo_iV (fun _ => (l_X4_beginOrEnd_b176  h)) (fun _ => (lo_iV (fun _ => (lo_dV (l_X4_begin  h) (fun _ _ hT14 => (lo_dV (l_X0_get  hT14) (fun _ _ hT17 => (lo_wV (lcI hT17 rfl) (fun _ hT19 => (l_X4_beginOrEnd_b185  hT19)))))))) (fun _ => (lo_iV (fun _ => (lo_dV (l_X4_pop  h) (fun _ _ hT21 => (lo_vV (l_X4_ensured  hT21) (fun _ hT23 => (l_X4_beginOrEnd_b185  hT23)))))) (fun _ => (lo_iV (fun _ => (lo_vV (l_X4_pledge  h) (fun _ hT25 => (l_X4_beginOrEnd_b185  hT25)))) (fun _ => (lo_iV (fun _ => (lo_dV (l_X4_take  h) (fun _ _ hT27 => (lo_vV (l_X4_call  hT27) (fun _ hT29 => (l_X4_beginOrEnd_b185  hT29)))))) (fun _ => (l_X4_beginOrEnd_b176  h))))))))))))))))))))
set_option maxHeartbeats 200000 in
theorem l_X4_goOn {a1 : Nat} {x2 : Int32} {S : q_V} (h : lc bR v0 S) : lo_V bR v0 (fX4_goOn a1 x2 S) := by
  unfold fX4_goOn
  exact (lo_wV (lcI h rfl) (fun _ hT1 => (lo_wV (lcF hT1 rfl) (fun _ hT3 => (lo_wV (lcI hT3 rfl) (fun _ hT4 => (lo_sV hT4)))))))
set_option maxHeartbeats 200000 in
theorem l_X4_leave_b27 {a1 : Nat} {x2 : Int32} {Sn : q_V} (h : lc bR v0 Sn) : lo_V bR v0 (fX4_leave_b27 a1 x2 Sn) := by
  unfold fX4_leave_b27
  exact (lo_sV h)
set_option maxHeartbeats 200000 in
theorem l_X4_leave {a1 : Nat} {x2 : Int32} {S : q_V} (h : lc bR v0 S) : lo_V bR v0 (fX4_leave a1 x2 S) := by
  unfold fX4_leave
  exact (lo_wV (lcI h rfl) (fun _ hT1 => (lo_iV (fun _ => (lo_vV (l_X4_goOn  hT1) (fun _ hT3 => (l_X4_leave_b27  hT3)))) (fun _ => (l_X4_leave_b27  hT1)))))
set_option maxHeartbeats 200000 in
theorem l_X4_keepWay_b38 {a1 : Nat} {x2 : Int32} {x3 : Int32} {Sn : q_V} (h : lc bR v0 Sn) : lo_V bR v0 (fX4_keepWay_b38 a1 x2 x3 Sn) := by
  unfold fX4_keepWay_b38
  exact (lo_vV (l_X4_goOn  h) (fun _ hT1001 => (lo_sV hT1001)))
set_option maxHeartbeats 200000 in
theorem l_X4_keepWay {a1 : Nat} {x2 : Int32} {x3 : Int32} {S : q_V} (h : lc bR v0 S) : lo_V bR v0 (fX4_keepWay a1 x2 x3 S) := by
  unfold fX4_keepWay
  exact (lo_vV (l_X10_copy  h) (fun _ hT3 => (lo_wV (lcF hT3 rfl) (fun _ hT4 => (lo_iV (fun _ => (lo_wV (lcI hT4 rfl) (fun _ hT6 => (l_X4_keepWay_b38  hT6)))) (fun _ => (l_X4_keepWay_b38  hT4)))))))
set_option maxHeartbeats 200000 in
theorem l_X4_takeWayBack_b69 {a1 : Nat} {Sn : q_V} (h : lc bR v0 Sn) : lo_V bR v0 (fX4_takeWayBack_b69 a1 Sn) := by
  unfold fX4_takeWayBack_b69
  exact (lo_sV h)
set_option maxHeartbeats 200000 in
theorem l_X4_takeWayBack {a1 : Nat} {S : q_V} (h : lc bR v0 S) : lo_V bR v0 (fX4_takeWayBack a1 S) := by
  unfold fX4_takeWayBack
  exact (lo_wV (lcI h rfl) (fun _ hT1 => (lo_iV (fun _ => (lo_vV (l_X10_copy  hT1) (fun _ hT11 => (l_X4_takeWayBack_b69  hT11)))) (fun _ => (lo_iV (fun _ => (lo_vV (l_X7_count  hT1) (fun _ hT5 => (lo_vV (l_X7_write  hT5) (fun _ hT8 => (l_X4_takeWayBack_b69  hT8)))))) (fun _ => (l_X4_takeWayBack_b69  hT1)))))))
set_option maxHeartbeats 200000 in
theorem l_X4_leaveHold_b36 {a1 : Nat} {Sn : q_V} (h : lc bR v0 Sn) : lo_V bR v0 (fX4_leaveHold_b36 a1 Sn) := by
  unfold fX4_leaveHold_b36
  exact (lo_vV (l_X4_leave  h) (fun _ hT1001 => (lo_sV hT1001)))
set_option maxHeartbeats 200000 in
theorem l_X4_leaveHold {a1 : Nat} {S : q_V} (h : lc bR v0 S) : lo_V bR v0 (fX4_leaveHold a1 S) := by
  unfold fX4_leaveHold
  exact (lo_vV (l_X7_count  h) (fun _ hT2 => (lo_dV (l_X1_addHold  hT2) (fun _ _ hT4 => (lo_iV (fun _ => (lo_vV (l_X7_write  hT4) (fun _ hT7 => (l_X4_leaveHold_b36  hT7)))) (fun _ => (l_X4_leaveHold_b36  hT4)))))))
set_option maxHeartbeats 200000 in
theorem l_X4_beginAlways_b26 {a1 : Nat} {Sn : q_V} (h : lc bR v0 Sn) : lo_D bR v0 (fX4_beginAlways_b26 a1 Sn) := by
  unfold fX4_beginAlways_b26
  exact (lo_sD h)
set_option maxHeartbeats 200000 in
theorem l_X4_beginAlways {a1 : Nat} {S : q_V} (h : lc bR v0 S) : lo_D bR v0 (fX4_beginAlways a1 S) := by
  unfold fX4_beginAlways
  exact (lo_dD (l_X0_get  h) (fun _ _ hT2 => (lo_iD (fun _ => (l_X4_beginAlways_b26  hT2)) (fun _ => (lo_iD (fun _ => (l_X4_beginAlways_b26  hT2)) (fun _ => (lo_vD (l_X7_count  hT2) (fun _ hT5 => (lo_dD (l_X0_get  hT5) (fun _ _ hT8 => (lo_vD (l_X7_write  hT8) (fun _ hT10 => (lo_vD (l_X4_keepWay  hT10) (fun _ hT11 => (lo_sD hT11)))))))))))))))
set_option maxHeartbeats 200000 in
theorem l_X4_leaveRound_b131 {a1 : Nat} {Sn : q_V} (h : lc bR v0 Sn) : lo_V bR v0 (fX4_leaveRound_b131 a1 Sn) := by
  unfold fX4_leaveRound_b131
  exact (lo_sV h)
set_option maxHeartbeats 200000 in
theorem l_X4_leaveRound_b113 {a1 : Nat} {Sn : q_V} (h : lc bR v0 Sn) : lo_V bR v0 (fX4_leaveRound_b113 a1 Sn) := by
  unfold fX4_leaveRound_b113
  exact (lo_dV (l_X0_get  h) (fun _ _ hT2002 => (lo_vV (l_X4_leave  hT2002) (fun _ hT2004 => (l_X4_leaveRound_b131  hT2004)))))
set_option maxHeartbeats 200000 in
theorem l_X4_leaveRound_b67 {a1 : Nat} {xn2 : Int32} {Sn : q_V} (h : lc bR v0 Sn) : lo_V bR v0 (fX4_leaveRound_b67 a1 xn2 Sn) := by
  unfold fX4_leaveRound_b67
  exact (lo_iV (fun _ => (lo_iV (fun _ => (l_X4_leaveRound_b113  h)) (fun _ => (lo_vV (l_X10_become  h) (fun _ hT3002 => (lo_dV (l_X0_get  hT3002) (fun _ _ hT3004 => (lo_vV (l_X4_leave  hT3004) (fun _ hT3006 => (l_X4_leaveRound_b131  hT3006)))))))))) (fun _ => (l_X4_leaveRound_b113  h)))
set_option maxHeartbeats 200000 in
theorem l_X4_leaveRound_b41 {a1 : Nat} {xt0 : Int32} {Sn : q_V} (h : lc bR v0 Sn) : lo_V bR v0 (fX4_leaveRound_b41 a1 xt0 Sn) := by
  unfold fX4_leaveRound_b41
  exact (lo_iV (fun _ => (lo_iV (fun _ => (l_X4_leaveRound_b67  h)) (fun _ => (lo_vV (l_X10_become  h) (fun _ hT4002 => (l_X4_leaveRound_b67  hT4002)))))) (fun _ => (l_X4_leaveRound_b67  h)))
set_option maxHeartbeats 200000 in
theorem l_X4_leaveRound_b22 {a1 : Nat} {Sn : q_V} (h : lc bR v0 Sn) : lo_V bR v0 (fX4_leaveRound_b22 a1 Sn) := by
  unfold fX4_leaveRound_b22
  exact (lo_iV (fun _ => (l_X4_leaveRound_b41  h)) (fun _ => (l_X4_leaveRound_b41  h)))
set_option maxHeartbeats 200000 in
theorem l_X4_leaveRound {a1 : Nat} {S : q_V} (h : lc bR v0 S) : lo_V bR v0 (fX4_leaveRound a1 S) := by
  unfold fX4_leaveRound
  exact (lo_dV (l_X4_beginAlways  h) (fun _ _ hT1 => (lo_iV (fun _ => (lo_iV (fun _ => (lo_vV (l_X4_takeWayBack  hT1) (fun _ hT3 => (l_X4_leaveRound_b22  hT3)))) (fun _ => (l_X4_leaveRound_b22  hT1)))) (fun _ => (lo_sV hT1)))))
set_option maxHeartbeats 200000 in
theorem l_X4_leaveTry_b118 {a1 : Nat} {Sn : q_V} (h : lc bR v0 Sn) : lo_V bR v0 (fX4_leaveTry_b118 a1 Sn) := by
  unfold fX4_leaveTry_b118
  exact (lo_sV h)
set_option maxHeartbeats 200000 in
theorem l_X4_leaveTry_b92 {a1 : Nat} {Sn : q_V} (h : lc bR v0 Sn) : lo_V bR v0 (fX4_leaveTry_b92 a1 Sn) := by
  unfold fX4_leaveTry_b92
  exact (lo_dV (l_X4_beginAlways  h) (fun _ _ hT2001 => (lo_iV (fun _ => (lo_dV (l_X0_get  hT2001) (fun _ _ hT2004 => (lo_vV (l_X4_leave  hT2004) (fun _ hT2006 => (l_X4_leaveTry_b118  hT2006)))))) (fun _ => (l_X4_leaveTry_b118  hT2001)))))
set_option maxHeartbeats 200000 in
theorem l_X4_leaveTry_b61 {a1 : Nat} {Sn : q_V} (h : lc bR v0 Sn) : lo_V bR v0 (fX4_leaveTry_b61 a1 Sn) := by
  unfold fX4_leaveTry_b61
  exact (lo_iV (fun _ => (lo_wV (lcI h rfl) (fun _ hT3003 => (l_X4_leaveTry_b92  hT3003)))) (fun _ => (lo_iV (fun _ => (l_X4_leaveTry_b92  h)) (fun _ => (lo_vV (l_X4_takeWayBack  h) (fun _ hT3001 => (l_X4_leaveTry_b92  hT3001)))))))
set_option maxHeartbeats 200000 in
theorem l_X4_leaveTry {a1 : Nat} {S : q_V} (h : lc bR v0 S) : lo_V bR v0 (fX4_leaveTry a1 S) := by
  unfold fX4_leaveTry
  exact (lo_dV (l_X0_get  h) (fun _ _ hT2 => (lo_iV (fun _ => (lo_iV (fun _ => (lo_iV (fun _ => (l_X4_leaveTry_b61  hT2)) (fun _ => (lo_dV (l_X0_get  hT2) (fun _ _ hT6 => (lo_wV (lcI hT6 rfl) (fun _ hT8 => (lo_vV (l_X4_keepWay  hT8) (fun _ hT9 => (lo_sV hT9)))))))))) (fun _ => (l_X4_leaveTry_b61  hT2)))) (fun _ => (l_X4_leaveTry_b61  hT2)))))
set_option maxHeartbeats 200000 in
theorem l_X4_leaveEnsure_b70 {a1 : Nat} {Sn : q_V} (h : lc bR v0 Sn) : lo_V bR v0 (fX4_leaveEnsure_b70 a1 Sn) := by
  unfold fX4_leaveEnsure_b70
  exact (lo_sV h)
set_option maxHeartbeats 200000 in
theorem l_X4_leaveEnsure {a1 : Nat} {S : q_V} (h : lc bR v0 S) : lo_V bR v0 (fX4_leaveEnsure a1 S) := by
  unfold fX4_leaveEnsure
  exact (lo_iV (fun _ => (lo_vV (l_X4_takeWayBack  h) (fun _ hT9 => (lo_dV (l_X0_get  hT9) (fun _ _ hT11 => (lo_vV (l_X4_leave  hT11) (fun _ hT13 => (l_X4_leaveEnsure_b70  hT13)))))))) (fun _ => (lo_dV (l_X4_spend  h) (fun _ _ hT1 => (lo_iV (fun _ => (l_X4_leaveEnsure_b70  hT1)) (fun _ => (lo_dV (l_X0_get  hT1) (fun _ _ hT4 => (lo_wV (lcI hT4 rfl) (fun _ hT6 => (lo_vV (l_X4_keepWay  hT6) (fun _ hT7 => (l_X4_leaveEnsure_b70  hT7)))))))))))))
set_option maxHeartbeats 200000 in
theorem l_X4_endCall_b109 {a1 : Nat} {Sn : q_V} (h : lc bR v0 Sn) : lo_V bR v0 (fX4_endCall_b109 a1 Sn) := by
  unfold fX4_endCall_b109
  exact (lo_sV h)
set_option maxHeartbeats 200000 in
theorem l_X4_endCall_b86 {a1 : Nat} {xt0 : Int32} {Sn : q_V} (h : lc bR v0 Sn) : lo_V bR v0 (fX4_endCall_b86 a1 xt0 Sn) := by
  unfold fX4_endCall_b86
  exact (lo_vV (l_X4_goOn  h) (fun _ hT2001 => (lo_wV (lcI hT2001 rfl) (fun _ hT2002 => (lo_vV (l_X4_push  hT2002) (fun _ hT2003 => (l_X4_endCall_b109  hT2003)))))))
set_option maxHeartbeats 200000 in
theorem l_X4_endCall_b54 {a1 : Nat} {xt0 : Int32} {Sn : q_V} (h : lc bR v0 Sn) : lo_V bR v0 (fX4_endCall_b54 a1 xt0 Sn) := by
  unfold fX4_endCall_b54
  exact (lo_wV (lcI h rfl) (fun _ hT3001 => (l_X4_endCall_b109  hT3001)))
set_option maxHeartbeats 200000 in
theorem l_X4_endCall_b36 {a1 : Nat} {xt0 : Int32} {Sn : q_V} (h : lc bR v0 Sn) : lo_V bR v0 (fX4_endCall_b36 a1 xt0 Sn) := by
  unfold fX4_endCall_b36
  exact (lo_iV (fun _ => (lo_iV (fun _ => (lo_iV (fun _ => (l_X4_endCall_b86  h)) (fun _ => (l_X4_endCall_b86  h)))) (fun _ => (l_X4_endCall_b109  h)))) (fun _ => (lo_iV (fun _ => (l_X4_endCall_b54  h)) (fun _ => (l_X4_endCall_b54  h)))))
set_option maxHeartbeats 200000 in
theorem l_X4_endCall {a1 : Nat} {S : q_V} (h : lc bR v0 S) : lo_V bR v0 (fX4_endCall a1 S) := by
  unfold fX4_endCall
  exact (lo_wV (lcI h rfl) (fun _ hT1 => (lo_wV (lcI hT1 rfl) (fun _ hT2 => (lo_iV (fun _ => (l_X4_endCall_b36  hT2)) (fun _ => (l_X4_endCall_b36  hT2)))))))
set_option maxHeartbeats 200000 in
theorem l_X4_leaveCall_b76 {a1 : Nat} {Sn : q_V} (h : lc bR v0 Sn) : lo_V bR v0 (fX4_leaveCall_b76 a1 Sn) := by
  unfold fX4_leaveCall_b76
  exact (lo_sV h)
set_option maxHeartbeats 200000 in
theorem l_X4_leaveCall_b13 {a1 : Nat} {Sn : q_V} (h : lc bR v0 Sn) : lo_V bR v0 (fX4_leaveCall_b13 a1 Sn) := by
  unfold fX4_leaveCall_b13
  exact (lo_dV (l_X4_frame  h) (fun _ _ hT2001 => (lo_dV (l_X3_hasLater  hT2001) (fun _ _ hT2003 => (lo_iV (fun _ => (lo_vV (l_X4_endCall  hT2003) (fun _ hT2005 => (l_X4_leaveCall_b76  hT2005)))) (fun _ => (lo_dV (l_X4_frame  hT2003) (fun _ _ hT2006 => (lo_dV (l_X3_takeLater  hT2006) (fun _ _ hT2008 => (lo_vV (l_X7_count  hT2008) (fun _ hT2011 => (lo_dV (l_X0_get  hT2011) (fun _ _ hT2014 => (lo_vV (l_X7_write  hT2014) (fun _ hT2016 => (lo_vV (l_X4_keepWay  hT2016) (fun _ hT2017 => (l_X4_leaveCall_b76  hT2017)))))))))))))))))))
set_option maxHeartbeats 200000 in
theorem l_X4_leaveCall {a1 : Nat} {S : q_V} (h : lc bR v0 S) : lo_V bR v0 (fX4_leaveCall a1 S) := by
  unfold fX4_leaveCall
  exact (lo_iV (fun _ => (lo_vV (l_X4_takeWayBack  h) (fun _ hT1 => (l_X4_leaveCall_b13  hT1)))) (fun _ => (l_X4_leaveCall_b13  h)))
set_option maxHeartbeats 200000 in
theorem l_X4_leaveTop_b85  {Sn : q_V} (h : lc bR v0 Sn) : lo_V bR v0 (fX4_leaveTop_b85  Sn) := by
  unfold fX4_leaveTop_b85
  exact (lo_sV h)
set_option maxHeartbeats 200000 in
theorem l_X4_leaveTop_b80 {an1 : Nat} {Sn : q_V} (h : lc bR v0 Sn) : lo_V bR v0 (fX4_leaveTop_b80 an1 Sn) := by
  unfold fX4_leaveTop_b80
  exact (lo_vV (l_X4_leaveCall  h) (fun _ hT2001 => (l_X4_leaveTop_b85  hT2001)))
set_option maxHeartbeats 200000 in
theorem l_X4_leaveTop  {S : q_V} (h : lc bR v0 S) : lo_V bR v0 (fX4_leaveTop  S) := by
  unfold fX4_leaveTop
  exact (lo_dV (l_X4_top  h) (fun _ _ hT1 => (lo_xV (lo_iV (fun _ => (lo_vV (l_X4_leaveHold  hT1) (fun _ hT5 => (l_X4_leaveTop_b85  hT5)))) (fun _ => (lo_iV (fun _ => (lo_vV (l_X4_leaveRound  hT1) (fun _ hT7 => (l_X4_leaveTop_b85  hT7)))) (fun _ => (lo_iV (fun _ => (lo_vV (l_X4_leaveTry  hT1) (fun _ hT9 => (l_X4_leaveTop_b85  hT9)))) (fun _ => (lo_iV (fun _ => (l_X4_leaveTop_b80  hT1)) (fun _ => (lo_iV (fun _ => (l_X4_leaveTop_b80  hT1)) (fun _ => (lo_iV (fun _ => (lo_vV (l_X4_leaveEnsure  hT1) (fun _ hT13 => (l_X4_leaveTop_b85  hT13)))) (fun _ => (l_X4_leaveTop_b80  hT1))))))))))))))))
set_option maxHeartbeats 200000 in
theorem l_X4_step_b80  {Sn : q_V} (h : lc bR v0 Sn) : lo_V bR v0 (fX4_step_b80  Sn) := by
  unfold fX4_step_b80
  exact (lo_sV h)
set_option maxHeartbeats 200000 in
theorem l_X4_step  {S : q_V} (h : lc bR v0 S) : lo_V bR v0 (fX4_step  S) := by
  unfold fX4_step
  exact (lo_dV (l_X4_take  h) (fun _ _ hT1 => (lo_iV (fun _ => (lo_iV (fun _ => (lo_iV (fun _ => (lo_iV (fun _ => (lo_iV (fun _ => (lo_vV (l_X4_beginOrEnd  hT1) (fun _ hT3 => (l_X4_step_b80  hT3)))) (fun _ => (lo_vV (l_X4_order  hT1) (fun _ hT4 => (l_X4_step_b80  hT4)))))) (fun _ => (lo_vV (l_X4_flow  hT1) (fun _ hT6 => (l_X4_step_b80  hT6)))))) (fun _ => (lo_vV (l_X4_workQuery  hT1) (fun _ hT8 => (l_X4_step_b80  hT8)))))) (fun _ => (lo_vV (l_X4_workPair  hT1) (fun _ hT10 => (l_X4_step_b80  hT10)))))) (fun _ => (lo_vV (l_X4_workSingle  hT1) (fun _ hT12 => (l_X4_step_b80  hT12)))))))
set_option maxHeartbeats 200000 in
theorem l_X4_tellEnd_b184 {x1 : Int32} {Sn : q_V} (h : lc bR v0 Sn) : lo_V bR v0 (fX4_tellEnd_b184 x1 Sn) := by
  unfold fX4_tellEnd_b184
  exact (lo_sV h)
set_option maxHeartbeats 200000 in
theorem l_X4_tellEnd_b83 {x1 : Int32} {xt0 : Int32} {xt1 : Int32} {Sn : q_V} (h : lc bR v0 Sn) : lo_V bR v0 (fX4_tellEnd_b83 x1 xt0 xt1 Sn) := by
  unfold fX4_tellEnd_b83
  exact (lo_vV (l_X7_set  h) (fun _ hT2001 => (lo_vV (l_X7_set  hT2001) (fun _ hT2004 => (l_X4_tellEnd_b184  hT2004)))))
set_option maxHeartbeats 200000 in
theorem l_X4_tellEnd {x1 : Int32} {S : q_V} (h : lc bR v0 S) : lo_V bR v0 (fX4_tellEnd x1 S) := by
  unfold fX4_tellEnd
  exact (lo_vV (l_X7_set  h) (fun _ hT2 => (lo_vV (l_X7_set  hT2) (fun _ hT4 => (lo_dV (l_X7_get  hT4) (fun _ _ hT6 => (lo_vV (l_X7_set  hT6) (fun _ hT8 => (lo_iV (fun _ => (lo_iV (fun _ => (l_X4_tellEnd_b83  hT8)) (fun _ => (l_X4_tellEnd_b83  hT8)))) (fun _ => (lo_iV (fun _ => (lo_vV (l_X7_set  hT8) (fun _ hT13 => (lo_vV (l_X7_set  hT13) (fun _ hT16 => (lo_vV (l_X7_set  hT16) (fun _ hT19 => (lo_vV (l_X7_set  hT19) (fun _ hT22 => (l_X4_tellEnd_b184  hT22)))))))))) (fun _ => (lo_vV (l_X1_dropHolds  hT8) (fun _ hT10 => (l_X4_tellEnd_b184  hT10)))))))))))))))
set_option maxHeartbeats 200000 in
theorem l_X4_perform_b154 {x2 : Int32} {x3 : Int32} {x4 : Int32} {x5 : Int32} {Sn : q_V} (h : lc bR v0 Sn) : lo_D bR v0 (fX4_perform_b154 x2 x3 x4 x5 Sn) := by
  unfold fX4_perform_b154
  exact (lo_vD (l_X4_tellEnd  h) (fun _ hT1001 => (lo_sD hT1001)))
set_option maxHeartbeats 200000 in
theorem l_X4_perform_b148 {x2 : Int32} {x3 : Int32} {x4 : Int32} {x5 : Int32} {xn6 : Int32} {K112 : Int32 → q_V → Option (Int32 × q_V)} (kK112 : ∀ a0 S, lc bR v0 S → lo_D bR v0 (K112 a0 S)) {Sn : q_V} (h : lc bR v0 Sn) : lo_D bR v0 (fX4_perform_b148 x2 x3 x4 x5 xn6 K112 Sn) := by
  unfold fX4_perform_b148
  exact (lo_xD (kK112 _ _ h))
set_option maxHeartbeats 200000 in
theorem l_X4_perform_L112 {x2 : Int32} {x3 : Int32} {x4 : Int32} {x5 : Int32} : ∀ n xn6 Sn, lc bR v0 Sn → lo_D bR v0 (fX4_perform_L112 x2 x3 x4 x5 n xn6 Sn) := by
  intro n
  induction n with
  | zero => intro xn6 Sn _; exact lo_nD
  | succ n ih =>
    intro xn6 Sn h
    rw [fX4_perform_L112]
    exact (lo_iD (fun _ => (l_X4_perform_b154  h)) (fun _ => (lo_iD (fun _ => (lo_iD (fun _ => (lo_vD (l_X4_step  h) (fun _ hT3003 => (l_X4_perform_b148 (fun _ _ hk => (ih _ _ hk)) hT3003)))) (fun _ => (lo_vD (l_X4_leaveTop  h) (fun _ hT3002 => (l_X4_perform_b148 (fun _ _ hk => (ih _ _ hk)) hT3002)))))) (fun _ => (l_X4_perform_b154  h)))))
set_option maxHeartbeats 200000 in
theorem l_X4_perform_b95 {x2 : Int32} {x3 : Int32} {x4 : Int32} {x5 : Int32} {xn6 : Int32} {xt0 : Int32} {K60 : Int32 → q_V → Option (Int32 × q_V)} (kK60 : ∀ a0 S, lc bR v0 S → lo_D bR v0 (K60 a0 S)) {Sn : q_V} (h : lc bR v0 Sn) : lo_D bR v0 (fX4_perform_b95 x2 x3 x4 x5 xn6 xt0 K60 Sn) := by
  unfold fX4_perform_b95
  exact (lo_vD (l_X4_push  h) (fun _ hT4001 => (lo_xD (kK60 _ _ hT4001))))
set_option maxHeartbeats 200000 in
theorem l_X4_perform_L60 {x2 : Int32} {x3 : Int32} {x4 : Int32} {x5 : Int32} : ∀ n xn6 Sn, lc bR v0 Sn → lo_D bR v0 (fX4_perform_L60 x2 x3 x4 x5 n xn6 Sn) := by
  intro n
  induction n with
  | zero => intro xn6 Sn _; exact lo_nD
  | succ n ih =>
    intro xn6 Sn h
    rw [fX4_perform_L60]
    exact (lo_dD (l_X0_parameters  h) (fun _ _ hT5002 => (lo_iD (fun _ => (lo_vD (l_X4_call  hT5002) (fun _ hT5004 => (l_X4_perform_L112  _ _ _ hT5004)))) (fun _ => (lo_iD (fun _ => (l_X4_perform_b95 (fun _ _ hk => (ih _ _ hk)) hT5002)) (fun _ => (lo_iD (fun _ => (l_X4_perform_b95 (fun _ _ hk => (ih _ _ hk)) hT5002)) (fun _ => (l_X4_perform_b95 (fun _ _ hk => (ih _ _ hk)) hT5002)))))))))
set_option maxHeartbeats 200000 in
theorem l_X4_performR {x2 : Int32} {x3 : Int32} {x4 : Int32} {x5 : Int32} {S : q_V} (h : lc bR v0 S) : lo_D bR v0 (fX4_performR x2 x3 x4 x5 S) := by
  unfold fX4_performR
  exact (lo_vD (l_X7_clear  h) (fun _ hT3 => (lo_wD (lcI hT3 rfl) (fun _ hT4 => (lo_wD (lcI hT4 rfl) (fun _ hT5 => (lo_wD (lcI hT5 rfl) (fun _ hT6 => (lo_wD (lcI hT6 rfl) (fun _ hT7 => (lo_wD (lcI hT7 rfl) (fun _ hT8 => (lo_wD (lcI hT8 rfl) (fun _ hT9 => (lo_wD (lcI hT9 rfl) (fun _ hT10 => (lo_vD (l_X10_become  hT10) (fun _ hT12 => (l_X4_perform_L60  _ _ _ hT12)))))))))))))))))))
end
