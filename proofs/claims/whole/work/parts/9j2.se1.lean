section
variable {g : rd_G} {i n p i' n' q d k s l b e e' : Nat} {C : Nat → Int32} {r : Int32} {R : Nat → Nat → Int32} {K : rd_K} {A : rd_A} {v w : q_V} {T : co_T} {XL : Int32 → Int32 → Int32 → Prop}
variable {B : q_V → Option (Int32 × q_V)} {B' : q_V → Option (Int64 × q_V)}
/-- the class's part: five numbers -/
def cP (C : Nat → Int32) (p : Nat) (x y : Int32) : Nat → Int32 := upd (upd (upd (upd (upd C p x) (p + 1) y) (p + 2) 0) (p + 3) 0) (p + 4) 0
set_option maxHeartbeats 200000 in
theorem cP_x {x y : Int32} {m : Nat} (h : m < p ∨ p + 5 ≤ m) : cP C p x y m = C m := by
  unfold cP; rw [upd_ne (by omega), upd_ne (by omega), upd_ne (by omega), upd_ne (by omega), upd_ne (by omega)]
set_option maxHeartbeats 200000 in
theorem cP_0 {x y : Int32} : cP C p x y p = x := by
  unfold cP; rw [upd_ne (by omega), upd_ne (by omega), upd_ne (by omega), upd_ne (by omega), upd_at]
set_option maxHeartbeats 200000 in
theorem cP_1 {x y : Int32} : cP C p x y (p + 1) = y := by
  unfold cP; rw [upd_ne (by omega), upd_ne (by omega), upd_ne (by omega), upd_at]
set_option maxHeartbeats 200000 in
theorem cP_2 {x y : Int32} : cP C p x y (p + 2) = 0 := by
  unfold cP; rw [upd_ne (by omega), upd_ne (by omega), upd_at]
set_option maxHeartbeats 200000 in
theorem cP_3 {x y : Int32} : cP C p x y (p + 3) = 0 := by
  unfold cP; rw [upd_ne (by omega), upd_at]
set_option maxHeartbeats 200000 in
theorem cP_4 {x y : Int32} : cP C p x y (p + 4) = 0 := by unfold cP; rw [upd_at]
set_option maxHeartbeats 200000 in
theorem c_part {x y : Int32} (ok : rd_ok g) (h : St g i n p C i' n' q d r R K k s l b A e e' v w) (hp : p + 4 < 2 * gL g + 16) : ∃ v', fX0_addPart x y v = some (nI p, v') ∧ St g i n (p + 5) (cP C p x y) i' n' q d r R K k s l b A e e' v' w := by
  obtain ⟨v1, a1, s1⟩ := c_add2 (x := x) (y := y) ok h (by omega)
  obtain ⟨v2, a2, s2⟩ := c_add (y := 0) ok s1 (by omega)
  obtain ⟨v3, a3, s3⟩ := c_add (y := 0) ok s2 (by omega)
  obtain ⟨v4, a4, s4⟩ := c_add (y := 0) ok s3 (by omega)
  unfold fX0_addPart
  rw [a1, q_bd_s, a2, q_bd_s, a3, q_bd_s, a4, q_bd_s]
  exact ⟨v4, rfl, s4⟩
/-- the reference's description -/
def rD (R : Nat → Nat → Int32) (d : Nat) (y : Int32) : Nat → Nat → Int32 := rO (rO (rO (rO R 6 d y) 4 d (-1)) 8 d (-1)) 7 d (-1)
set_option maxHeartbeats 200000 in
theorem rD_x {j x : Nat} {y : Int32} (h : j < 3 ∨ x ≠ d) : rD R d y j x = R j x := by
  unfold rD
  rw [rO_x (by omega), rO_x (by omega), rO_x (by omega), rO_x (by omega)]
set_option maxHeartbeats 200000 in
theorem rD_6 {y : Int32} : rD R d y 6 d = y := by unfold rD; rw [rO_x (by omega), rO_x (by omega), rO_x (by omega), rO_at]
set_option maxHeartbeats 200000 in
theorem rD_4 {y : Int32} : rD R d y 4 d = -1 := by unfold rD; rw [rO_x (by omega), rO_x (by omega), rO_at]
set_option maxHeartbeats 200000 in
theorem rD_8 {y : Int32} : rD R d y 8 d = -1 := by unfold rD; rw [rO_x (by omega), rO_at]
set_option maxHeartbeats 200000 in
theorem rD_7 {y : Int32} : rD R d y 7 d = -1 := by unfold rD; rw [rO_at]
set_option maxHeartbeats 200000 in
theorem r_d1 (h : St g i n p C i' n' q d r R K k s l b A e e' v w) : St g i n p C i' n' q (d + 1) r R K k s l b A e e' v (q_si w 2424 (nI (d + 1))) := by
  obtain ⟨f, F, t, B, Y, N, M⟩ := h
  refine ⟨f, rdF_i F (by omega), t, B, ?_, sN_ri N (by omega), sM_ri M (by omega)⟩
  unfold sR at Y ⊢
  rw [q_i_ne (by omega), q_i_ne (by omega), q_i_ne (by omega), q_i_ne (by omega), q_i_at, q_i_ne (by omega), q_i_ne (by omega), q_a_si]
  exact ⟨⟨Y.1.1, Y.1.2.1, Y.1.2.2.1, Y.1.2.2.2.1, rfl, Y.1.2.2.2.2.2⟩, Y.2.1, sK_i Y.2.2.1, Y.2.2.2⟩
set_option maxHeartbeats 200000 in
theorem r_desc {t : Nat} (ok : rd_ok g) (h : St g i n p C i' n' q d r R K k s l b A e e' v w) (ht : t ≤ gm g) (hd : d < 640) : ∃ w', fX12_describe (nI t) w = some (nI d, w') ∧ St g i n p C i' n' q (d + 1) r (rD R d (nI (tka g t))) K k s l b A e e' v w' := by
  have hm := ok.2.2.1.2.2
  have hp := r_place ok h ht
  have hi : ¬ (nI t < 0 ∨ 3002 ≤ (nI t).toNatClampNeg) := ni_nin (by omega) (by omega)
  have hj : ¬ (nI d < 0 ∨ 640 ≤ (nI d).toNatClampNeg) := ni_nin hd (by omega)
  have s1 := r_d1 h
  have s2 := r_set (j := 6) (a := d) (y := nI (tka g t)) s1 (by omega)
  have s3 := r_set (j := 4) (a := d) (y := -1) s2 (by omega)
  have s4 := r_set (j := 8) (a := d) (y := -1) s3 (by omega)
  have s5 := r_set (j := 7) (a := d) (y := -1) s4 (by omega)
  refine ⟨_, ?_, s5⟩
  have n1 : (nI t < 0) = False := ni_neg (by omega)
  have n2 : (3002 ≤ t) = False := eq_false (by omega)
  have n3 : (nI d < 0) = False := ni_neg (by omega)
  have n4 : (640 ≤ d) = False := eq_false (by omega)
  unfold fX12_describe
  simp only [h.2.2.2.2.1.1.2.2.2.2.1, q_lt_s, ni_add1, n1, n2, n3, n4, or_self, ↓reduceIte, ni_clamp (show t < 2147483648 by omega), ni_clamp (show d < 2147483648 by omega), q_a_si, hp]
  rfl
set_option maxHeartbeats 200000 in
theorem in6 {a : Nat} (h : a < 640) : ¬ (nI a < 0 ∨ 640 ≤ (nI a).toNatClampNeg) := ni_nin h (by omega)
set_option maxHeartbeats 200000 in
theorem wy_z {o : Int32} {z : Int64} (h : wy l o z) (hl : l ≤ 14) : o = 0 ↔ z = 0 := by
  constructor
  · intro ho
    subst ho
    apply Int64.toBitVec_inj.1
    apply BitVec.eq_of_getLsbD_eq
    intro x hx
    rw [h.1 x hx, show wf 0 x = (0 : Int64).toBitVec.getLsbD x from (wy_k (l := 0)).1.1 x hx ▸ rfl]
  · intro hz
    subst hz
    apply Int32.toBitVec_inj.1
    apply BitVec.eq_of_getLsbD_eq
    intro x hx
    have e0 : ∀ y, y < 32 → (0 : Int32).toBitVec.getLsbD y = false := by decide
    have e1 : ∀ y, y < 64 → (0 : Int64).toBitVec.getLsbD y = false := by decide
    rw [e0 x hx]
    by_cases c : 3 + 2 * l ≤ x
    · exact h.2 x c
    · by_cases c1 : x < 3
      · have := h.1 x (by omega)
        rw [e1 x (by omega)] at this
        unfold wf at this
        rw [if_pos c1] at this; exact this.symm
      · by_cases c2 : (x - 3) % 2 = 0
        · have := h.1 (3 + (x - 3) / 2) (by omega)
          rw [e1 _ (by omega)] at this
          unfold wf at this
          rw [if_neg (by omega), if_pos (by omega), show 3 + 2 * (3 + (x - 3) / 2 - 3) = x by omega] at this; exact this.symm
        · have := h.1 (20 + (x - 4) / 2) (by omega)
          rw [e1 _ (by omega)] at this
          unfold wf at this
          rw [if_neg (by omega), if_neg (by omega), if_neg (by omega), if_pos (by omega), show 4 + 2 * (20 + (x - 4) / 2 - 20) = x by omega] at this; exact this.symm
end
