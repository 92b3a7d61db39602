/-- one duty of the text, for the reference -/
def txt (F : q_V → Option q_V) (S : q_V) : Option q_V := q_bv (fX12_duty S) (fun T1 => q_bd (fX12_fine T1) (fun y3 T2 => if y3 = 0 then fX12_text_b23 T2 else if (q_i T2 2410) < 0 ∨ 3002 ≤ (q_i T2 2410).toNatClampNeg then none else if (q_a T2 2404 (q_i T2 2410).toNatClampNeg) = 0 then fX12_text_b23 T2 else F T2))
section
variable {g : rd_G} {v w v0 w0 v1 w1 : q_V} {f x : Int32}
set_option maxHeartbeats 200000 in
theorem txt_0 : fX12_text w = txt (fX12_text_L0 q_N) w := rfl
set_option maxHeartbeats 200000 in
theorem txt_s {N : Nat} : fX12_text_L0 (N + 1) w = txt (fX12_text_L0 N) w := by rw [fX12_text_L0]; rfl
set_option maxHeartbeats 200000 in
theorem xC_78 {x2 : Int32} (h : xC v0 f x v) : ∃ v', fX8_readText_b78 x2 v = some v' ∧ xC v0 f x v' := by
  unfold fX8_readText_b78 fX8_readText_b98
  rw [if_neg (show ¬ q_i v 1805 = 261 by rw [h.2.1]; decide), xC_ref h, q_bv_s]; exact ⟨v, rfl, h⟩
set_option maxHeartbeats 200000 in
/-- the whole text -/
theorem t_text (G : GT g) {x2 : Int32} : ∀ t dl i p C q d r R K e e' Y v w N1 N2, 301 - dl.length = t → t < N1 → t < N2 → TY g v0 w0 dl i p C q d r R K e e' Y v w → ∃ v' w1, q_bv (fX8_readDuty (nI dl.length) v) (fun T => fX8_readText_L47 x2 N1 (nI (dl.length + 1)) T) = some v' ∧ txt (fX12_text_L0 N2) w = fX12_text_b23 w1 ∧ ((∃ f x, xC v0 f x v' ∧ xR w0 f x w1) ∨ ∃ dl i p C q d r R K A e e' Y, tkc g i = 261 ∧ 0 < dl.length ∧ TX g v0 w0 dl i p C q d r R K A e e' Y v' w1) := by
  intro t
  induction t using Nat.strongRecOn with
  | ind t ih =>
    intro dl i p C q d r R K e e' Y v w N1 N2 ht hN1 hN2 X
    obtain ⟨N1, rfl⟩ : ∃ y, N1 = y + 1 := ⟨N1 - 1, by omega⟩
    obtain ⟨N2, rfl⟩ : ∃ y, N2 = y + 1 := ⟨N2 - 1, by omega⟩
    have hX3 := X.2.2.1.1
    have hL : gL g ≤ 3000 := X.1.1.1
    have hta : tka g i ≤ gL g := (tk_al X.1.1.1 i).2
    obtain ⟨v1, w1, a1, b1, J⟩ := t_duty G X
    unfold txt
    rw [a1, q_bv_s, b1, q_bv_s, fX8_readText_L47]
    rcases J with ⟨f, x, x1, y1⟩ | ⟨rc, i2, p2, C2, q2, d2, r2, R2, K2, A2, e2, e2', Y2, X2⟩
    · obtain ⟨v2, a2, x2'⟩ := xC_78 (x2 := x2) x1
      rw [if_neg (show ¬ q_i v1 1805 = 300 by rw [x1.2.1]; decide), ite_self, a2, xR_fine y1, q_bd_s, if_pos rfl]
      exact ⟨v2, w1, rfl, rfl, Or.inl ⟨f, x, x2', y1⟩⟩
    · have X2' := X2
      obtain ⟨⟨ok, kv, kw⟩, ⟨k, s, l, b, sc⟩, ⟨z1, z2, z3, z4, z5⟩, _⟩ := X2'
      rw [List.length_append, List.length_singleton] at z1
      have h := SC_St sc
      have hta2 : tka g i2 ≤ gL g := (tk_al X.1.1.1 i2).2
      have hin := r_in ok h
      rw [if_neg (show ¬ (3000 : Int32) < nI (dl.length + 1) from ni_nlt (a := 3000) (by omega) (by omega)), c_kind h, r_fine h, q_bd_s, if_neg (show ¬ (1 : Int32) = 0 by decide), r_i h, if_neg hin.2.1, hin.2.2, r_kind ok h, show tkc (reb g v1 w1) i2 = tkc g i2 from rfl]
      by_cases c300 : tkc g i2 = 300
      · have := ih (301 - (dl ++ [rc]).length) (by rw [List.length_append, List.length_singleton]; omega) (dl ++ [rc]) i2 p2 C2 q2 d2 r2 R2 K2 e2 e2' Y2 v1 w1 N1 N2 rfl (by rw [List.length_append, List.length_singleton]; omega) (by rw [List.length_append, List.length_singleton]; omega) (TX_Y X2)
        rw [List.length_append, List.length_singleton] at this
        rw [if_pos c300, if_neg (show ¬ tk_m (tkc g i2) = 0 by rw [c300]; decide), txt_s]
        simp only [q_lt_s, ni_add1]
        exact this
      · rw [if_neg c300]
        unfold fX8_readText_b78 fX8_readText_b98
        rw [c_kind h, show tkc (reb g v1 w1) i2 = tkc g i2 from rfl]
        by_cases c261 : tkc g i2 = 261
        · rw [if_pos c261, if_pos (show tk_m (tkc g i2) = 0 by rw [c261]; decide)]
          exact ⟨v1, w1, rfl, rfl, Or.inr ⟨dl ++ [rc], i2, p2, C2, q2, d2, r2, R2, K2, A2, e2, e2', Y2, c261, by rw [List.length_append, List.length_singleton]; omega, X2⟩⟩
        · obtain ⟨v3, a3, x3⟩ := c_refuse h
          obtain ⟨w3, b3, y3⟩ := r_takeX (c := 300) (x := 10) (Bd := 3011) ok h rfl (by decide) c300 (by omega)
          obtain ⟨_, w4, b4, y4⟩ := y_take (x := 2) y3
          have ne0 : ¬ tk_m (tkc g i2) = 0 := r_kn (g := reb g v1 w1) (x := 0) (c := 261) ok c261 (by decide) rfl
          rw [if_neg c261, a3, q_bv_s, if_neg ne0, txt_s]
          unfold txt fX12_duty
          rw [b3, q_bv_s, q_lt_s, vu_ex b4, q_bv_s, y_fine y4, q_bd_s, if_pos rfl, q_bv_s, y_fine y4, q_bd_s, if_pos rfl]
          exact ⟨v3, w4, rfl, rfl, Or.inl ⟨_, _, xC_of x3 kv, xR_of y4 kw⟩⟩
end
