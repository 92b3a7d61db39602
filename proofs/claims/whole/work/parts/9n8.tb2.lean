/-- the duties that the class looked for ahead, as the text has them -/
def GT (g : rd_G) : Prop := ∃ n ls E, CR g n 0 ls E ∧ tkc g E = 261 ∧ gd g = min 300 ls.length ∧ ∀ j, j < gd g → ∃ y, ls[j]? = some (gn g j, y) ∧ gp g j = nI y
section
variable {g : rd_G} {i n p i' n' q d k s l b e e' D Bd : Nat} {C : Nat → Int32} {r : Int32} {R : Nat → Nat → Int32} {K : rd_K} {A : rd_A} {v w v0 w0 v1 w1 : q_V} {f x : Int32} {Y : rd_Y}
set_option maxHeartbeats 200000 in
theorem GT_pre {dl : List (Int64 × Nat)} (G : GT g) (h : CR g n 0 dl i) : ∃ ls m rest E, ls = dl ++ rest ∧ CR g m i rest E ∧ tkc g E = 261 ∧ gd g = min 300 ls.length ∧ ∀ j, j < gd g → ∃ y, ls[j]? = some (gn g j, y) ∧ gp g j = nI y := by
  obtain ⟨n0, ls, E, g1, g2, g3, g4⟩ := G
  obtain ⟨m, rest, r1, r2⟩ := CR_pre n n0 0 dl i ls E h g1 g2
  exact ⟨ls, m, rest, E, r2, r1, g2, g3, g4⟩
set_option maxHeartbeats 200000 in
/-- the next duty is the one that was looked for -/
theorem GT_next {dl : List (Int64 × Nat)} (G : GT g) (h : CR g n 0 dl i) (c300 : tkc g i = 300) (c259 : tkc g (i + 1) = 259) (hD : dl.length < 300) : dl.length < gd g ∧ gn g dl.length = tkw g (i + 1) ∧ ∀ j r, dl[j]? = some r → gn g j = r.1 := by
  obtain ⟨ls, m, rest, E, e1, e2, e3, e4, e5⟩ := GT_pre G h
  cases m with
  | zero =>
    obtain ⟨_, rfl⟩ := e2
    rw [c300] at e3; exact absurd e3 (by decide)
  | succ m =>
    rcases e2 with ⟨_, q2, _⟩ | ⟨_, q2, _⟩ | ⟨_, _, m2, c2, k2, l2, q3, q4, q5⟩
    · exact absurd c300 q2
    · exact absurd c259 q2
    · have hl : dl.length < ls.length := by rw [e1, q4, List.length_append, List.length_cons]; omega
      have hg : dl.length < gd g := by omega
      refine ⟨hg, ?_, fun j r hj => ?_⟩
      · obtain ⟨y, y1, _⟩ := e5 dl.length hg
        rw [e1, q4, List.getElem?_append_right (Nat.le_refl _), Nat.sub_self] at y1
        have := Option.some.inj y1
        exact (Prod.mk.inj this).1.symm
      · have hj2 : j < dl.length := by
          rcases Nat.lt_or_ge j dl.length with z | z
          · exact z
          · rw [List.getElem?_eq_none z] at hj; cases hj
        obtain ⟨y, y1, _⟩ := e5 j (by omega)
        rw [e1, List.getElem?_append_left hj2, hj] at y1
        have := Option.some.inj y1
        rw [this]
set_option maxHeartbeats 200000 in
theorem dE_min {a b t : Nat} : dE g D t (min a b) = min (dE g D t a) b := by
  unfold dE
  split <;> split <;> omega
set_option maxHeartbeats 200000 in
theorem dE_le {t : Nat} : dE g D t e ≤ e := by
  unfold dE
  split <;> split <;> omega
set_option maxHeartbeats 200000 in
theorem dE_30 {t : Nat} (h : dE g D t e = rd_N) (ht : 16 * tka g t + 8 < rd_N) : D < 30 := by
  rcases Nat.lt_or_ge D 30 with z | z
  · exact z
  · unfold dE at h; rw [if_neg (by omega)] at h; omega
set_option maxHeartbeats 200000 in
/-- parameters at a fault -/
theorem x_par (ok : rd_ok g) (h : xc g f x l v) (hk : rdk v0 (gv g)) (hn : q_n (gv g) 2 = 150) (hD : D < 320) : ∃ v', (if q_i v 1805 = 41 then fX8_readDuty_b94 (nI D) v else q_bv (fX8_readParameters v) (fun T17 => fX8_readDuty_b94 (nI D) T17)) = some v' ∧ xC v0 f x v' := by
  rw [if_neg (by rw [h.2.1]; decide)]
  unfold fX8_readParameters
  rw [q_N1, p_rd_L, if_neg (show ¬ (3000 : Int32) ≤ 0 by decide)]
  unfold p_rd fX8_readParameters_b56 fX8_readParameters_b84
  obtain ⟨_, v1, a1, h1⟩ := x_exp (y := 259) h
  rw [q_lt_s, q_lt_s, vu_ex a1, q_bv_s, x_stop h1, q_bd_s, if_neg (show ¬ (1 : Int32) = 0 by decide), q_bv_s, if_neg (show ¬ q_i v1 1805 = 44 by rw [h1.2.1]; decide), q_bv_s]
  exact x_94 ok h1 hk hn hD
set_option maxHeartbeats 200000 in
theorem y_par (h : xr g f x Bd w) (hk : rdK w0 (gw g)) (hB : Bd < 4000) (hD : D < 320) : ∃ w', q_bd (fX12_isSign 41 w) (fun y3015 T3014 => if y3015 = 0 then fX12_duty_L134 q_N (nI D) T3014 else fX12_duty_b148 (nI D) T3014) = some w' ∧ xR w0 f x w' := by
  rw [y_sign h, q_bd_s, if_pos rfl, q_N1, fX12_duty_L134]
  unfold fX12_parameter
  obtain ⟨_, w1, a1, h1⟩ := y_take (x := 2) h
  obtain ⟨w2, a2, h2⟩ := y_skip (x := 144) h1
  rw [q_lt_s, vu_ex a1, q_bv_s, y_fine h1, q_bd_s, if_pos rfl, q_bv_s, a2, q_bd_s, if_pos rfl]
  exact y_148 h2 hk hB hD
end
